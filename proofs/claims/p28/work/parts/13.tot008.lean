set_option maxHeartbeats 8000000 in
set_option maxRecDepth 200000 in
theorem ts_X3_standingsAt_37 {post : Int32 -> Prop} {K5 : Int32 -> Int32 -> Int32 -> Int32 -> Prop} {n5 : Int} (bD : Int32) (mX : Nat -> Int32) (wX : 0 <= Int32.toInt bD /\ Int32.toInt bD <= 8) (hpost : ∀ (r : Int32) , (0 <= Int32.toInt r /\ Int32.toInt r <= 255) -> post r) (hK5 : ∀ (x1 : Int32) (x2 : Int32) (x3 : Int32) (x4 : Int32), (0 <= Int32.toInt x2 /\ Int32.toInt x2 <= 99) -> (0 <= Int32.toInt x3 /\ Int32.toInt x3 <= 255) -> (0 <= Int32.toInt x4 /\ Int32.toInt x4 <= 8) -> (8 - Int32.toInt x4 < n5) -> K5 x1 x2 x3 x4) (x1 x2 x3 x4 : Int32) (aBN : 0 <= Int32.toInt x2 /\ Int32.toInt x2 <= 99) (aCH : 0 <= Int32.toInt x3 /\ Int32.toInt x3 <= 255) (aDO : 0 <= Int32.toInt x4 /\ Int32.toInt x4 <= 7) (hn5 : 8 - Int32.toInt x4 <= n5) : bBx post K5 bD mX x1 x2 x3 x4 := by
  have l0 := aEc
  intro v1 ev1
  have f2 : Int32.toInt (x4 + 1) = Int32.toInt x4 + Int32.toInt (1 : Int32) := aAD _ _ (by omega)
  rw [<- ev1] at f2
  have f3 := aAT x1
  exact hK5 x1 x2 x3 v1 aBN aCH (by omega) (by omega)
set_option maxHeartbeats 8000000 in
set_option maxRecDepth 200000 in
theorem ts_X3_standingsAt_5 {post : Int32 -> Prop} {next : Int32 -> Int32 -> Int32 -> Int32 -> Prop} {n5 : Int} (bD : Int32) (mX : Nat -> Int32) (wX : 0 <= Int32.toInt bD /\ Int32.toInt bD <= 8) (hpost : ∀ (r : Int32) , (0 <= Int32.toInt r /\ Int32.toInt r <= 255) -> post r) (hKn : ∀ (x1 : Int32) (x2 : Int32) (x3 : Int32) (x4 : Int32), (0 <= Int32.toInt x2 /\ Int32.toInt x2 <= 99) -> (0 <= Int32.toInt x3 /\ Int32.toInt x3 <= 255) -> (0 <= Int32.toInt x4 /\ Int32.toInt x4 <= 8) -> (8 - Int32.toInt x4 < n5) -> next x1 x2 x3 x4) (x1 x2 x3 x4 : Int32) (aBN : 0 <= Int32.toInt x2 /\ Int32.toInt x2 <= 99) (aCH : 0 <= Int32.toInt x3 /\ Int32.toInt x3 <= 255) (aDO : 0 <= Int32.toInt x4 /\ Int32.toInt x4 <= 8) (hn5 : 8 - Int32.toInt x4 <= n5) : ws_X3_standingsAt_5 post next bD mX x1 x2 x3 x4 := by
  refine And.intro (fun c4 => ?_) (fun c4 => ?_)
  · skip
    have c4 := (aAO _ _).mp c4
    exact hpost _ aCH
  · skip
    have c4 := mt (aAO _ _).mpr c4
    refine And.intro (aBZ (by omega)) ?_
    intro v5 ev5
    have hv5 := congrArg Int32.toInt ev5
    intro v7 ev7
    have hv7 := congrArg Int32.toInt ev7
    intro v9 ev9
    have hv9 := congrArg Int32.toInt ev9
    have f12 := aAT v9
    refine And.intro (fun c11 => ?_) (fun c11 => ?_)
    · skip
      have c11 := (aAd _ _).mp c11
      have f13 := aAT x1
      exact ts_X3_standingsAt_37 bD mX wX hpost hKn x1 x2 x3 x4 aBN aCH (by omega) hn5
    · skip
      have c11 := mt (aAd _ _).mpr c11
      intro v14 ev14
      have f16 := aDv 7 128 x4 (by decide) (by omega)
      have f15 := ti_or 8 256 x3 (1 <<< (x4 &&& 31)) (by decide) (by omega) (by omega)
      have hv14 := congrArg Int32.toInt ev14
      have f17 := aAT x1
      exact ts_X3_standingsAt_37 bD mX wX hpost hKn x1 x2 v14 x4 aBN (by omega) (by omega) hn5
set_option maxHeartbeats 8000000 in
set_option maxRecDepth 200000 in
theorem tb_X3_standingsAt_5 {post : Int32 -> Prop} (bD : Int32) (mX : Nat -> Int32) (wX : 0 <= Int32.toInt bD /\ Int32.toInt bD <= 8) (hpost : ∀ (r : Int32) , (0 <= Int32.toInt r /\ Int32.toInt r <= 255) -> post r) : ∀ (n : Nat) (x1 x2 x3 x4 : Int32), (0 <= Int32.toInt x2 /\ Int32.toInt x2 <= 99) -> (0 <= Int32.toInt x3 /\ Int32.toInt x3 <= 255) -> (0 <= Int32.toInt x4 /\ Int32.toInt x4 <= 8) -> (8 - Int32.toInt x4 < (n : Int)) -> wb_X3_standingsAt_5 post bD mX n x1 x2 x3 x4 := by
  intro n
  induction n with
  | zero =>
    intro x1 x2 x3 x4 aBN aCH aDO hm
    exfalso; omega
  | succ n ih =>
    intro x1 x2 x3 x4 aBN aCH aDO hm
    exact ts_X3_standingsAt_5 bD mX wX hpost ih x1 x2 x3 x4 aBN aCH aDO (by omega)
set_option maxHeartbeats 8000000 in
set_option maxRecDepth 200000 in
theorem t_X3_standingsAt {post : Int32 -> Prop} {p0 p1 bD : Int32} {mX : Nat -> Int32} (h_p1 : 0 <= Int32.toInt p1 /\ Int32.toInt p1 <= 99) (wX : 0 <= Int32.toInt bD /\ Int32.toInt bD <= 8) (hpost : ∀ (r : Int32) , (0 <= Int32.toInt r /\ Int32.toInt r <= 255) -> post r) : bBR post p0 p1 bD mX := by
  have l0 := aE0
  have f18 := aAT p0
  exact ⟨10, tb_X3_standingsAt_5 bD mX wX hpost _ p0 p1 0 0 h_p1 (by omega) (by omega) (by omega)⟩
set_option maxHeartbeats 8000000 in
set_option maxRecDepth 200000 in
theorem t_X9_marks {post : Int32 -> Prop} {p0 p1 bD : Int32} {mX : Nat -> Int32} (wX : 0 <= Int32.toInt bD /\ Int32.toInt bD <= 8) (hpost : ∀ (r : Int32) , (-1 <= Int32.toInt r /\ Int32.toInt r <= 255) -> post r) : wp_X9_marks post p0 p1 bD mX := by
  have l0 := aI2
  have l1 := aE0
  have l2 := li_99
  have f2 := aAT p0
  refine And.intro (fun c1 => ?_) (fun c1 => ?_)
  · skip
    have c1 := (aAd _ _).mp c1
    exact hpost _ (by omega)
  · skip
    have c1 := mt (aAd _ _).mpr c1
    refine And.intro (fun c3 => ?_) (fun c3 => ?_)
    · skip
      have c3 := (aAd _ _).mp c3
      exact hpost _ (by omega)
    · skip
      have c3 := mt (aAd _ _).mpr c3
      have f5 := aAT p1
      refine And.intro (fun c4 => ?_) (fun c4 => ?_)
      · skip
        have c4 := (aAd _ _).mp c4
        exact hpost _ (by omega)
      · skip
        have c4 := mt (aAd _ _).mpr c4
        refine And.intro (fun c6 => ?_) (fun c6 => ?_)
        · skip
          have c6 := (aAO _ _).mp c6
          refine t_X3_standingsAt (by omega) wX (fun r7 h_r7 => ?_)
          exact hpost _ (by omega)
        · skip
          have c6 := mt (aAO _ _).mpr c6
          exact hpost _ (by omega)
set_option maxHeartbeats 8000000 in
set_option maxRecDepth 200000 in
theorem ts_X1_readAll_5 {post : Int32 -> Int32 -> Int32 -> (Nat -> Int32) -> Prop} {next : Int32 -> Int32 -> (Nat -> Int32) -> Prop} {n5 : Int} (qL rX : Int32) (qM : Nat -> Int32) (aBH : 0 <= Int32.toInt qL /\ Int32.toInt qL <= 80) (aA2 : 0 <= Int32.toInt rX /\ Int32.toInt rX <= 80) (aAI : ∀ k : Nat, 0 <= Int32.toInt (qM k) /\ Int32.toInt (qM k) <= 65535) (hpost : ∀ (r : Int32) (aBS : Int32) (mk_many' : Int32) (mk_at' : Nat -> Int32), (0 <= Int32.toInt r /\ Int32.toInt r <= 1) -> (0 <= Int32.toInt aBS /\ Int32.toInt aBS <= 80) -> (0 <= Int32.toInt mk_many' /\ Int32.toInt mk_many' <= 6) -> post r aBS mk_many' mk_at') (hKn : ∀ (qJ : Int32) (vR : Int32) (xW : Nat -> Int32), (0 <= Int32.toInt qJ /\ Int32.toInt qJ <= 80) -> (0 <= Int32.toInt vR /\ Int32.toInt vR <= 6) -> (6 - Int32.toInt vR < n5) -> next qJ vR xW) (qJ vR : Int32) (xW : Nat -> Int32) (aA0 : 0 <= Int32.toInt qJ /\ Int32.toInt qJ <= 80) (aB3 : 0 <= Int32.toInt vR /\ Int32.toInt vR <= 6) (hn5 : 6 - Int32.toInt vR <= n5) : ws_X1_readAll_5 post next qL rX qM qJ vR xW := by
  have l0 := aI2
  have l1 := aE0
  have l2 := aEc
  have l3 := li_2
  have l4 := li_44
  have l5 := li_6
  refine And.intro (fun c1 => ?_) (fun c1 => ?_)
  · skip
    have c1 := (aAO _ _).mp c1
    exact hpost _ _ _ _ (by omega) aA0 aB3
  · skip
    have c1 := mt (aAO _ _).mpr c1
    refine aXN (by omega) aA0 aA2 aAI (fun r3 aCK h_tx_place_2 => ?_)
    have f5 := aAT r3
    refine And.intro (fun c4 => ?_) (fun c4 => ?_)
    · skip
      have c4 := mt (zJ _ _).mpr c4
      refine And.intro (aBZ (by omega)) ?_
      refine And.intro (fun c6 => ?_) (fun c6 => ?_)
      · skip
        have c6 := (aAO _ _).mp c6
        refine And.intro (fun h9 => absurd h9 (by decide)) (fun _ => ?_)
        refine And.intro (fun h9 => absurd h9 (by decide)) (fun _ => ?_)
        intro v7 ev7
        have f8 : Int32.toInt (vR + 1) = Int32.toInt vR + Int32.toInt (1 : Int32) := aAD _ _ (by omega)
        rw [<- ev7] at f8
        refine And.intro (fun c9 => ?_) (fun c9 => ?_)
        · skip
          have c9 := mt (zJ _ _).mpr c9
          refine And.intro (aHE (by omega)) ?_
          exact hpost _ _ _ _ (by omega) h_tx_place_2 (by omega)
        · skip
          have c9 := (zJ _ _).mp c9
          refine And.intro (aHE (by omega)) ?_
          exact hpost _ _ _ _ (by omega) h_tx_place_2 (by omega)
      · skip
        have c6 := mt (aAO _ _).mpr c6
        refine And.intro (aBZ (by omega)) ?_
        intro v10 ev10
        have f11 := aAI aCK.toNatClampNeg
        have hv10 := congrArg Int32.toInt ev10
        refine And.intro (fun c12 => ?_) (fun c12 => ?_)
        · skip
          have c12 := (zJ _ _).mp c12
          intro v13 ev13
          have f14 : Int32.toInt (aCK + 1) = Int32.toInt aCK + Int32.toInt (1 : Int32) := aAD _ _ (by omega)
          rw [<- ev13] at f14
          refine And.intro (fun _ => ?_) (fun h9 => absurd h9 (by decide))
          intro v15 ev15
          have f16 : Int32.toInt (vR + 1) = Int32.toInt vR + Int32.toInt (1 : Int32) := aAD _ _ (by omega)
          rw [<- ev15] at f16
          exact hKn v13 v15 (upd xW vR.toNatClampNeg r3) (by omega) (by omega) (by omega)
        · skip
          have c12 := mt (zJ _ _).mpr c12
          refine And.intro (fun h9 => absurd h9 (by decide)) (fun _ => ?_)
          intro v17 ev17
          have f18 : Int32.toInt (vR + 1) = Int32.toInt vR + Int32.toInt (1 : Int32) := aAD _ _ (by omega)
          rw [<- ev17] at f18
          refine And.intro (fun c19 => ?_) (fun c19 => ?_)
          · skip
            have c19 := mt (zJ _ _).mpr c19
            refine And.intro (aHE (by omega)) ?_
            exact hpost _ _ _ _ (by omega) h_tx_place_2 (by omega)
          · skip
            have c19 := (zJ _ _).mp c19
            refine And.intro (aHE (by omega)) ?_
            exact hpost _ _ _ _ (by omega) h_tx_place_2 (by omega)
    · skip
      have c4 := (zJ _ _).mp c4
      exact hpost _ _ _ _ (by omega) h_tx_place_2 aB3
set_option maxHeartbeats 8000000 in
set_option maxRecDepth 200000 in
theorem tb_X1_readAll_5 {post : Int32 -> Int32 -> Int32 -> (Nat -> Int32) -> Prop} (qL rX : Int32) (qM : Nat -> Int32) (aBH : 0 <= Int32.toInt qL /\ Int32.toInt qL <= 80) (aA2 : 0 <= Int32.toInt rX /\ Int32.toInt rX <= 80) (aAI : ∀ k : Nat, 0 <= Int32.toInt (qM k) /\ Int32.toInt (qM k) <= 65535) (hpost : ∀ (r : Int32) (aBS : Int32) (mk_many' : Int32) (mk_at' : Nat -> Int32), (0 <= Int32.toInt r /\ Int32.toInt r <= 1) -> (0 <= Int32.toInt aBS /\ Int32.toInt aBS <= 80) -> (0 <= Int32.toInt mk_many' /\ Int32.toInt mk_many' <= 6) -> post r aBS mk_many' mk_at') : ∀ (n : Nat) (qJ vR : Int32) (xW : Nat -> Int32), (0 <= Int32.toInt qJ /\ Int32.toInt qJ <= 80) -> (0 <= Int32.toInt vR /\ Int32.toInt vR <= 6) -> (6 - Int32.toInt vR < (n : Int)) -> wb_X1_readAll_5 post qL rX qM n qJ vR xW := by
  intro n
  induction n with
  | zero =>
    intro qJ vR xW aA0 aB3 hm
    exfalso; omega
  | succ n ih =>
    intro qJ vR xW aA0 aB3 hm
    exact ts_X1_readAll_5 qL rX qM aBH aA2 aAI hpost ih qJ vR xW aA0 aB3 (by omega)
set_option maxHeartbeats 8000000 in
set_option maxRecDepth 200000 in
theorem t_X1_readAll {post : Int32 -> Int32 -> Int32 -> (Nat -> Int32) -> Prop} {qL qJ rX : Int32} {qM : Nat -> Int32} {vR : Int32} {xW : Nat -> Int32} (aBH : 0 <= Int32.toInt qL /\ Int32.toInt qL <= 80) (aA0 : 0 <= Int32.toInt qJ /\ Int32.toInt qJ <= 0) (aA2 : 0 <= Int32.toInt rX /\ Int32.toInt rX <= 80) (aAI : ∀ k : Nat, 0 <= Int32.toInt (qM k) /\ Int32.toInt (qM k) <= 65535) (aB3 : 0 <= Int32.toInt vR /\ Int32.toInt vR <= 6) (hpost : ∀ (r : Int32) (aBS : Int32) (mk_many' : Int32) (mk_at' : Nat -> Int32), (0 <= Int32.toInt r /\ Int32.toInt r <= 1) -> (0 <= Int32.toInt aBS /\ Int32.toInt aBS <= 80) -> (0 <= Int32.toInt mk_many' /\ Int32.toInt mk_many' <= 6) -> post r aBS mk_many' mk_at') : wp_X1_readAll post qL qJ rX qM vR xW := by
  have l0 := aE0
  exact ⟨8, tb_X1_readAll_5 qL rX qM aBH aA2 aAI hpost _ qJ 0 xW (by omega) (by omega) (by omega)⟩
set_option maxHeartbeats 8000000 in
set_option maxRecDepth 200000 in
theorem ts_X1_countRows_92 {post : Int32 -> (Nat -> Int32) -> Prop} {K10 : Int32 -> Int32 -> Int32 -> (Nat -> Int32) -> Prop} {K37 : Int32 -> Int32 -> Int32 -> Int32 -> Int32 -> Int32 -> (Nat -> Int32) -> Prop} {n10 n37 : Int} (bD : Int32) (mX : Nat -> Int32) (vR : Int32) (xW : Nat -> Int32) (wX : 0 <= Int32.toInt bD /\ Int32.toInt bD <= 8) (aB3 : 0 <= Int32.toInt vR /\ Int32.toInt vR <= 6) (hpost : ∀ (r : Int32) (mk_rows' : Nat -> Int32), post r mk_rows') (hK10 : ∀ (x2 : Int32) (x3 : Int32) (x4 : Int32) (vW : Nat -> Int32), (0 <= Int32.toInt x2 /\ Int32.toInt x2 <= 99) -> (-1 <= Int32.toInt x4 /\ Int32.toInt x4 <= 5) -> (Int32.toInt x4 <= Int32.toInt vR - 1) -> (Int32.toInt x4 + 1 < n10) -> K10 x2 x3 x4 vW) (hK37 : ∀ (x2 : Int32) (x3 : Int32) (x4 : Int32) (x5 : Int32) (x6 : Int32) (x7 : Int32) (vW : Nat -> Int32), (0 <= Int32.toInt x2 /\ Int32.toInt x2 <= 99) -> (0 <= Int32.toInt x4 /\ Int32.toInt x4 <= 5) -> (0 <= Int32.toInt x5 /\ Int32.toInt x5 <= 255) -> (0 <= Int32.toInt x7 /\ Int32.toInt x7 <= 8) -> (Int32.toInt x4 <= Int32.toInt vR - 1) -> (Int32.toInt x4 + 1 <= n10) -> (8 - Int32.toInt x7 < n37) -> K37 x2 x3 x4 x5 x6 x7 vW) (x2 x3 x4 x5 x6 x7 x8 : Int32) (vW : Nat -> Int32) (aBN : 0 <= Int32.toInt x2 /\ Int32.toInt x2 <= 99) (aDO : 0 <= Int32.toInt x4 /\ Int32.toInt x4 <= 5) (aF7 : 0 <= Int32.toInt x5 /\ Int32.toInt x5 <= 255) (h_x7 : 0 <= Int32.toInt x7 /\ Int32.toInt x7 <= 7) (hx0 : Int32.toInt x4 <= Int32.toInt vR - 1) (hn10 : Int32.toInt x4 + 1 <= n10) (hn37 : 8 - Int32.toInt x7 <= n37) : ws_X1_countRows_92 post K10 K37 bD mX vR xW x2 x3 x4 x5 x6 x7 x8 vW := by
  have l0 := aEc
  have l1 := li_8
  intro v1 ev1
  have f2 : Int32.toInt (x4 * 8) = Int32.toInt x4 * 8 := ta_mulc _ _ (by decide) (by omega)
  rw [<- ev1] at f2
  intro v3 ev3
  have f4 : Int32.toInt (v1 + x7) = Int32.toInt v1 + Int32.toInt x7 := aAD _ _ (by omega)
  rw [<- ev3] at f4
  refine And.intro (aBZ (by omega)) ?_
  intro v5 ev5
  have hv5 := congrArg Int32.toInt ev5
  intro v7 ev7
  have f8 : Int32.toInt (x7 + 1) = Int32.toInt x7 + Int32.toInt (1 : Int32) := aAD _ _ (by omega)
  rw [<- ev7] at f8
  have f9 := aAT v5
  have f10 := aAT x6
  exact hK37 x2 v5 x4 x5 x6 v7 (upd vW v3.toNatClampNeg x8) aBN aDO aF7 (by omega) hx0 hn10 (by omega)
set_option maxHeartbeats 8000000 in
set_option maxRecDepth 200000 in
theorem ts_X1_countRows_90 {post : Int32 -> (Nat -> Int32) -> Prop} {K10 : Int32 -> Int32 -> Int32 -> (Nat -> Int32) -> Prop} {K37 : Int32 -> Int32 -> Int32 -> Int32 -> Int32 -> Int32 -> (Nat -> Int32) -> Prop} {n10 n37 : Int} (bD : Int32) (mX : Nat -> Int32) (vR : Int32) (xW : Nat -> Int32) (wX : 0 <= Int32.toInt bD /\ Int32.toInt bD <= 8) (aB3 : 0 <= Int32.toInt vR /\ Int32.toInt vR <= 6) (hpost : ∀ (r : Int32) (mk_rows' : Nat -> Int32), post r mk_rows') (hK10 : ∀ (x2 : Int32) (x3 : Int32) (x4 : Int32) (vW : Nat -> Int32), (0 <= Int32.toInt x2 /\ Int32.toInt x2 <= 99) -> (-1 <= Int32.toInt x4 /\ Int32.toInt x4 <= 5) -> (Int32.toInt x4 <= Int32.toInt vR - 1) -> (Int32.toInt x4 + 1 < n10) -> K10 x2 x3 x4 vW) (hK37 : ∀ (x2 : Int32) (x3 : Int32) (x4 : Int32) (x5 : Int32) (x6 : Int32) (x7 : Int32) (vW : Nat -> Int32), (0 <= Int32.toInt x2 /\ Int32.toInt x2 <= 99) -> (0 <= Int32.toInt x4 /\ Int32.toInt x4 <= 5) -> (0 <= Int32.toInt x5 /\ Int32.toInt x5 <= 255) -> (0 <= Int32.toInt x7 /\ Int32.toInt x7 <= 8) -> (Int32.toInt x4 <= Int32.toInt vR - 1) -> (Int32.toInt x4 + 1 <= n10) -> (8 - Int32.toInt x7 < n37) -> K37 x2 x3 x4 x5 x6 x7 vW) (x2 x3 x4 x5 x6 x7 k0 : Int32) (vW : Nat -> Int32) (aBN : 0 <= Int32.toInt x2 /\ Int32.toInt x2 <= 99) (aDO : 0 <= Int32.toInt x4 /\ Int32.toInt x4 <= 5) (aF7 : 0 <= Int32.toInt x5 /\ Int32.toInt x5 <= 255) (h_x7 : 0 <= Int32.toInt x7 /\ Int32.toInt x7 <= 7) (hx0 : Int32.toInt x4 <= Int32.toInt vR - 1) (hn10 : Int32.toInt x4 + 1 <= n10) (hn37 : 8 - Int32.toInt x7 <= n37) : ws_X1_countRows_90 post K10 K37 bD mX vR xW x2 x3 x4 x5 x6 x7 k0 vW := by
  have f11 := aAT x3
  have f12 := aAT x6
  have f13 := aAT k0
  exact ts_X1_countRows_92 bD mX vR xW wX aB3 hpost hK10 hK37 x2 x3 x4 x5 x6 x7 k0 vW aBN aDO aF7 h_x7 hx0 hn10 hn37
set_option maxHeartbeats 8000000 in
set_option maxRecDepth 200000 in
theorem ts_X1_countRows_37 {post : Int32 -> (Nat -> Int32) -> Prop} {K10 : Int32 -> Int32 -> Int32 -> (Nat -> Int32) -> Prop} {next : Int32 -> Int32 -> Int32 -> Int32 -> Int32 -> Int32 -> (Nat -> Int32) -> Prop} {n37 n10 : Int} (bD : Int32) (mX : Nat -> Int32) (vR : Int32) (xW : Nat -> Int32) (wX : 0 <= Int32.toInt bD /\ Int32.toInt bD <= 8) (aB3 : 0 <= Int32.toInt vR /\ Int32.toInt vR <= 6) (hpost : ∀ (r : Int32) (mk_rows' : Nat -> Int32), post r mk_rows') (hK10 : ∀ (x2 : Int32) (x3 : Int32) (x4 : Int32) (vW : Nat -> Int32), (0 <= Int32.toInt x2 /\ Int32.toInt x2 <= 99) -> (-1 <= Int32.toInt x4 /\ Int32.toInt x4 <= 5) -> (Int32.toInt x4 <= Int32.toInt vR - 1) -> (Int32.toInt x4 + 1 < n10) -> K10 x2 x3 x4 vW) (hKn : ∀ (x2 : Int32) (x3 : Int32) (x4 : Int32) (x5 : Int32) (x6 : Int32) (x7 : Int32) (vW : Nat -> Int32), (0 <= Int32.toInt x2 /\ Int32.toInt x2 <= 99) -> (0 <= Int32.toInt x4 /\ Int32.toInt x4 <= 5) -> (0 <= Int32.toInt x5 /\ Int32.toInt x5 <= 255) -> (0 <= Int32.toInt x7 /\ Int32.toInt x7 <= 8) -> (Int32.toInt x4 <= Int32.toInt vR - 1) -> (Int32.toInt x4 + 1 <= n10) -> (8 - Int32.toInt x7 < n37) -> next x2 x3 x4 x5 x6 x7 vW) (x2 x3 x4 x5 x6 x7 : Int32) (vW : Nat -> Int32) (aBN : 0 <= Int32.toInt x2 /\ Int32.toInt x2 <= 99) (aDO : 0 <= Int32.toInt x4 /\ Int32.toInt x4 <= 5) (aF7 : 0 <= Int32.toInt x5 /\ Int32.toInt x5 <= 255) (h_x7 : 0 <= Int32.toInt x7 /\ Int32.toInt x7 <= 8) (hx0 : Int32.toInt x4 <= Int32.toInt vR - 1) (hn10 : Int32.toInt x4 + 1 <= n10) (hn37 : 8 - Int32.toInt x7 <= n37) : ws_X1_countRows_37 post K10 next bD mX vR xW x2 x3 x4 x5 x6 x7 vW := by
  have l0 := aI2
  have l1 := aE0
  have l2 := aEc
  have l3 := li_8
  refine And.intro (fun c14 => ?_) (fun c14 => ?_)
  · skip
    have c14 := (aAO _ _).mp c14
    intro v15 ev15
    have f16 : Int32.toInt (x4 + (-1)) = Int32.toInt x4 + Int32.toInt ((-1) : Int32) := aAD _ _ (by omega)
    rw [<- ev15] at f16
    have f17 := aAT x3
    exact hK10 x2 x3 v15 vW aBN (by omega) (by omega) (by omega)
  · skip
    have c14 := mt (aAO _ _).mpr c14
    intro v18 ev18
    have f19 := aRJ x5 x7 (by omega)
    have hv18 := congrArg Int32.toInt ev18
    have f21 := aAQ v18 1 (by omega)
    have f22 := aBx v18 1 (by omega)
    refine And.intro (fun c20 => ?_) (fun c20 => ?_)
    · skip
      have c20 := (zJ _ _).mp c20
      have f23 := aAT x3
      have f24 := aAT x6
      exact ts_X1_countRows_92 bD mX vR xW wX aB3 hpost hK10 hKn x2 x3 x4 x5 x6 x7 0 vW aBN aDO aF7 (by omega) hx0 hn10 hn37
    · skip
      have c20 := mt (zJ _ _).mpr c20
      have f26 : Int32.toInt (vR - 1) = Int32.toInt vR - Int32.toInt (1 : Int32) := aCA _ _ (by omega)
      refine And.intro (fun c25 => ?_) (fun c25 => ?_)
      · skip
        have c25 := mt (zJ _ _).mpr c25
        intro v27 ev27
        have f28 : Int32.toInt (x4 + 1) = Int32.toInt x4 + Int32.toInt (1 : Int32) := aAD _ _ (by omega)
        rw [<- ev27] at f28
        intro v29 ev29
        have f30 : Int32.toInt (v27 * 8) = Int32.toInt v27 * 8 := ta_mulc _ _ (by decide) (by omega)
        rw [<- ev29] at f30
        intro v31 ev31
        have f32 : Int32.toInt (v29 + x7) = Int32.toInt v29 + Int32.toInt x7 := aAD _ _ (by omega)
        rw [<- ev31] at f32
        refine And.intro (aBZ (by omega)) ?_
        intro v33 ev33
        have hv33 := congrArg Int32.toInt ev33
        have f35 := aAT x3
        have f36 := aAT x6
        have f37 := aAT v33
        exact ts_X1_countRows_90 bD mX vR xW wX aB3 hpost hK10 hKn x2 x3 x4 x5 x6 x7 v33 vW aBN aDO aF7 (by omega) hx0 hn10 hn37
      · skip
        have c25 := (zJ _ _).mp c25
        have f38 := aAT x3
        have f39 := aAT x6
        exact ts_X1_countRows_90 bD mX vR xW wX aB3 hpost hK10 hKn x2 x3 x4 x5 x6 x7 1 vW aBN aDO aF7 (by omega) hx0 hn10 hn37
set_option maxHeartbeats 8000000 in
set_option maxRecDepth 200000 in
theorem tb_X1_countRows_37 {post : Int32 -> (Nat -> Int32) -> Prop} {K10 : Int32 -> Int32 -> Int32 -> (Nat -> Int32) -> Prop} {n10 : Int} (bD : Int32) (mX : Nat -> Int32) (vR : Int32) (xW : Nat -> Int32) (wX : 0 <= Int32.toInt bD /\ Int32.toInt bD <= 8) (aB3 : 0 <= Int32.toInt vR /\ Int32.toInt vR <= 6) (hpost : ∀ (r : Int32) (mk_rows' : Nat -> Int32), post r mk_rows') (hK10 : ∀ (x2 : Int32) (x3 : Int32) (x4 : Int32) (vW : Nat -> Int32), (0 <= Int32.toInt x2 /\ Int32.toInt x2 <= 99) -> (-1 <= Int32.toInt x4 /\ Int32.toInt x4 <= 5) -> (Int32.toInt x4 <= Int32.toInt vR - 1) -> (Int32.toInt x4 + 1 < n10) -> K10 x2 x3 x4 vW) : ∀ (n : Nat) (x2 x3 x4 x5 x6 x7 : Int32) (vW : Nat -> Int32), (0 <= Int32.toInt x2 /\ Int32.toInt x2 <= 99) -> (0 <= Int32.toInt x4 /\ Int32.toInt x4 <= 5) -> (0 <= Int32.toInt x5 /\ Int32.toInt x5 <= 255) -> (0 <= Int32.toInt x7 /\ Int32.toInt x7 <= 8) -> (Int32.toInt x4 <= Int32.toInt vR - 1) -> (Int32.toInt x4 + 1 <= n10) -> (8 - Int32.toInt x7 < (n : Int)) -> wb_X1_countRows_37 post K10 bD mX vR xW n x2 x3 x4 x5 x6 x7 vW := by
  intro n
  induction n with
  | zero =>
    intro x2 x3 x4 x5 x6 x7 vW aBN aDO aF7 h_x7 hx0 hn10 hm
    exfalso; omega
  | succ n ih =>
    intro x2 x3 x4 x5 x6 x7 vW aBN aDO aF7 h_x7 hx0 hn10 hm
    exact ts_X1_countRows_37 bD mX vR xW wX aB3 hpost hK10 ih x2 x3 x4 x5 x6 x7 vW aBN aDO aF7 h_x7 hx0 hn10 (by omega)
set_option maxHeartbeats 8000000 in
set_option maxRecDepth 200000 in
theorem ts_X1_countRows_10 {post : Int32 -> (Nat -> Int32) -> Prop} {next : Int32 -> Int32 -> Int32 -> (Nat -> Int32) -> Prop} {n10 : Int} (bD : Int32) (mX : Nat -> Int32) (vR : Int32) (xW : Nat -> Int32) (wX : 0 <= Int32.toInt bD /\ Int32.toInt bD <= 8) (aB3 : 0 <= Int32.toInt vR /\ Int32.toInt vR <= 6) (hpost : ∀ (r : Int32) (mk_rows' : Nat -> Int32), post r mk_rows') (hKn : ∀ (x2 : Int32) (x3 : Int32) (x4 : Int32) (vW : Nat -> Int32), (0 <= Int32.toInt x2 /\ Int32.toInt x2 <= 99) -> (-1 <= Int32.toInt x4 /\ Int32.toInt x4 <= 5) -> (Int32.toInt x4 <= Int32.toInt vR - 1) -> (Int32.toInt x4 + 1 < n10) -> next x2 x3 x4 vW) (x2 x3 x4 : Int32) (vW : Nat -> Int32) (aBN : 0 <= Int32.toInt x2 /\ Int32.toInt x2 <= 99) (aDO : -1 <= Int32.toInt x4 /\ Int32.toInt x4 <= 5) (hx0 : Int32.toInt x4 <= Int32.toInt vR - 1) (hn10 : Int32.toInt x4 + 1 <= n10) : ws_X1_countRows_10 post next bD mX vR xW x2 x3 x4 vW := by
  have l0 := aE0
  refine And.intro (fun c40 => ?_) (fun c40 => ?_)
  · skip
    have c40 := (aAd _ _).mp c40
    exact hpost _ _ 
  · skip
    have c40 := mt (aAd _ _).mpr c40
    refine And.intro (aBZ (by omega)) ?_
    intro v41 ev41
    have hv41 := congrArg Int32.toInt ev41
    refine t_X3_standingsAt aBN wX (fun r43 h_r43 => ?_)
    have f44 := aAT x3
    exact ⟨10, tb_X1_countRows_37 bD mX vR xW wX aB3 hpost hKn _ x2 0 x4 r43 x3 0 vW aBN (by omega) h_r43 (by omega) hx0 hn10 (by omega)⟩
set_option maxHeartbeats 8000000 in
set_option maxRecDepth 200000 in
theorem tb_X1_countRows_10 {post : Int32 -> (Nat -> Int32) -> Prop} (bD : Int32) (mX : Nat -> Int32) (vR : Int32) (xW : Nat -> Int32) (wX : 0 <= Int32.toInt bD /\ Int32.toInt bD <= 8) (aB3 : 0 <= Int32.toInt vR /\ Int32.toInt vR <= 6) (hpost : ∀ (r : Int32) (mk_rows' : Nat -> Int32), post r mk_rows') : ∀ (n : Nat) (x2 x3 x4 : Int32) (vW : Nat -> Int32), (0 <= Int32.toInt x2 /\ Int32.toInt x2 <= 99) -> (-1 <= Int32.toInt x4 /\ Int32.toInt x4 <= 5) -> (Int32.toInt x4 <= Int32.toInt vR - 1) -> (Int32.toInt x4 + 1 < (n : Int)) -> wb_X1_countRows_10 post bD mX vR xW n x2 x3 x4 vW := by
  intro n
  induction n with
  | zero =>
    intro x2 x3 x4 vW aBN aDO hx0 hm
    exfalso; omega
  | succ n ih =>
    intro x2 x3 x4 vW aBN aDO hx0 hm
    exact ts_X1_countRows_10 bD mX vR xW wX aB3 hpost ih x2 x3 x4 vW aBN aDO hx0 (by omega)
set_option maxHeartbeats 8000000 in
set_option maxRecDepth 200000 in
theorem t_X1_countRows {post : Int32 -> (Nat -> Int32) -> Prop} {p1 bD : Int32} {mX : Nat -> Int32} {vR : Int32} {xW vW : Nat -> Int32} (h_p1 : 0 <= Int32.toInt p1 /\ Int32.toInt p1 <= 99) (wX : 0 <= Int32.toInt bD /\ Int32.toInt bD <= 8) (aB3 : 0 <= Int32.toInt vR /\ Int32.toInt vR <= 6) (hpost : ∀ (r : Int32) (mk_rows' : Nat -> Int32), post r mk_rows') : wp_X1_countRows post p1 bD mX vR xW vW := by
  have l0 := aE0
  have l1 := aEc
  intro v45 ev45
  have f46 : Int32.toInt (vR - 1) = Int32.toInt vR - Int32.toInt (1 : Int32) := aCA _ _ (by omega)
  rw [<- ev45] at f46
  exact ⟨8, tb_X1_countRows_10 bD mX vR xW wX aB3 hpost _ p1 0 v45 vW h_p1 (by omega) (by omega) (by omega)⟩
set_option maxHeartbeats 8000000 in
set_option maxRecDepth 200000 in
theorem ts_X1_firstFor_29 {post : Int32 -> Prop} {K2 : Int32 -> Int32 -> Int32 -> Prop} {n2 : Int} (vW : Nat -> Int32) (hpost : ∀ (r : Int32) , (-1 <= Int32.toInt r /\ Int32.toInt r <= 7) -> post r) (hK2 : ∀ (x1 : Int32) (x2 : Int32) (x3 : Int32), (0 <= Int32.toInt x1 /\ Int32.toInt x1 <= 5) -> (-1 <= Int32.toInt x2 /\ Int32.toInt x2 <= 7) -> (0 <= Int32.toInt x3 /\ Int32.toInt x3 <= 8) -> (8 - Int32.toInt x3 < n2) -> K2 x1 x2 x3) (x1 x2 x3 : Int32) (aBK : 0 <= Int32.toInt x1 /\ Int32.toInt x1 <= 5) (aBN : -1 <= Int32.toInt x2 /\ Int32.toInt x2 <= 7) (aCH : 0 <= Int32.toInt x3 /\ Int32.toInt x3 <= 7) (hn2 : 8 - Int32.toInt x3 <= n2) : ws_X1_firstFor_29 post K2 vW x1 x2 x3 := by
  have l0 := aEc
  intro v1 ev1
  have f2 : Int32.toInt (x3 + 1) = Int32.toInt x3 + Int32.toInt (1 : Int32) := aAD _ _ (by omega)
  rw [<- ev1] at f2
  exact hK2 x1 x2 v1 aBK aBN (by omega) (by omega)
set_option maxHeartbeats 8000000 in
set_option maxRecDepth 200000 in
theorem ts_X1_firstFor_2 {post : Int32 -> Prop} {next : Int32 -> Int32 -> Int32 -> Prop} {n2 : Int} (vW : Nat -> Int32) (hpost : ∀ (r : Int32) , (-1 <= Int32.toInt r /\ Int32.toInt r <= 7) -> post r) (hKn : ∀ (x1 : Int32) (x2 : Int32) (x3 : Int32), (0 <= Int32.toInt x1 /\ Int32.toInt x1 <= 5) -> (-1 <= Int32.toInt x2 /\ Int32.toInt x2 <= 7) -> (0 <= Int32.toInt x3 /\ Int32.toInt x3 <= 8) -> (8 - Int32.toInt x3 < n2) -> next x1 x2 x3) (x1 x2 x3 : Int32) (aBK : 0 <= Int32.toInt x1 /\ Int32.toInt x1 <= 5) (aBN : -1 <= Int32.toInt x2 /\ Int32.toInt x2 <= 7) (aCH : 0 <= Int32.toInt x3 /\ Int32.toInt x3 <= 8) (hn2 : 8 - Int32.toInt x3 <= n2) : ws_X1_firstFor_2 post next vW x1 x2 x3 := by
  have l0 := aI2
  have l1 := aE0
  have l2 := li_8
  refine And.intro (fun c3 => ?_) (fun c3 => ?_)
  · skip
    have c3 := (aAO _ _).mp c3
    exact hpost _ (by omega)
  · skip
    have c3 := mt (aAO _ _).mpr c3
    refine And.intro (fun c4 => ?_) (fun c4 => ?_)
    · skip
      have c4 := (zJ _ _).mp c4
      exact ts_X1_firstFor_29 vW hpost hKn x1 x2 x3 aBK aBN (by omega) hn2
    · skip
      have c4 := mt (zJ _ _).mpr c4
      intro v5 ev5
      have f6 : Int32.toInt (x1 * 8) = Int32.toInt x1 * 8 := ta_mulc _ _ (by decide) (by omega)
      rw [<- ev5] at f6
      intro v7 ev7
      have f8 : Int32.toInt (v5 + x3) = Int32.toInt v5 + Int32.toInt x3 := aAD _ _ (by omega)
      rw [<- ev7] at f8
      refine And.intro (aBZ (by omega)) ?_
      refine And.intro (fun c9 => ?_) (fun c9 => ?_)
      · skip
        have c9 := (aAO _ _).mp c9
        exact ts_X1_firstFor_29 vW hpost hKn x1 x2 x3 aBK aBN (by omega) hn2
      · skip
        have c9 := mt (aAO _ _).mpr c9
        exact hpost _ (by omega)
set_option maxHeartbeats 8000000 in
set_option maxRecDepth 200000 in
theorem tb_X1_firstFor_2 {post : Int32 -> Prop} (vW : Nat -> Int32) (hpost : ∀ (r : Int32) , (-1 <= Int32.toInt r /\ Int32.toInt r <= 7) -> post r) : ∀ (n : Nat) (x1 x2 x3 : Int32), (0 <= Int32.toInt x1 /\ Int32.toInt x1 <= 5) -> (-1 <= Int32.toInt x2 /\ Int32.toInt x2 <= 7) -> (0 <= Int32.toInt x3 /\ Int32.toInt x3 <= 8) -> (8 - Int32.toInt x3 < (n : Int)) -> wb_X1_firstFor_2 post vW n x1 x2 x3 := by
  intro n
  induction n with
  | zero =>
    intro x1 x2 x3 aBK aBN aCH hm
    exfalso; omega
  | succ n ih =>
    intro x1 x2 x3 aBK aBN aCH hm
    exact ts_X1_firstFor_2 vW hpost ih x1 x2 x3 aBK aBN aCH (by omega)
set_option maxHeartbeats 8000000 in
set_option maxRecDepth 200000 in
theorem t_X1_firstFor {post : Int32 -> Prop} {p0 p1 : Int32} {vW : Nat -> Int32} (h_p0 : 0 <= Int32.toInt p0 /\ Int32.toInt p0 <= 5) (h_p1 : -1 <= Int32.toInt p1 /\ Int32.toInt p1 <= 7) (hpost : ∀ (r : Int32) , (-1 <= Int32.toInt r /\ Int32.toInt r <= 7) -> post r) : wp_X1_firstFor post p0 p1 vW := by
  have l0 := aE0
  exact ⟨10, tb_X1_firstFor_2 vW hpost _ p0 p1 0 h_p0 h_p1 (by omega) (by omega)⟩
set_option maxHeartbeats 8000000 in
set_option maxRecDepth 200000 in
theorem ts_X9_tellLeastMarks_16 {post : Int32 -> (Nat -> Int32) -> Prop} {next : Int32 -> Int32 -> Int32 -> (Nat -> Int32) -> Prop} {n16 : Int} (vR : Int32) (vW : Nat -> Int32) (aB3 : 0 <= Int32.toInt vR /\ Int32.toInt vR <= 6) (hpost : ∀ (zV : Int32) (aAV : Nat -> Int32), (0 <= Int32.toInt zV /\ Int32.toInt zV <= 16) -> post zV aAV) (hKn : ∀ (x2 : Int32) (x3 : Int32) (qB : Int32) (jK : Nat -> Int32), (-1 <= Int32.toInt x2 /\ Int32.toInt x2 <= 7) -> (0 <= Int32.toInt x3 /\ Int32.toInt x3 <= 6) -> (0 <= Int32.toInt qB /\ Int32.toInt qB <= 16) -> (6 - Int32.toInt x3 < n16) -> next x2 x3 qB jK) (x2 x3 qB : Int32) (jK : Nat -> Int32) (aBN : -1 <= Int32.toInt x2 /\ Int32.toInt x2 <= 7) (aCH : 0 <= Int32.toInt x3 /\ Int32.toInt x3 <= 6) (aAK : 0 <= Int32.toInt qB /\ Int32.toInt qB <= 16) (hn16 : 6 - Int32.toInt x3 <= n16) : ws_X9_tellLeastMarks_16 post next vR vW x2 x3 qB jK := by
  have l0 := aEc
  have l1 := li_16
  refine And.intro (fun c1 => ?_) (fun c1 => ?_)
  · skip
    have c1 := (aAO _ _).mp c1
    exact hpost _ _ aAK
  · skip
    have c1 := mt (aAO _ _).mpr c1
    refine t_X1_firstFor (by omega) aBN (fun r2 h_r2 => ?_)
    refine And.intro (fun c3 => ?_) (fun c3 => ?_)
    · skip
      have c3 := (aAO _ _).mp c3
      intro v4 ev4
      have f5 : Int32.toInt (x3 + 1) = Int32.toInt x3 + Int32.toInt (1 : Int32) := aAD _ _ (by omega)
      rw [<- ev4] at f5
      exact hKn r2 v4 qB jK h_r2 (by omega) aAK (by omega)
    · skip
      have c3 := mt (aAO _ _).mpr c3
      refine And.intro (aBZ (by omega)) ?_
      intro v6 ev6
      have f7 : Int32.toInt (qB + 1) = Int32.toInt qB + Int32.toInt (1 : Int32) := aAD _ _ (by omega)
      rw [<- ev6] at f7
      intro v8 ev8
      have f9 : Int32.toInt (x3 + 1) = Int32.toInt x3 + Int32.toInt (1 : Int32) := aAD _ _ (by omega)
      rw [<- ev8] at f9
      exact hKn r2 v8 v6 (upd jK qB.toNatClampNeg r2) h_r2 (by omega) (by omega) (by omega)
set_option maxHeartbeats 8000000 in
set_option maxRecDepth 200000 in
theorem tb_X9_tellLeastMarks_16 {post : Int32 -> (Nat -> Int32) -> Prop} (vR : Int32) (vW : Nat -> Int32) (aB3 : 0 <= Int32.toInt vR /\ Int32.toInt vR <= 6) (hpost : ∀ (zV : Int32) (aAV : Nat -> Int32), (0 <= Int32.toInt zV /\ Int32.toInt zV <= 16) -> post zV aAV) : ∀ (n : Nat) (x2 x3 qB : Int32) (jK : Nat -> Int32), (-1 <= Int32.toInt x2 /\ Int32.toInt x2 <= 7) -> (0 <= Int32.toInt x3 /\ Int32.toInt x3 <= 6) -> (0 <= Int32.toInt qB /\ Int32.toInt qB <= 16) -> (6 - Int32.toInt x3 < (n : Int)) -> wb_X9_tellLeastMarks_16 post vR vW n x2 x3 qB jK := by
  intro n
  induction n with
  | zero =>
    intro x2 x3 qB jK aBN aCH aAK hm
    exfalso; omega
  | succ n ih =>
    intro x2 x3 qB jK aBN aCH aAK hm
    exact ts_X9_tellLeastMarks_16 vR vW aB3 hpost ih x2 x3 qB jK aBN aCH aAK (by omega)
set_option maxHeartbeats 8000000 in
set_option maxRecDepth 200000 in
theorem t_X9_tellLeastMarks {post : Int32 -> (Nat -> Int32) -> Prop} {p0 qB : Int32} {jK : Nat -> Int32} {vR : Int32} {vW : Nat -> Int32} (aAK : 0 <= Int32.toInt qB /\ Int32.toInt qB <= 16) (aB3 : 0 <= Int32.toInt vR /\ Int32.toInt vR <= 6) (hpost : ∀ (zV : Int32) (aAV : Nat -> Int32), (0 <= Int32.toInt zV /\ Int32.toInt zV <= 16) -> post zV aAV) : wp_X9_tellLeastMarks post p0 qB jK vR vW := by
  have l0 := aI2
  have l1 := aE0
  have f11 := aAT p0
  refine And.intro (fun c10 => ?_) (fun c10 => ?_)
  · skip
    have c10 := mt (zJ _ _).mpr c10
    exact ⟨8, tb_X9_tellLeastMarks_16 vR vW aB3 hpost _ (-1) 0 0 jK (by omega) (by omega) (by omega) (by omega)⟩
  · skip
    have c10 := (zJ _ _).mp c10
    exact hpost _ _ (by omega)
set_option maxHeartbeats 8000000 in
set_option maxRecDepth 200000 in
theorem ts_X9_grass_65 {post : Int32 -> Int32 -> Int32 -> Int32 -> Int32 -> (Nat -> Int32) -> Int32 -> (Nat -> Int32) -> (Nat -> Int32) -> Prop} (qM : Nat -> Int32) (bD : Int32) (mX : Nat -> Int32) (aAI : ∀ k : Nat, 0 <= Int32.toInt (qM k) /\ Int32.toInt (qM k) <= 65535) (wX : 0 <= Int32.toInt bD /\ Int32.toInt bD <= 8) (hpost : ∀ (r : Int32) (aCZ : Int32) (aBS : Int32) (aGd : Int32) (zV : Int32) (aAV : Nat -> Int32) (mk_many' : Int32) (mk_at' : Nat -> Int32) (mk_rows' : Nat -> Int32), (0 <= Int32.toInt aCZ /\ Int32.toInt aCZ <= 0) -> (0 <= Int32.toInt aBS /\ Int32.toInt aBS <= 80) -> (0 <= Int32.toInt aGd /\ Int32.toInt aGd <= 80) -> (0 <= Int32.toInt zV /\ Int32.toInt zV <= 16) -> (0 <= Int32.toInt mk_many' /\ Int32.toInt mk_many' <= 6) -> post r aCZ aBS aGd zV aAV mk_many' mk_at' mk_rows') (x2 qL qJ rX qB : Int32) (jK : Nat -> Int32) (vR : Int32) (xW vW : Nat -> Int32) (aBH : 0 <= Int32.toInt qL /\ Int32.toInt qL <= 80) (aA0 : 0 <= Int32.toInt qJ /\ Int32.toInt qJ <= 80) (aA2 : 0 <= Int32.toInt rX /\ Int32.toInt rX <= 80) (aAK : 0 <= Int32.toInt qB /\ Int32.toInt qB <= 16) (aB3 : 0 <= Int32.toInt vR /\ Int32.toInt vR <= 6) : ws_X9_grass_65 post qM bD mX x2 qL qJ rX qB jK vR xW vW := by
  have l0 := aE0
  exact hpost _ _ _ _ _ _ _ _ _ (by omega) aA0 aA2 aAK aB3
set_option maxHeartbeats 8000000 in
set_option maxRecDepth 200000 in
theorem t_X9_grass {post : Int32 -> Int32 -> Int32 -> Int32 -> Int32 -> (Nat -> Int32) -> Int32 -> (Nat -> Int32) -> (Nat -> Int32) -> Prop} {p0 qL qJ rX : Int32} {qM : Nat -> Int32} {bD : Int32} {mX : Nat -> Int32} {qB : Int32} {jK : Nat -> Int32} {vR : Int32} {xW vW : Nat -> Int32} (aBH : 0 <= Int32.toInt qL /\ Int32.toInt qL <= 80) (aA0 : 0 <= Int32.toInt qJ /\ Int32.toInt qJ <= 80) (aA2 : 0 <= Int32.toInt rX /\ Int32.toInt rX <= 80) (aAI : ∀ k : Nat, 0 <= Int32.toInt (qM k) /\ Int32.toInt (qM k) <= 65535) (wX : 0 <= Int32.toInt bD /\ Int32.toInt bD <= 8) (aAK : 0 <= Int32.toInt qB /\ Int32.toInt qB <= 16) (aB3 : 0 <= Int32.toInt vR /\ Int32.toInt vR <= 6) (hpost : ∀ (r : Int32) (aCZ : Int32) (aBS : Int32) (aGd : Int32) (zV : Int32) (aAV : Nat -> Int32) (mk_many' : Int32) (mk_at' : Nat -> Int32) (mk_rows' : Nat -> Int32), (0 <= Int32.toInt aCZ /\ Int32.toInt aCZ <= 0) -> (0 <= Int32.toInt aBS /\ Int32.toInt aBS <= 80) -> (0 <= Int32.toInt aGd /\ Int32.toInt aGd <= 80) -> (0 <= Int32.toInt zV /\ Int32.toInt zV <= 16) -> (0 <= Int32.toInt mk_many' /\ Int32.toInt mk_many' <= 6) -> post r aCZ aBS aGd zV aAV mk_many' mk_at' mk_rows') : wp_X9_grass post p0 qL qJ rX qM bD mX qB jK vR xW vW := by
  have l0 := aI2
  have l1 := li_m100
  have l2 := aE0
  have l3 := li_80
  have l4 := li_99
  have f2 := aAT p0
  refine And.intro (fun c1 => ?_) (fun c1 => ?_)
  · skip
    have c1 := (aAd _ _).mp c1
    exact ts_X9_grass_65 qM bD mX aAI wX hpost (-100) qL qJ rX qB jK vR xW vW aBH aA0 aA2 aAK aB3
  · skip
    have c1 := mt (aAd _ _).mpr c1
    refine And.intro (fun c3 => ?_) (fun c3 => ?_)
    · skip
      have c3 := (aAd _ _).mp c3
      exact ts_X9_grass_65 qM bD mX aAI wX hpost (-100) qL qJ rX qB jK vR xW vW aBH aA0 aA2 aAK aB3
    · skip
      have c3 := mt (aAd _ _).mpr c3
      intro v4 ev4
      have f5 := ti_min qL (80 : Int32)
      have hv4 := congrArg Int32.toInt ev4
      refine t_X1_readAll aBH (by omega) (by omega) aAI aB3 (fun r9 aFI mk_many_7 mk_at_8 h_r9 h_tx_place_6 h_mk_many_7 => ?_)
      refine And.intro (fun c10 => ?_) (fun c10 => ?_)
      · skip
        have c10 := (zJ _ _).mp c10
        have f11 : Int32.toInt ((-1) - aFI) = Int32.toInt ((-1) : Int32) - Int32.toInt aFI := aCA _ _ (by omega)
        obtain ⟨w12, ew12⟩ : ∃ w9 : Int32, w9 = (-1) - aFI := ⟨_, rfl⟩
        rw [<- ew12] at f11
        have key9 := ts_X9_grass_65 qM bD mX aAI wX hpost w12 qL aFI v4 qB jK mk_many_7 mk_at_8 vW aBH h_tx_place_6 (by omega) aAK h_mk_many_7
        subst ew12
        exact key9
      · skip
        have c10 := mt (zJ _ _).mpr c10
        refine t_X1_countRows (by omega) wX h_mk_many_7 (fun r14 mk_rows_13 => ?_)
        refine t_X9_tellLeastMarks aAK h_mk_many_7 (fun ro_size_15 ro_numbers_16 h_ro_size_15 => ?_)
        have f17 := aAT r14
        exact ts_X9_grass_65 qM bD mX aAI wX hpost r14 qL aFI v4 ro_size_15 ro_numbers_16 mk_many_7 mk_at_8 mk_rows_13 aBH h_tx_place_6 (by omega) h_ro_size_15 h_mk_many_7
set_option maxHeartbeats 8000000 in
set_option maxRecDepth 200000 in
theorem ts_X5_isFitting_34 {post : Int32 -> Prop} {K2 : Int32 -> Int32 -> Int32 -> Prop} {n2 : Int} (rD : Nat -> Int32) (bD : Int32) (zR : ∀ k : Nat, 0 <= Int32.toInt (rD k) /\ Int32.toInt (rD k) <= 65535) (wX : 0 <= Int32.toInt bD /\ Int32.toInt bD <= 8) (hpost : ∀ (r : Int32) , (0 <= Int32.toInt r /\ Int32.toInt r <= 1) -> post r) (hK2 : ∀ (x1 : Int32) (x2 : Int32) (x3 : Int32), (0 <= Int32.toInt x1 /\ Int32.toInt x1 <= 255) -> (0 <= Int32.toInt x2 /\ Int32.toInt x2 <= 65535) -> (0 <= Int32.toInt x3 /\ Int32.toInt x3 <= 8) -> (8 - Int32.toInt x3 < n2) -> K2 x1 x2 x3) (x1 x2 x3 : Int32) (aBK : 0 <= Int32.toInt x1 /\ Int32.toInt x1 <= 255) (aBN : 0 <= Int32.toInt x2 /\ Int32.toInt x2 <= 65535) (aCH : 0 <= Int32.toInt x3 /\ Int32.toInt x3 <= 7) (hn2 : 8 - Int32.toInt x3 <= n2) : ws_X5_isFitting_34 post K2 rD bD x1 x2 x3 := by
  have l0 := aEc
  intro v1 ev1
  have f2 : Int32.toInt (x3 + 1) = Int32.toInt x3 + Int32.toInt (1 : Int32) := aAD _ _ (by omega)
  rw [<- ev1] at f2
  exact hK2 x1 x2 v1 aBK aBN (by omega) (by omega)
set_option maxHeartbeats 8000000 in
set_option maxRecDepth 200000 in
theorem ts_X5_isFitting_2 {post : Int32 -> Prop} {next : Int32 -> Int32 -> Int32 -> Prop} {n2 : Int} (rD : Nat -> Int32) (bD : Int32) (zR : ∀ k : Nat, 0 <= Int32.toInt (rD k) /\ Int32.toInt (rD k) <= 65535) (wX : 0 <= Int32.toInt bD /\ Int32.toInt bD <= 8) (hpost : ∀ (r : Int32) , (0 <= Int32.toInt r /\ Int32.toInt r <= 1) -> post r) (hKn : ∀ (x1 : Int32) (x2 : Int32) (x3 : Int32), (0 <= Int32.toInt x1 /\ Int32.toInt x1 <= 255) -> (0 <= Int32.toInt x2 /\ Int32.toInt x2 <= 65535) -> (0 <= Int32.toInt x3 /\ Int32.toInt x3 <= 8) -> (8 - Int32.toInt x3 < n2) -> next x1 x2 x3) (x1 x2 x3 : Int32) (aBK : 0 <= Int32.toInt x1 /\ Int32.toInt x1 <= 255) (aBN : 0 <= Int32.toInt x2 /\ Int32.toInt x2 <= 65535) (aCH : 0 <= Int32.toInt x3 /\ Int32.toInt x3 <= 8) (hn2 : 8 - Int32.toInt x3 <= n2) : ws_X5_isFitting_2 post next rD bD x1 x2 x3 := by
  have l0 := aE0
  have l1 := aEc
  refine And.intro (fun c3 => ?_) (fun c3 => ?_)
  · skip
    have c3 := (aAO _ _).mp c3
    refine aUy aBK zR wX (fun r4 h_r4 => ?_)
    have f7 := aBx x2 (r4 ^^^ (-1)) (by omega)
    refine And.intro (fun c5 => ?_) (fun c5 => ?_)
    · skip
      have c5 := mt (zJ _ _).mpr c5
      exact hpost _ (by omega)
    · skip
      have c5Z := c5
      have c5 := (zJ _ _).mp c5
      have s8 := ti_subset x2 r4 (c5Z) (by omega)
      exact hpost _ (by omega)
  · skip
    have c3 := mt (aAO _ _).mpr c3
    intro v9 ev9
    have f10 := aRJ x1 x3 (by omega)
    have hv9 := congrArg Int32.toInt ev9
    have f12 := aAQ v9 1 (by omega)
    have f13 := aBx v9 1 (by omega)
    refine And.intro (fun c11 => ?_) (fun c11 => ?_)
    · skip
      have c11 := (zJ _ _).mp c11
      exact ts_X5_isFitting_34 rD bD zR wX hpost hKn x1 x2 x3 aBK aBN (by omega) hn2
    · skip
      have c11 := mt (zJ _ _).mpr c11
      refine And.intro (aBZ (by omega)) ?_
      intro v14 ev14
      have f15 := zR x3.toNatClampNeg
      have hv14 := congrArg Int32.toInt ev14
      have f17 := aAQ v14 x2 (by omega)
      have f18 := aBx v14 x2 (by omega)
      refine And.intro (fun c16 => ?_) (fun c16 => ?_)
      · skip
        have c16 := mt (zJ _ _).mpr c16
        exact ts_X5_isFitting_34 rD bD zR wX hpost hKn x1 x2 x3 aBK aBN (by omega) hn2
      · skip
        have c16 := (zJ _ _).mp c16
        exact hpost _ (by omega)
set_option maxHeartbeats 8000000 in
set_option maxRecDepth 200000 in
theorem tb_X5_isFitting_2 {post : Int32 -> Prop} (rD : Nat -> Int32) (bD : Int32) (zR : ∀ k : Nat, 0 <= Int32.toInt (rD k) /\ Int32.toInt (rD k) <= 65535) (wX : 0 <= Int32.toInt bD /\ Int32.toInt bD <= 8) (hpost : ∀ (r : Int32) , (0 <= Int32.toInt r /\ Int32.toInt r <= 1) -> post r) : ∀ (n : Nat) (x1 x2 x3 : Int32), (0 <= Int32.toInt x1 /\ Int32.toInt x1 <= 255) -> (0 <= Int32.toInt x2 /\ Int32.toInt x2 <= 65535) -> (0 <= Int32.toInt x3 /\ Int32.toInt x3 <= 8) -> (8 - Int32.toInt x3 < (n : Int)) -> wb_X5_isFitting_2 post rD bD n x1 x2 x3 := by
  intro n
  induction n with
  | zero =>
    intro x1 x2 x3 aBK aBN aCH hm
    exfalso; omega
  | succ n ih =>
    intro x1 x2 x3 aBK aBN aCH hm
    exact ts_X5_isFitting_2 rD bD zR wX hpost ih x1 x2 x3 aBK aBN aCH (by omega)
set_option maxHeartbeats 8000000 in
set_option maxRecDepth 200000 in
theorem t_X5_isFitting {post : Int32 -> Prop} {p0 p1 : Int32} {rD : Nat -> Int32} {bD : Int32} (h_p0 : 0 <= Int32.toInt p0 /\ Int32.toInt p0 <= 255) (h_p1 : 0 <= Int32.toInt p1 /\ Int32.toInt p1 <= 65535) (zR : ∀ k : Nat, 0 <= Int32.toInt (rD k) /\ Int32.toInt (rD k) <= 65535) (wX : 0 <= Int32.toInt bD /\ Int32.toInt bD <= 8) (hpost : ∀ (r : Int32) , (0 <= Int32.toInt r /\ Int32.toInt r <= 1) -> post r) : wp_X5_isFitting post p0 p1 rD bD := by
  have l0 := aE0
  exact ⟨10, tb_X5_isFitting_2 rD bD zR wX hpost _ p0 p1 0 h_p0 h_p1 (by omega) (by omega)⟩
set_option maxHeartbeats 8000000 in
set_option maxRecDepth 200000 in
theorem ts_X9_fits_104 {post : Int32 -> Int32 -> (Nat -> Int32) -> Int32 -> (Nat -> Int32) -> Prop} {K33 : Int32 -> Int32 -> Int32 -> Int32 -> Int32 -> Int32 -> (Nat -> Int32) -> Int32 -> (Nat -> Int32) -> Prop} {n33 : Int} (dN bD : Int32) (uU gF qF mX oE dY : Nat -> Int32) (jE eW eY gJ jG : Int32) (xL : 0 <= Int32.toInt dN /\ Int32.toInt dN <= 16) (wX : 0 <= Int32.toInt bD /\ Int32.toInt bD <= 8) (zK : 0 <= Int32.toInt jG /\ Int32.toInt jG <= 9) (hpost : ∀ (r : Int32) (aAY : Int32) (aBC : Nat -> Int32) (zV : Int32) (aAV : Nat -> Int32), (0 <= Int32.toInt aAY /\ Int32.toInt aAY <= 65535) -> (∀ k : Nat, 0 <= Int32.toInt (aBC k) /\ Int32.toInt (aBC k) <= 65535) -> (0 <= Int32.toInt zV /\ Int32.toInt zV <= 16) -> post r aAY aBC zV aAV) (hK33 : ∀ (x1 : Int32) (x2 : Int32) (x3 : Int32) (x4 : Int32) (x5 : Int32) (oY : Int32) (rD : Nat -> Int32) (qB : Int32) (jK : Nat -> Int32), (0 <= Int32.toInt x1 /\ Int32.toInt x1 <= 65535) -> (-1 <= Int32.toInt x3 /\ Int32.toInt x3 <= 255) -> (-1 <= Int32.toInt x4 /\ Int32.toInt x4 <= 255) -> (0 <= Int32.toInt x5 /\ Int32.toInt x5 <= 256) -> (0 <= Int32.toInt oY /\ Int32.toInt oY <= 65535) -> (∀ k : Nat, 0 <= Int32.toInt (rD k) /\ Int32.toInt (rD k) <= 65535) -> (0 <= Int32.toInt qB /\ Int32.toInt qB <= 16) -> (256 - Int32.toInt x5 < n33) -> K33 x1 x2 x3 x4 x5 oY rD qB jK) (x1 x2 x3 x4 x5 oY : Int32) (rD : Nat -> Int32) (qB : Int32) (jK : Nat -> Int32) (aBK : 0 <= Int32.toInt x1 /\ Int32.toInt x1 <= 65535) (aCH : -1 <= Int32.toInt x3 /\ Int32.toInt x3 <= 255) (aDO : -1 <= Int32.toInt x4 /\ Int32.toInt x4 <= 255) (aF7 : 0 <= Int32.toInt x5 /\ Int32.toInt x5 <= 255) (aAE : 0 <= Int32.toInt oY /\ Int32.toInt oY <= 65535) (zR : ∀ k : Nat, 0 <= Int32.toInt (rD k) /\ Int32.toInt (rD k) <= 65535) (aAK : 0 <= Int32.toInt qB /\ Int32.toInt qB <= 16) (hn33 : 256 - Int32.toInt x5 <= n33) : ws_X9_fits_104 post K33 dN bD uU gF qF mX oE dY jE eW eY gJ jG x1 x2 x3 x4 x5 oY rD qB jK := by
  have l0 := aEc
  intro v1 ev1
  have f2 : Int32.toInt (x5 + 1) = Int32.toInt x5 + Int32.toInt (1 : Int32) := aAD _ _ (by omega)
  rw [<- ev1] at f2
  have f3 := aAT x2
  exact hK33 x1 x2 x3 x4 v1 oY rD qB jK aBK aCH aDO (by omega) aAE zR aAK (by omega)
set_option maxHeartbeats 8000000 in
set_option maxRecDepth 200000 in
theorem ts_X9_fits_100 {post : Int32 -> Int32 -> (Nat -> Int32) -> Int32 -> (Nat -> Int32) -> Prop} {K33 : Int32 -> Int32 -> Int32 -> Int32 -> Int32 -> Int32 -> (Nat -> Int32) -> Int32 -> (Nat -> Int32) -> Prop} {n33 : Int} (dN bD : Int32) (uU gF qF mX oE dY : Nat -> Int32) (jE eW eY gJ jG : Int32) (xL : 0 <= Int32.toInt dN /\ Int32.toInt dN <= 16) (wX : 0 <= Int32.toInt bD /\ Int32.toInt bD <= 8) (zK : 0 <= Int32.toInt jG /\ Int32.toInt jG <= 9) (hpost : ∀ (r : Int32) (aAY : Int32) (aBC : Nat -> Int32) (zV : Int32) (aAV : Nat -> Int32), (0 <= Int32.toInt aAY /\ Int32.toInt aAY <= 65535) -> (∀ k : Nat, 0 <= Int32.toInt (aBC k) /\ Int32.toInt (aBC k) <= 65535) -> (0 <= Int32.toInt zV /\ Int32.toInt zV <= 16) -> post r aAY aBC zV aAV) (hK33 : ∀ (x1 : Int32) (x2 : Int32) (x3 : Int32) (x4 : Int32) (x5 : Int32) (oY : Int32) (rD : Nat -> Int32) (qB : Int32) (jK : Nat -> Int32), (0 <= Int32.toInt x1 /\ Int32.toInt x1 <= 65535) -> (-1 <= Int32.toInt x3 /\ Int32.toInt x3 <= 255) -> (-1 <= Int32.toInt x4 /\ Int32.toInt x4 <= 255) -> (0 <= Int32.toInt x5 /\ Int32.toInt x5 <= 256) -> (0 <= Int32.toInt oY /\ Int32.toInt oY <= 65535) -> (∀ k : Nat, 0 <= Int32.toInt (rD k) /\ Int32.toInt (rD k) <= 65535) -> (0 <= Int32.toInt qB /\ Int32.toInt qB <= 16) -> (256 - Int32.toInt x5 < n33) -> K33 x1 x2 x3 x4 x5 oY rD qB jK) (x1 x2 x3 x5 oY : Int32) (rD : Nat -> Int32) (qB : Int32) (jK : Nat -> Int32) (aBK : 0 <= Int32.toInt x1 /\ Int32.toInt x1 <= 65535) (aCH : 0 <= Int32.toInt x3 /\ Int32.toInt x3 <= 255) (aF7 : 0 <= Int32.toInt x5 /\ Int32.toInt x5 <= 255) (aAE : 0 <= Int32.toInt oY /\ Int32.toInt oY <= 65535) (zR : ∀ k : Nat, 0 <= Int32.toInt (rD k) /\ Int32.toInt (rD k) <= 65535) (aAK : 0 <= Int32.toInt qB /\ Int32.toInt qB <= 16) (hn33 : 256 - Int32.toInt x5 <= n33) : ws_X9_fits_100 post K33 dN bD uU gF qF mX oE dY jE eW eY gJ jG x1 x2 x3 x5 oY rD qB jK := by
  have f4 := aAT x2
  exact ts_X9_fits_104 dN bD uU gF qF mX oE dY jE eW eY gJ jG xL wX zK hpost hK33 x1 x2 x3 x5 x5 oY rD qB jK aBK (by omega) (by omega) aF7 aAE zR aAK hn33
set_option maxHeartbeats 8000000 in
set_option maxRecDepth 200000 in
theorem ts_X9_fits_81 {post : Int32 -> Int32 -> (Nat -> Int32) -> Int32 -> (Nat -> Int32) -> Prop} {K33 : Int32 -> Int32 -> Int32 -> Int32 -> Int32 -> Int32 -> (Nat -> Int32) -> Int32 -> (Nat -> Int32) -> Prop} {n33 : Int} (dN bD : Int32) (uU gF qF mX oE dY : Nat -> Int32) (jE eW eY gJ jG : Int32) (xL : 0 <= Int32.toInt dN /\ Int32.toInt dN <= 16) (wX : 0 <= Int32.toInt bD /\ Int32.toInt bD <= 8) (zK : 0 <= Int32.toInt jG /\ Int32.toInt jG <= 9) (hpost : ∀ (r : Int32) (aAY : Int32) (aBC : Nat -> Int32) (zV : Int32) (aAV : Nat -> Int32), (0 <= Int32.toInt aAY /\ Int32.toInt aAY <= 65535) -> (∀ k : Nat, 0 <= Int32.toInt (aBC k) /\ Int32.toInt (aBC k) <= 65535) -> (0 <= Int32.toInt zV /\ Int32.toInt zV <= 16) -> post r aAY aBC zV aAV) (hK33 : ∀ (x1 : Int32) (x2 : Int32) (x3 : Int32) (x4 : Int32) (x5 : Int32) (oY : Int32) (rD : Nat -> Int32) (qB : Int32) (jK : Nat -> Int32), (0 <= Int32.toInt x1 /\ Int32.toInt x1 <= 65535) -> (-1 <= Int32.toInt x3 /\ Int32.toInt x3 <= 255) -> (-1 <= Int32.toInt x4 /\ Int32.toInt x4 <= 255) -> (0 <= Int32.toInt x5 /\ Int32.toInt x5 <= 256) -> (0 <= Int32.toInt oY /\ Int32.toInt oY <= 65535) -> (∀ k : Nat, 0 <= Int32.toInt (rD k) /\ Int32.toInt (rD k) <= 65535) -> (0 <= Int32.toInt qB /\ Int32.toInt qB <= 16) -> (256 - Int32.toInt x5 < n33) -> K33 x1 x2 x3 x4 x5 oY rD qB jK) (x1 x2 x3 x4 x5 oY : Int32) (rD : Nat -> Int32) (qB : Int32) (jK : Nat -> Int32) (aBK : 0 <= Int32.toInt x1 /\ Int32.toInt x1 <= 65535) (aCH : 0 <= Int32.toInt x3 /\ Int32.toInt x3 <= 255) (aDO : -1 <= Int32.toInt x4 /\ Int32.toInt x4 <= 255) (aF7 : 0 <= Int32.toInt x5 /\ Int32.toInt x5 <= 255) (aAE : 0 <= Int32.toInt oY /\ Int32.toInt oY <= 65535) (zR : ∀ k : Nat, 0 <= Int32.toInt (rD k) /\ Int32.toInt (rD k) <= 65535) (aAK : 0 <= Int32.toInt qB /\ Int32.toInt qB <= 16) (hn33 : 256 - Int32.toInt x5 <= n33) : ws_X9_fits_81 post K33 dN bD uU gF qF mX oE dY jE eW eY gJ jG x1 x2 x3 x4 x5 oY rD qB jK := by
  have l0 := aI2
  have l1 := aKH
  have l2 := aJ8
  have l3 := li_63
  have l4 := aJ9
  refine And.intro (fun c5 => ?_) (fun c5 => ?_)
  · skip
    have c5 := (zJ _ _).mp c5
    have f6 := aAT x2
    exact ts_X9_fits_100 dN bD uU gF qF mX oE dY jE eW eY gJ jG xL wX zK hpost hK33 x1 x2 x3 x5 oY rD qB jK aBK aCH aF7 aAE zR aAK hn33
  · skip
    have c5 := mt (zJ _ _).mpr c5
    intro v7 ev7
    intro v8 ev8
    have f10 := aAQ v7 1431655765 (by omega)
    have f9 : Int32.toInt (x5 - (v7 &&& 1431655765)) = Int32.toInt x5 - Int32.toInt (v7 &&& 1431655765) := aCA _ _ (by omega)
    rw [<- ev8] at f9
    intro v11 ev11
    have f12 := aAQ v8 858993459 (by omega)
    have hv11 := congrArg Int32.toInt ev11
    intro v13 ev13
    intro v14 ev14
    have f16 := aAQ v13 858993459 (by omega)
    have f15 : Int32.toInt (v11 + (v13 &&& 858993459)) = Int32.toInt v11 + Int32.toInt (v13 &&& 858993459) := aAD _ _ (by omega)
    rw [<- ev14] at f15
    intro v17 ev17
    have hv17 := congrArg Int32.toInt ev17
    intro v19 ev19
    have f20 := aAQ v17 252645135 (by omega)
    have hv19 := congrArg Int32.toInt ev19
    intro v21 ev21
    have hv21 := congrArg Int32.toInt ev21
    intro v23 ev23
    have hv23 := congrArg Int32.toInt ev23
    intro v25 ev25
    intro v26 ev26
    have f28 := aAQ v25 1431655765 (by omega)
    have f27 : Int32.toInt (x4 - (v25 &&& 1431655765)) = Int32.toInt x4 - Int32.toInt (v25 &&& 1431655765) := aCA _ _ (by omega)
    rw [<- ev26] at f27
    intro v29 ev29
    have f30 := aAQ v26 858993459 (by omega)
    have hv29 := congrArg Int32.toInt ev29
    intro v31 ev31
    intro v32 ev32
    have f34 := aAQ v31 858993459 (by omega)
    have f33 : Int32.toInt (v29 + (v31 &&& 858993459)) = Int32.toInt v29 + Int32.toInt (v31 &&& 858993459) := aAD _ _ (by omega)
    rw [<- ev32] at f33
    intro v35 ev35
    have hv35 := congrArg Int32.toInt ev35
    intro v37 ev37
    have f38 := aAQ v35 252645135 (by omega)
    have hv37 := congrArg Int32.toInt ev37
    intro v39 ev39
    have hv39 := congrArg Int32.toInt ev39
    intro v41 ev41
    have hv41 := congrArg Int32.toInt ev41
    have f44 := aAQ v23 63 (by omega)
    have f45 := aAQ v41 63 (by omega)
    refine And.intro (fun c43 => ?_) (fun c43 => ?_)
    · skip
      have c43 := (aAO _ _).mp c43
      have f46 := aAT x2
      exact ts_X9_fits_104 dN bD uU gF qF mX oE dY jE eW eY gJ jG xL wX zK hpost hK33 x1 x2 x3 x4 x5 oY rD qB jK aBK (by omega) aDO aF7 aAE zR aAK hn33
    · skip
      have c43 := mt (aAO _ _).mpr c43
      have f47 := aAT x2
      exact ts_X9_fits_100 dN bD uU gF qF mX oE dY jE eW eY gJ jG xL wX zK hpost hK33 x1 x2 x3 x5 oY rD qB jK aBK aCH aF7 aAE zR aAK hn33
set_option maxHeartbeats 8000000 in
set_option maxRecDepth 200000 in
theorem ts_X9_fits_78 {post : Int32 -> Int32 -> (Nat -> Int32) -> Int32 -> (Nat -> Int32) -> Prop} {K33 : Int32 -> Int32 -> Int32 -> Int32 -> Int32 -> Int32 -> (Nat -> Int32) -> Int32 -> (Nat -> Int32) -> Prop} {n33 : Int} (dN bD : Int32) (uU gF qF mX oE dY : Nat -> Int32) (jE eW eY gJ jG : Int32) (xL : 0 <= Int32.toInt dN /\ Int32.toInt dN <= 16) (wX : 0 <= Int32.toInt bD /\ Int32.toInt bD <= 8) (zK : 0 <= Int32.toInt jG /\ Int32.toInt jG <= 9) (hpost : ∀ (r : Int32) (aAY : Int32) (aBC : Nat -> Int32) (zV : Int32) (aAV : Nat -> Int32), (0 <= Int32.toInt aAY /\ Int32.toInt aAY <= 65535) -> (∀ k : Nat, 0 <= Int32.toInt (aBC k) /\ Int32.toInt (aBC k) <= 65535) -> (0 <= Int32.toInt zV /\ Int32.toInt zV <= 16) -> post r aAY aBC zV aAV) (hK33 : ∀ (x1 : Int32) (x2 : Int32) (x3 : Int32) (x4 : Int32) (x5 : Int32) (oY : Int32) (rD : Nat -> Int32) (qB : Int32) (jK : Nat -> Int32), (0 <= Int32.toInt x1 /\ Int32.toInt x1 <= 65535) -> (-1 <= Int32.toInt x3 /\ Int32.toInt x3 <= 255) -> (-1 <= Int32.toInt x4 /\ Int32.toInt x4 <= 255) -> (0 <= Int32.toInt x5 /\ Int32.toInt x5 <= 256) -> (0 <= Int32.toInt oY /\ Int32.toInt oY <= 65535) -> (∀ k : Nat, 0 <= Int32.toInt (rD k) /\ Int32.toInt (rD k) <= 65535) -> (0 <= Int32.toInt qB /\ Int32.toInt qB <= 16) -> (256 - Int32.toInt x5 < n33) -> K33 x1 x2 x3 x4 x5 oY rD qB jK) (x1 x2 x4 x5 oY : Int32) (rD : Nat -> Int32) (qB : Int32) (jK : Nat -> Int32) (aBK : 0 <= Int32.toInt x1 /\ Int32.toInt x1 <= 65535) (aDO : -1 <= Int32.toInt x4 /\ Int32.toInt x4 <= 255) (aF7 : 0 <= Int32.toInt x5 /\ Int32.toInt x5 <= 255) (aAE : 0 <= Int32.toInt oY /\ Int32.toInt oY <= 65535) (zR : ∀ k : Nat, 0 <= Int32.toInt (rD k) /\ Int32.toInt (rD k) <= 65535) (aAK : 0 <= Int32.toInt qB /\ Int32.toInt qB <= 16) (hn33 : 256 - Int32.toInt x5 <= n33) : ws_X9_fits_78 post K33 dN bD uU gF qF mX oE dY jE eW eY gJ jG x1 x2 x4 x5 oY rD qB jK := by
  have f48 := aAT x2
  exact ts_X9_fits_81 dN bD uU gF qF mX oE dY jE eW eY gJ jG xL wX zK hpost hK33 x1 x2 x5 x4 x5 oY rD qB jK aBK aF7 aDO aF7 aAE zR aAK hn33
set_option maxHeartbeats 8000000 in
set_option maxRecDepth 200000 in
theorem ts_X9_fits_33 {post : Int32 -> Int32 -> (Nat -> Int32) -> Int32 -> (Nat -> Int32) -> Prop} {next : Int32 -> Int32 -> Int32 -> Int32 -> Int32 -> Int32 -> (Nat -> Int32) -> Int32 -> (Nat -> Int32) -> Prop} {n33 : Int} (dN bD : Int32) (uU gF qF mX oE dY : Nat -> Int32) (jE eW eY gJ jG : Int32) (xL : 0 <= Int32.toInt dN /\ Int32.toInt dN <= 16) (wX : 0 <= Int32.toInt bD /\ Int32.toInt bD <= 8) (zK : 0 <= Int32.toInt jG /\ Int32.toInt jG <= 9) (hpost : ∀ (r : Int32) (aAY : Int32) (aBC : Nat -> Int32) (zV : Int32) (aAV : Nat -> Int32), (0 <= Int32.toInt aAY /\ Int32.toInt aAY <= 65535) -> (∀ k : Nat, 0 <= Int32.toInt (aBC k) /\ Int32.toInt (aBC k) <= 65535) -> (0 <= Int32.toInt zV /\ Int32.toInt zV <= 16) -> post r aAY aBC zV aAV) (hKn : ∀ (x1 : Int32) (x2 : Int32) (x3 : Int32) (x4 : Int32) (x5 : Int32) (oY : Int32) (rD : Nat -> Int32) (qB : Int32) (jK : Nat -> Int32), (0 <= Int32.toInt x1 /\ Int32.toInt x1 <= 65535) -> (-1 <= Int32.toInt x3 /\ Int32.toInt x3 <= 255) -> (-1 <= Int32.toInt x4 /\ Int32.toInt x4 <= 255) -> (0 <= Int32.toInt x5 /\ Int32.toInt x5 <= 256) -> (0 <= Int32.toInt oY /\ Int32.toInt oY <= 65535) -> (∀ k : Nat, 0 <= Int32.toInt (rD k) /\ Int32.toInt (rD k) <= 65535) -> (0 <= Int32.toInt qB /\ Int32.toInt qB <= 16) -> (256 - Int32.toInt x5 < n33) -> next x1 x2 x3 x4 x5 oY rD qB jK) (x1 x2 x3 x4 x5 oY : Int32) (rD : Nat -> Int32) (qB : Int32) (jK : Nat -> Int32) (aBK : 0 <= Int32.toInt x1 /\ Int32.toInt x1 <= 65535) (aCH : -1 <= Int32.toInt x3 /\ Int32.toInt x3 <= 255) (aDO : -1 <= Int32.toInt x4 /\ Int32.toInt x4 <= 255) (aF7 : 0 <= Int32.toInt x5 /\ Int32.toInt x5 <= 256) (aAE : 0 <= Int32.toInt oY /\ Int32.toInt oY <= 65535) (zR : ∀ k : Nat, 0 <= Int32.toInt (rD k) /\ Int32.toInt (rD k) <= 65535) (aAK : 0 <= Int32.toInt qB /\ Int32.toInt qB <= 16) (hn33 : 256 - Int32.toInt x5 <= n33) : ws_X9_fits_33 post next dN bD uU gF qF mX oE dY jE eW eY gJ jG x1 x2 x3 x4 x5 oY rD qB jK := by
  have l0 := aI2
  have l1 := aE0
  have l2 := aEc
  have l3 := aKH
  have l4 := li_16
  have l5 := aJ8
  have l6 := li_63
  have l7 := aJ9
  intro v49 ev49
  have f50 := aDv 8 256 bD (by decide) (by omega)
  have hv49 := congrArg Int32.toInt ev49
  have f52 : Int32.toInt (v49 - 1) = Int32.toInt v49 - Int32.toInt (1 : Int32) := aCA _ _ (by omega)
  refine And.intro (fun c51 => ?_) (fun c51 => ?_)
  · skip
    have c51 := (aAd _ _).mp c51
    refine And.intro (fun h9 => absurd h9 (by decide)) (fun _ => ?_)
    refine And.intro (aBZ (by omega)) ?_
    intro v53 ev53
    have f54 : Int32.toInt (0 + 1) = Int32.toInt (0 : Int32) + Int32.toInt (1 : Int32) := aAD _ _ (by omega)
    rw [<- ev53] at f54
    refine And.intro (fun c55 => ?_) (fun c55 => ?_)
    · skip
      have c55 := (aAO _ _).mp c55
      exfalso; omega
    · skip
      have c55 := mt (aAO _ _).mpr c55
      refine And.intro (aBZ (by omega)) ?_
      intro v56 ev56
      have f57 : Int32.toInt (v53 + 1) = Int32.toInt v53 + Int32.toInt (1 : Int32) := aAD _ _ (by omega)
      rw [<- ev56] at f57
      exact hpost _ _ _ _ _ aAE zR (by omega)
  · skip
    have c51 := mt (aAd _ _).mpr c51
    refine t_X5_isFitting (by omega) aBK zR wX (fun r58 h_r58 => ?_)
    refine And.intro (fun c59 => ?_) (fun c59 => ?_)
    · skip
      have c59 := (zJ _ _).mp c59
      have f60 := aAT x2
      exact ts_X9_fits_104 dN bD uU gF qF mX oE dY jE eW eY gJ jG xL wX zK hpost hKn x1 x2 x3 x4 x5 oY rD qB jK aBK aCH aDO (by omega) aAE zR aAK hn33
    · skip
      have c59 := mt (zJ _ _).mpr c59
      intro v61 ev61
      have hv61 := congrArg Int32.toInt ev61
      refine And.intro (fun c63 => ?_) (fun c63 => ?_)
      · skip
        have c63 := (zJ _ _).mp c63
        have f64 := aAT v61
        exact ts_X9_fits_78 dN bD uU gF qF mX oE dY jE eW eY gJ jG xL wX zK hpost hKn x1 v61 x4 x5 oY rD qB jK aBK aDO (by omega) aAE zR aAK hn33
      · skip
        have c63 := mt (zJ _ _).mpr c63
        intro v65 ev65
        intro v66 ev66
        have f68 := aAQ v65 1431655765 (by omega)
        have f67 : Int32.toInt (x5 - (v65 &&& 1431655765)) = Int32.toInt x5 - Int32.toInt (v65 &&& 1431655765) := aCA _ _ (by omega)
        rw [<- ev66] at f67
        intro v69 ev69
        have f70 := aAQ v66 858993459 (by omega)
        have hv69 := congrArg Int32.toInt ev69
        intro v71 ev71
        intro v72 ev72
        have f74 := aAQ v71 858993459 (by omega)
        have f73 : Int32.toInt (v69 + (v71 &&& 858993459)) = Int32.toInt v69 + Int32.toInt (v71 &&& 858993459) := aAD _ _ (by omega)
        rw [<- ev72] at f73
        intro v75 ev75
        have hv75 := congrArg Int32.toInt ev75
        intro v77 ev77
        have f78 := aAQ v75 252645135 (by omega)
        have hv77 := congrArg Int32.toInt ev77
        intro v79 ev79
        have hv79 := congrArg Int32.toInt ev79
        intro v81 ev81
        have hv81 := congrArg Int32.toInt ev81
        intro v83 ev83
        intro v84 ev84
        have f86 := aAQ v83 1431655765 (by omega)
        have f85 : Int32.toInt (x3 - (v83 &&& 1431655765)) = Int32.toInt x3 - Int32.toInt (v83 &&& 1431655765) := aCA _ _ (by omega)
        rw [<- ev84] at f85
        intro v87 ev87
        have f88 := aAQ v84 858993459 (by omega)
        have hv87 := congrArg Int32.toInt ev87
        intro v89 ev89
        intro v90 ev90
        have f92 := aAQ v89 858993459 (by omega)
        have f91 : Int32.toInt (v87 + (v89 &&& 858993459)) = Int32.toInt v87 + Int32.toInt (v89 &&& 858993459) := aAD _ _ (by omega)
        rw [<- ev90] at f91
        intro v93 ev93
        have hv93 := congrArg Int32.toInt ev93
        intro v95 ev95
        have f96 := aAQ v93 252645135 (by omega)
        have hv95 := congrArg Int32.toInt ev95
        intro v97 ev97
        have hv97 := congrArg Int32.toInt ev97
        intro v99 ev99
        have hv99 := congrArg Int32.toInt ev99
        have f102 := aAQ v81 63 (by omega)
        have f103 := aAQ v99 63 (by omega)
        refine And.intro (fun c101 => ?_) (fun c101 => ?_)
        · skip
          have c101 := (aAO _ _).mp c101
          have f104 := aAT v61
          exact ts_X9_fits_81 dN bD uU gF qF mX oE dY jE eW eY gJ jG xL wX zK hpost hKn x1 v61 x3 x4 x5 oY rD qB jK aBK (by omega) aDO (by omega) aAE zR aAK hn33
        · skip
          have c101 := mt (aAO _ _).mpr c101
          have f105 := aAT v61
          exact ts_X9_fits_78 dN bD uU gF qF mX oE dY jE eW eY gJ jG xL wX zK hpost hKn x1 v61 x4 x5 oY rD qB jK aBK aDO (by omega) aAE zR aAK hn33
set_option maxHeartbeats 8000000 in
set_option maxRecDepth 200000 in
theorem tb_X9_fits_33 {post : Int32 -> Int32 -> (Nat -> Int32) -> Int32 -> (Nat -> Int32) -> Prop} (dN bD : Int32) (uU gF qF mX oE dY : Nat -> Int32) (jE eW eY gJ jG : Int32) (xL : 0 <= Int32.toInt dN /\ Int32.toInt dN <= 16) (wX : 0 <= Int32.toInt bD /\ Int32.toInt bD <= 8) (zK : 0 <= Int32.toInt jG /\ Int32.toInt jG <= 9) (hpost : ∀ (r : Int32) (aAY : Int32) (aBC : Nat -> Int32) (zV : Int32) (aAV : Nat -> Int32), (0 <= Int32.toInt aAY /\ Int32.toInt aAY <= 65535) -> (∀ k : Nat, 0 <= Int32.toInt (aBC k) /\ Int32.toInt (aBC k) <= 65535) -> (0 <= Int32.toInt zV /\ Int32.toInt zV <= 16) -> post r aAY aBC zV aAV) : ∀ (n : Nat) (x1 x2 x3 x4 x5 oY : Int32) (rD : Nat -> Int32) (qB : Int32) (jK : Nat -> Int32), (0 <= Int32.toInt x1 /\ Int32.toInt x1 <= 65535) -> (-1 <= Int32.toInt x3 /\ Int32.toInt x3 <= 255) -> (-1 <= Int32.toInt x4 /\ Int32.toInt x4 <= 255) -> (0 <= Int32.toInt x5 /\ Int32.toInt x5 <= 256) -> (0 <= Int32.toInt oY /\ Int32.toInt oY <= 65535) -> (∀ k : Nat, 0 <= Int32.toInt (rD k) /\ Int32.toInt (rD k) <= 65535) -> (0 <= Int32.toInt qB /\ Int32.toInt qB <= 16) -> (256 - Int32.toInt x5 < (n : Int)) -> wb_X9_fits_33 post dN bD uU gF qF mX oE dY jE eW eY gJ jG n x1 x2 x3 x4 x5 oY rD qB jK := by
  intro n
  induction n with
  | zero =>
    intro x1 x2 x3 x4 x5 oY rD qB jK aBK aCH aDO aF7 aAE zR aAK hm
    exfalso; omega
  | succ n ih =>
    intro x1 x2 x3 x4 x5 oY rD qB jK aBK aCH aDO aF7 aAE zR aAK hm
    exact ts_X9_fits_33 dN bD uU gF qF mX oE dY jE eW eY gJ jG xL wX zK hpost ih x1 x2 x3 x4 x5 oY rD qB jK aBK aCH aDO aF7 aAE zR aAK (by omega)
set_option maxHeartbeats 8000000 in
set_option maxRecDepth 200000 in
theorem t_X9_fits {post : Int32 -> Int32 -> (Nat -> Int32) -> Int32 -> (Nat -> Int32) -> Prop} {p0 oY : Int32} {rD : Nat -> Int32} {dN bD : Int32} {uU gF qF mX oE dY : Nat -> Int32} {jE eW eY gJ jG qB : Int32} {jK : Nat -> Int32} (aAE : 0 <= Int32.toInt oY /\ Int32.toInt oY <= 65535) (zR : ∀ k : Nat, 0 <= Int32.toInt (rD k) /\ Int32.toInt (rD k) <= 65535) (xL : 0 <= Int32.toInt dN /\ Int32.toInt dN <= 16) (wX : 0 <= Int32.toInt bD /\ Int32.toInt bD <= 8) (zK : 0 <= Int32.toInt jG /\ Int32.toInt jG <= 9) (aAK : 0 <= Int32.toInt qB /\ Int32.toInt qB <= 16) (hpost : ∀ (r : Int32) (aAY : Int32) (aBC : Nat -> Int32) (zV : Int32) (aAV : Nat -> Int32), (0 <= Int32.toInt aAY /\ Int32.toInt aAY <= 65535) -> (∀ k : Nat, 0 <= Int32.toInt (aBC k) /\ Int32.toInt (aBC k) <= 65535) -> (0 <= Int32.toInt zV /\ Int32.toInt zV <= 16) -> post r aAY aBC zV aAV) : wp_X9_fits post p0 oY rD dN bD uU gF qF mX oE dY jE eW eY gJ jG qB jK := by
  have l0 := aI2
  have l1 := aE0
  have l2 := aEc
  intro v106 ev106
  have f107 := aDv 16 65536 dN (by decide) (by omega)
  have hv106 := congrArg Int32.toInt ev106
  refine And.intro (fun c108 => ?_) (fun c108 => ?_)
  · skip
    have c108Z := c108
    have c108 := (zJ _ _).mp c108
    have f110 : Int32.toInt (v106 - 1) = Int32.toInt v106 - Int32.toInt (1 : Int32) := aCA _ _ (by omega)
    have s111 := ti_subset p0 (v106 - 1) (c108Z) (by omega)
    refine aVe zK aAE zR xL wX (fun pl_wanted_112 pl_near_113 h_pl_wanted_112 h_pl_near_113 => ?_)
    exact ⟨258, tb_X9_fits_33 dN bD uU gF qF mX oE dY jE eW eY gJ jG xL wX zK hpost _ p0 0 (-1) (-1) 0 pl_wanted_112 pl_near_113 qB jK (by omega) (by omega) (by omega) (by omega) h_pl_wanted_112 h_pl_near_113 aAK (by omega)⟩
  · skip
    have c108 := mt (zJ _ _).mpr c108
    exact hpost _ _ _ _ _ aAE zR aAK
set_option maxHeartbeats 8000000 in
set_option maxRecDepth 200000 in
theorem t_X9_leaned {post : Int32 -> Prop} {p0 p1 dN bD : Int32} {uU gF mX oE dY : Nat -> Int32} (xL : 0 <= Int32.toInt dN /\ Int32.toInt dN <= 16) (wX : 0 <= Int32.toInt bD /\ Int32.toInt bD <= 8) (hpost : ∀ (r : Int32) , (-2 <= Int32.toInt r /\ Int32.toInt r <= 30) -> post r) : wp_X9_leaned post p0 p1 dN bD uU gF mX oE dY := by
  have l0 := aI2
  have l1 := aE0
  have f2 := aAT p0
  refine And.intro (fun c1 => ?_) (fun c1 => ?_)
  · skip
    have c1 := (aAd _ _).mp c1
    refine And.intro (fun _ => ?_) (fun h9 => absurd h9 (by decide))
    exact hpost _ (by omega)
  · skip
    have c1 := mt (aAd _ _).mpr c1
    refine And.intro (fun c3 => ?_) (fun c3 => ?_)
    · skip
      have c3 := (aAO _ _).mp c3
      refine And.intro (fun _ => ?_) (fun h9 => absurd h9 (by decide))
      exact hpost _ (by omega)
    · skip
      have c3 := mt (aAO _ _).mpr c3
      refine And.intro (fun h9 => absurd h9 (by decide)) (fun _ => ?_)
      have f5 := aAT p1
      refine And.intro (fun c4 => ?_) (fun c4 => ?_)
      · skip
        have c4 := (aAd _ _).mp c4
        refine And.intro (fun h9 => absurd h9 (by decide)) (fun _ => ?_)
        exact hpost _ (by omega)
      · skip
        have c4 := mt (aAd _ _).mpr c4
        refine And.intro (fun c6 => ?_) (fun c6 => ?_)
        · skip
          have c6 := (aAO _ _).mp c6
          refine And.intro (fun h9 => absurd h9 (by decide)) (fun _ => ?_)
          exact hpost _ (by omega)
        · skip
          have c6 := mt (aAO _ _).mpr c6
          refine And.intro (fun _ => ?_) (fun h9 => absurd h9 (by decide))
          refine t_X3_leanNeeded (by omega) (by omega) (fun r7 h_r7 => ?_)
          exact hpost _ h_r7
set_option maxHeartbeats 8000000 in
set_option maxRecDepth 200000 in
theorem ts_X9_autumn_170 {post : Int32 -> Int32 -> (Nat -> Int32) -> Prop} {K47 : Int32 -> Int32 -> Int32 -> Int32 -> Int32 -> Int32 -> Int32 -> Int32 -> Int32 -> (Nat -> Int32) -> Prop} {n47 : Int} (dN : Int32) (pL qF : Nat -> Int32) (jE eW eY dU jG : Int32) (xL : 0 <= Int32.toInt dN /\ Int32.toInt dN <= 16) (zK : 0 <= Int32.toInt jG /\ Int32.toInt jG <= 9) (hpost : ∀ (r : Int32) (zV : Int32) (aAV : Nat -> Int32), (-1 <= Int32.toInt r /\ Int32.toInt r <= 63) -> (0 <= Int32.toInt zV /\ Int32.toInt zV <= 16) -> post r zV aAV) (hK47 : ∀ (x2 : Int32) (x3 : Int32) (x4 : Int32) (x5 : Int32) (x6 : Int32) (x7 : Int32) (x8 : Int32) (x9 : Int32) (qB : Int32) (jK : Nat -> Int32), (1 <= Int32.toInt x2 /\ Int32.toInt x2 <= 30) -> (0 <= Int32.toInt x3 /\ Int32.toInt x3 <= 10) -> (0 <= Int32.toInt x5 /\ Int32.toInt x5 <= 65535) -> (0 <= Int32.toInt x6 /\ Int32.toInt x6 <= 65535) -> (0 <= Int32.toInt x7 /\ Int32.toInt x7 <= 2147483647) -> (-1 <= Int32.toInt x8 /\ Int32.toInt x8 <= 30) -> (1 <= Int32.toInt x9 /\ Int32.toInt x9 <= 31) -> (0 <= Int32.toInt qB /\ Int32.toInt qB <= 16) -> (31 - Int32.toInt x9 < n47) -> K47 x2 x3 x4 x5 x6 x7 x8 x9 qB jK) (x2 x3 x4 x5 x6 x7 x8 x9 qB : Int32) (jK : Nat -> Int32) (aBN : 1 <= Int32.toInt x2 /\ Int32.toInt x2 <= 30) (aCH : 0 <= Int32.toInt x3 /\ Int32.toInt x3 <= 10) (aF7 : 0 <= Int32.toInt x5 /\ Int32.toInt x5 <= 65535) (h_x6 : 0 <= Int32.toInt x6 /\ Int32.toInt x6 <= 65535) (h_x7 : 0 <= Int32.toInt x7 /\ Int32.toInt x7 <= 2147483647) (h_x8 : -1 <= Int32.toInt x8 /\ Int32.toInt x8 <= 30) (h_x9 : 1 <= Int32.toInt x9 /\ Int32.toInt x9 <= 30) (aAK : 0 <= Int32.toInt qB /\ Int32.toInt qB <= 16) (hn47 : 31 - Int32.toInt x9 <= n47) : ws_X9_autumn_170 post K47 dN pL qF jE eW eY dU jG x2 x3 x4 x5 x6 x7 x8 x9 qB jK := by
  have l0 := aEc
  intro v1 ev1
  have f2 : Int32.toInt (x9 + 1) = Int32.toInt x9 + Int32.toInt (1 : Int32) := aAD _ _ (by omega)
  rw [<- ev1] at f2
  have f3 := aAT x7
  have f4 := aAT x4
  exact hK47 x2 x3 x4 x5 x6 x7 x8 v1 qB jK aBN aCH aF7 h_x6 h_x7 h_x8 (by omega) aAK (by omega)
set_option maxHeartbeats 8000000 in
set_option maxRecDepth 200000 in
theorem ts_X9_autumn_149 {post : Int32 -> Int32 -> (Nat -> Int32) -> Prop} {K47 : Int32 -> Int32 -> Int32 -> Int32 -> Int32 -> Int32 -> Int32 -> Int32 -> Int32 -> (Nat -> Int32) -> Prop} {K91 : Int32 -> Int32 -> Int32 -> Int32 -> Int32 -> Int32 -> Int32 -> Int32 -> Int32 -> Int32 -> Int32 -> Int32 -> (Nat -> Int32) -> Prop} {n47 n91 : Int} (dN : Int32) (pL qF : Nat -> Int32) (jE eW eY dU jG : Int32) (xL : 0 <= Int32.toInt dN /\ Int32.toInt dN <= 16) (zK : 0 <= Int32.toInt jG /\ Int32.toInt jG <= 9) (hpost : ∀ (r : Int32) (zV : Int32) (aAV : Nat -> Int32), (-1 <= Int32.toInt r /\ Int32.toInt r <= 63) -> (0 <= Int32.toInt zV /\ Int32.toInt zV <= 16) -> post r zV aAV) (hK47 : ∀ (x2 : Int32) (x3 : Int32) (x4 : Int32) (x5 : Int32) (x6 : Int32) (x7 : Int32) (x8 : Int32) (x9 : Int32) (qB : Int32) (jK : Nat -> Int32), (1 <= Int32.toInt x2 /\ Int32.toInt x2 <= 30) -> (0 <= Int32.toInt x3 /\ Int32.toInt x3 <= 10) -> (0 <= Int32.toInt x5 /\ Int32.toInt x5 <= 65535) -> (0 <= Int32.toInt x6 /\ Int32.toInt x6 <= 65535) -> (0 <= Int32.toInt x7 /\ Int32.toInt x7 <= 2147483647) -> (-1 <= Int32.toInt x8 /\ Int32.toInt x8 <= 30) -> (1 <= Int32.toInt x9 /\ Int32.toInt x9 <= 31) -> (0 <= Int32.toInt qB /\ Int32.toInt qB <= 16) -> (31 - Int32.toInt x9 < n47) -> K47 x2 x3 x4 x5 x6 x7 x8 x9 qB jK) (hK91 : ∀ (x2 : Int32) (x3 : Int32) (x4 : Int32) (x5 : Int32) (x6 : Int32) (x7 : Int32) (x8 : Int32) (x9 : Int32) (x10 : Int32) (x11 : Int32) (x12 : Int32) (qB : Int32) (jK : Nat -> Int32), (1 <= Int32.toInt x2 /\ Int32.toInt x2 <= 30) -> (0 <= Int32.toInt x3 /\ Int32.toInt x3 <= 10) -> (0 <= Int32.toInt x5 /\ Int32.toInt x5 <= 65535) -> (0 <= Int32.toInt x6 /\ Int32.toInt x6 <= 65535) -> (0 <= Int32.toInt x7 /\ Int32.toInt x7 <= 2147483647) -> (-1 <= Int32.toInt x8 /\ Int32.toInt x8 <= 30) -> (1 <= Int32.toInt x9 /\ Int32.toInt x9 <= 30) -> (0 <= Int32.toInt x10 /\ Int32.toInt x10 <= 65535) -> (0 <= Int32.toInt x12 /\ Int32.toInt x12 <= 16) -> (0 <= Int32.toInt qB /\ Int32.toInt qB <= 16) -> (31 - Int32.toInt x9 <= n47) -> (16 - Int32.toInt x12 < n91) -> K91 x2 x3 x4 x5 x6 x7 x8 x9 x10 x11 x12 qB jK) (x2 x3 x4 x5 x6 x7 x8 x9 x10 x11 x12 qB : Int32) (jK : Nat -> Int32) (aBN : 1 <= Int32.toInt x2 /\ Int32.toInt x2 <= 30) (aCH : 0 <= Int32.toInt x3 /\ Int32.toInt x3 <= 10) (aF7 : 0 <= Int32.toInt x5 /\ Int32.toInt x5 <= 65535) (h_x6 : 0 <= Int32.toInt x6 /\ Int32.toInt x6 <= 65535) (h_x7 : 0 <= Int32.toInt x7 /\ Int32.toInt x7 <= 2147483647) (h_x8 : -1 <= Int32.toInt x8 /\ Int32.toInt x8 <= 30) (h_x9 : 1 <= Int32.toInt x9 /\ Int32.toInt x9 <= 30) (h_x10 : 0 <= Int32.toInt x10 /\ Int32.toInt x10 <= 65535) (h_x12 : 0 <= Int32.toInt x12 /\ Int32.toInt x12 <= 15) (aAK : 0 <= Int32.toInt qB /\ Int32.toInt qB <= 16) (hn47 : 31 - Int32.toInt x9 <= n47) (hn91 : 16 - Int32.toInt x12 <= n91) : ws_X9_autumn_149 post K47 K91 dN pL qF jE eW eY dU jG x2 x3 x4 x5 x6 x7 x8 x9 x10 x11 x12 qB jK := by
  have l0 := aEc
  intro v5 ev5
  have f6 : Int32.toInt (x12 + 1) = Int32.toInt x12 + Int32.toInt (1 : Int32) := aAD _ _ (by omega)
  rw [<- ev5] at f6
  have f7 := aAT x7
  have f8 := aAT x4
  have f9 := aAT x11
  exact hK91 x2 x3 x4 x5 x6 x7 x8 x9 x10 x11 v5 qB jK aBN aCH aF7 h_x6 h_x7 h_x8 h_x9 h_x10 (by omega) aAK hn47 (by omega)
set_option maxHeartbeats 8000000 in
set_option maxRecDepth 200000 in
theorem ts_X9_autumn_91 {post : Int32 -> Int32 -> (Nat -> Int32) -> Prop} {K47 : Int32 -> Int32 -> Int32 -> Int32 -> Int32 -> Int32 -> Int32 -> Int32 -> Int32 -> (Nat -> Int32) -> Prop} {next : Int32 -> Int32 -> Int32 -> Int32 -> Int32 -> Int32 -> Int32 -> Int32 -> Int32 -> Int32 -> Int32 -> Int32 -> (Nat -> Int32) -> Prop} {n91 n47 : Int} (dN : Int32) (pL qF : Nat -> Int32) (jE eW eY dU jG : Int32) (xL : 0 <= Int32.toInt dN /\ Int32.toInt dN <= 16) (zK : 0 <= Int32.toInt jG /\ Int32.toInt jG <= 9) (hpost : ∀ (r : Int32) (zV : Int32) (aAV : Nat -> Int32), (-1 <= Int32.toInt r /\ Int32.toInt r <= 63) -> (0 <= Int32.toInt zV /\ Int32.toInt zV <= 16) -> post r zV aAV) (hK47 : ∀ (x2 : Int32) (x3 : Int32) (x4 : Int32) (x5 : Int32) (x6 : Int32) (x7 : Int32) (x8 : Int32) (x9 : Int32) (qB : Int32) (jK : Nat -> Int32), (1 <= Int32.toInt x2 /\ Int32.toInt x2 <= 30) -> (0 <= Int32.toInt x3 /\ Int32.toInt x3 <= 10) -> (0 <= Int32.toInt x5 /\ Int32.toInt x5 <= 65535) -> (0 <= Int32.toInt x6 /\ Int32.toInt x6 <= 65535) -> (0 <= Int32.toInt x7 /\ Int32.toInt x7 <= 2147483647) -> (-1 <= Int32.toInt x8 /\ Int32.toInt x8 <= 30) -> (1 <= Int32.toInt x9 /\ Int32.toInt x9 <= 31) -> (0 <= Int32.toInt qB /\ Int32.toInt qB <= 16) -> (31 - Int32.toInt x9 < n47) -> K47 x2 x3 x4 x5 x6 x7 x8 x9 qB jK) (hKn : ∀ (x2 : Int32) (x3 : Int32) (x4 : Int32) (x5 : Int32) (x6 : Int32) (x7 : Int32) (x8 : Int32) (x9 : Int32) (x10 : Int32) (x11 : Int32) (x12 : Int32) (qB : Int32) (jK : Nat -> Int32), (1 <= Int32.toInt x2 /\ Int32.toInt x2 <= 30) -> (0 <= Int32.toInt x3 /\ Int32.toInt x3 <= 10) -> (0 <= Int32.toInt x5 /\ Int32.toInt x5 <= 65535) -> (0 <= Int32.toInt x6 /\ Int32.toInt x6 <= 65535) -> (0 <= Int32.toInt x7 /\ Int32.toInt x7 <= 2147483647) -> (-1 <= Int32.toInt x8 /\ Int32.toInt x8 <= 30) -> (1 <= Int32.toInt x9 /\ Int32.toInt x9 <= 30) -> (0 <= Int32.toInt x10 /\ Int32.toInt x10 <= 65535) -> (0 <= Int32.toInt x12 /\ Int32.toInt x12 <= 16) -> (0 <= Int32.toInt qB /\ Int32.toInt qB <= 16) -> (31 - Int32.toInt x9 <= n47) -> (16 - Int32.toInt x12 < n91) -> next x2 x3 x4 x5 x6 x7 x8 x9 x10 x11 x12 qB jK) (x2 x3 x4 x5 x6 x7 x8 x9 x10 x11 x12 qB : Int32) (jK : Nat -> Int32) (aBN : 1 <= Int32.toInt x2 /\ Int32.toInt x2 <= 30) (aCH : 0 <= Int32.toInt x3 /\ Int32.toInt x3 <= 10) (aF7 : 0 <= Int32.toInt x5 /\ Int32.toInt x5 <= 65535) (h_x6 : 0 <= Int32.toInt x6 /\ Int32.toInt x6 <= 65535) (h_x7 : 0 <= Int32.toInt x7 /\ Int32.toInt x7 <= 2147483647) (h_x8 : -1 <= Int32.toInt x8 /\ Int32.toInt x8 <= 30) (h_x9 : 1 <= Int32.toInt x9 /\ Int32.toInt x9 <= 30) (h_x10 : 0 <= Int32.toInt x10 /\ Int32.toInt x10 <= 65535) (h_x12 : 0 <= Int32.toInt x12 /\ Int32.toInt x12 <= 16) (aAK : 0 <= Int32.toInt qB /\ Int32.toInt qB <= 16) (hn47 : 31 - Int32.toInt x9 <= n47) (hn91 : 16 - Int32.toInt x12 <= n91) : ws_X9_autumn_91 post K47 next dN pL qF jE eW eY dU jG x2 x3 x4 x5 x6 x7 x8 x9 x10 x11 x12 qB jK := by
  have l0 := aE0
  have l1 := aEc
  refine And.intro (fun c10 => ?_) (fun c10 => ?_)
  · skip
    have c10 := (aAO _ _).mp c10
    have f12 := aAT x11
    have f13 := aAT x7
    refine And.intro (fun c11 => ?_) (fun c11 => ?_)
    · skip
      have c11 := (aAO _ _).mp c11
      have f14 := aAT x4
      exact ts_X9_autumn_170 dN pL qF jE eW eY dU jG xL zK hpost hK47 x2 x3 x4 x5 x6 x7 x8 x9 qB jK aBN aCH aF7 h_x6 h_x7 h_x8 h_x9 aAK hn47
    · skip
      have c11 := mt (aAO _ _).mpr c11
      have f15 := aAT x4
      exact ts_X9_autumn_170 dN pL qF jE eW eY dU jG xL zK hpost hK47 x2 x3 x4 x5 x6 x11 x9 x9 qB jK aBN aCH aF7 h_x6 (by omega) (by omega) h_x9 aAK hn47
  · skip
    have c10 := mt (aAO _ _).mpr c10
    intro v16 ev16
    have f17 := aRJ x10 x12 (by omega)
    have hv16 := congrArg Int32.toInt ev16
    have f19 := aAQ v16 1 (by omega)
    have f20 := aBx v16 1 (by omega)
    refine And.intro (fun c18 => ?_) (fun c18 => ?_)
    · skip
      have c18 := (zJ _ _).mp c18
      have f21 := aAT x7
      have f22 := aAT x4
      have f23 := aAT x11
      exact ts_X9_autumn_149 dN pL qF jE eW eY dU jG xL zK hpost hK47 hKn x2 x3 x4 x5 x6 x7 x8 x9 x10 x11 x12 qB jK aBN aCH aF7 h_x6 h_x7 h_x8 h_x9 h_x10 (by omega) aAK hn47 hn91
    · skip
      have c18 := mt (zJ _ _).mpr c18
      intro v24 ev24
      have hv24 := congrArg Int32.toInt ev24
      intro v26 ev26
      have hv26 := congrArg Int32.toInt ev26
      intro v28 ev28
      intro v29 ev29
      have f31 := aAT v29
      refine And.intro (fun c30 => ?_) (fun c30 => ?_)
      · skip
        have c30 := (aAO _ _).mp c30
        have f32 := aAT x7
        have f33 := aAT v26
        have f34 := aAT x11
        exact ts_X9_autumn_149 dN pL qF jE eW eY dU jG xL zK hpost hK47 hKn x2 x3 v26 x5 x6 x7 x8 x9 x10 x11 x12 qB jK aBN aCH aF7 h_x6 h_x7 h_x8 h_x9 h_x10 (by omega) aAK hn47 hn91
      · skip
        have c30 := mt (aAO _ _).mpr c30
        intro v35 ev35
        have f37 := aDv 15 32768 x12 (by decide) (by omega)
        have f36 := ti_or 16 65536 x6 (1 <<< (x12 &&& 31)) (by decide) (by omega) (by omega)
        have hv35 := congrArg Int32.toInt ev35
        intro v38 ev38
        have hv38 := congrArg Int32.toInt ev38
        have f40 := aAT x7
        have f41 := aAT v26
        have f42 := aAT v38
        exact ts_X9_autumn_149 dN pL qF jE eW eY dU jG xL zK hpost hK47 hKn x2 x3 v26 x5 v35 x7 x8 x9 x10 v38 x12 qB jK aBN aCH aF7 (by omega) h_x7 h_x8 h_x9 h_x10 (by omega) aAK hn47 hn91
set_option maxHeartbeats 8000000 in
set_option maxRecDepth 200000 in
theorem tb_X9_autumn_91 {post : Int32 -> Int32 -> (Nat -> Int32) -> Prop} {K47 : Int32 -> Int32 -> Int32 -> Int32 -> Int32 -> Int32 -> Int32 -> Int32 -> Int32 -> (Nat -> Int32) -> Prop} {n47 : Int} (dN : Int32) (pL qF : Nat -> Int32) (jE eW eY dU jG : Int32) (xL : 0 <= Int32.toInt dN /\ Int32.toInt dN <= 16) (zK : 0 <= Int32.toInt jG /\ Int32.toInt jG <= 9) (hpost : ∀ (r : Int32) (zV : Int32) (aAV : Nat -> Int32), (-1 <= Int32.toInt r /\ Int32.toInt r <= 63) -> (0 <= Int32.toInt zV /\ Int32.toInt zV <= 16) -> post r zV aAV) (hK47 : ∀ (x2 : Int32) (x3 : Int32) (x4 : Int32) (x5 : Int32) (x6 : Int32) (x7 : Int32) (x8 : Int32) (x9 : Int32) (qB : Int32) (jK : Nat -> Int32), (1 <= Int32.toInt x2 /\ Int32.toInt x2 <= 30) -> (0 <= Int32.toInt x3 /\ Int32.toInt x3 <= 10) -> (0 <= Int32.toInt x5 /\ Int32.toInt x5 <= 65535) -> (0 <= Int32.toInt x6 /\ Int32.toInt x6 <= 65535) -> (0 <= Int32.toInt x7 /\ Int32.toInt x7 <= 2147483647) -> (-1 <= Int32.toInt x8 /\ Int32.toInt x8 <= 30) -> (1 <= Int32.toInt x9 /\ Int32.toInt x9 <= 31) -> (0 <= Int32.toInt qB /\ Int32.toInt qB <= 16) -> (31 - Int32.toInt x9 < n47) -> K47 x2 x3 x4 x5 x6 x7 x8 x9 qB jK) : ∀ (n : Nat) (x2 x3 x4 x5 x6 x7 x8 x9 x10 x11 x12 qB : Int32) (jK : Nat -> Int32), (1 <= Int32.toInt x2 /\ Int32.toInt x2 <= 30) -> (0 <= Int32.toInt x3 /\ Int32.toInt x3 <= 10) -> (0 <= Int32.toInt x5 /\ Int32.toInt x5 <= 65535) -> (0 <= Int32.toInt x6 /\ Int32.toInt x6 <= 65535) -> (0 <= Int32.toInt x7 /\ Int32.toInt x7 <= 2147483647) -> (-1 <= Int32.toInt x8 /\ Int32.toInt x8 <= 30) -> (1 <= Int32.toInt x9 /\ Int32.toInt x9 <= 30) -> (0 <= Int32.toInt x10 /\ Int32.toInt x10 <= 65535) -> (0 <= Int32.toInt x12 /\ Int32.toInt x12 <= 16) -> (0 <= Int32.toInt qB /\ Int32.toInt qB <= 16) -> (31 - Int32.toInt x9 <= n47) -> (16 - Int32.toInt x12 < (n : Int)) -> wb_X9_autumn_91 post K47 dN pL qF jE eW eY dU jG n x2 x3 x4 x5 x6 x7 x8 x9 x10 x11 x12 qB jK := by
  intro n
  induction n with
  | zero =>
    intro x2 x3 x4 x5 x6 x7 x8 x9 x10 x11 x12 qB jK aBN aCH aF7 h_x6 h_x7 h_x8 h_x9 h_x10 h_x12 aAK hn47 hm
    exfalso; omega
  | succ n ih =>
    intro x2 x3 x4 x5 x6 x7 x8 x9 x10 x11 x12 qB jK aBN aCH aF7 h_x6 h_x7 h_x8 h_x9 h_x10 h_x12 aAK hn47 hm
    exact ts_X9_autumn_91 dN pL qF jE eW eY dU jG xL zK hpost hK47 ih x2 x3 x4 x5 x6 x7 x8 x9 x10 x11 x12 qB jK aBN aCH aF7 h_x6 h_x7 h_x8 h_x9 h_x10 h_x12 aAK hn47 (by omega)
set_option maxHeartbeats 8000000 in
set_option maxRecDepth 200000 in
theorem ts_X9_autumn_47 {post : Int32 -> Int32 -> (Nat -> Int32) -> Prop} {next : Int32 -> Int32 -> Int32 -> Int32 -> Int32 -> Int32 -> Int32 -> Int32 -> Int32 -> (Nat -> Int32) -> Prop} {n47 : Int} (dN : Int32) (pL qF : Nat -> Int32) (jE eW eY dU jG : Int32) (xL : 0 <= Int32.toInt dN /\ Int32.toInt dN <= 16) (zK : 0 <= Int32.toInt jG /\ Int32.toInt jG <= 9) (hpost : ∀ (r : Int32) (zV : Int32) (aAV : Nat -> Int32), (-1 <= Int32.toInt r /\ Int32.toInt r <= 63) -> (0 <= Int32.toInt zV /\ Int32.toInt zV <= 16) -> post r zV aAV) (hKn : ∀ (x2 : Int32) (x3 : Int32) (x4 : Int32) (x5 : Int32) (x6 : Int32) (x7 : Int32) (x8 : Int32) (x9 : Int32) (qB : Int32) (jK : Nat -> Int32), (1 <= Int32.toInt x2 /\ Int32.toInt x2 <= 30) -> (0 <= Int32.toInt x3 /\ Int32.toInt x3 <= 10) -> (0 <= Int32.toInt x5 /\ Int32.toInt x5 <= 65535) -> (0 <= Int32.toInt x6 /\ Int32.toInt x6 <= 65535) -> (0 <= Int32.toInt x7 /\ Int32.toInt x7 <= 2147483647) -> (-1 <= Int32.toInt x8 /\ Int32.toInt x8 <= 30) -> (1 <= Int32.toInt x9 /\ Int32.toInt x9 <= 31) -> (0 <= Int32.toInt qB /\ Int32.toInt qB <= 16) -> (31 - Int32.toInt x9 < n47) -> next x2 x3 x4 x5 x6 x7 x8 x9 qB jK) (x2 x3 x4 x5 x6 x7 x8 x9 qB : Int32) (jK : Nat -> Int32) (aBN : 1 <= Int32.toInt x2 /\ Int32.toInt x2 <= 30) (aCH : 0 <= Int32.toInt x3 /\ Int32.toInt x3 <= 10) (aF7 : 0 <= Int32.toInt x5 /\ Int32.toInt x5 <= 65535) (h_x6 : 0 <= Int32.toInt x6 /\ Int32.toInt x6 <= 65535) (h_x7 : 0 <= Int32.toInt x7 /\ Int32.toInt x7 <= 2147483647) (h_x8 : -1 <= Int32.toInt x8 /\ Int32.toInt x8 <= 30) (h_x9 : 1 <= Int32.toInt x9 /\ Int32.toInt x9 <= 31) (aAK : 0 <= Int32.toInt qB /\ Int32.toInt qB <= 16) (hn47 : 31 - Int32.toInt x9 <= n47) : ws_X9_autumn_47 post next dN pL qF jE eW eY dU jG x2 x3 x4 x5 x6 x7 x8 x9 qB jK := by
  have l0 := aE0
  have l1 := aEc
  have l2 := aKH
  have l3 := li_16
  have l4 := aJ8
  have l5 := li_63
  have l6 := aJ9
  have l7 := li_9
  refine And.intro (fun c43 => ?_) (fun c43 => ?_)
  · skip
    have c43 := (aAd _ _).mp c43
    refine aUx xL (fun r44 => ?_)
    refine And.intro (fun h9 => absurd h9 (by decide)) (fun _ => ?_)
    refine And.intro (aBZ (by omega)) ?_
    intro v45 ev45
    have f46 : Int32.toInt (0 + 1) = Int32.toInt (0 : Int32) + Int32.toInt (1 : Int32) := aAD _ _ (by omega)
    rw [<- ev45] at f46
    refine And.intro (fun c47 => ?_) (fun c47 => ?_)
    · skip
      have c47 := (aAO _ _).mp c47
      exfalso; omega
    · skip
      have c47 := mt (aAO _ _).mpr c47
      refine And.intro (aBZ (by omega)) ?_
      intro v48 ev48
      have f49 : Int32.toInt (v45 + 1) = Int32.toInt v45 + Int32.toInt (1 : Int32) := aAD _ _ (by omega)
      rw [<- ev48] at f49
      refine And.intro (fun c50 => ?_) (fun c50 => ?_)
      · skip
        have c50 := (aAO _ _).mp c50
        exfalso; omega
      · skip
        have c50 := mt (aAO _ _).mpr c50
        refine And.intro (aBZ (by omega)) ?_
        intro v51 ev51
        have f52 : Int32.toInt (v48 + 1) = Int32.toInt v48 + Int32.toInt (1 : Int32) := aAD _ _ (by omega)
        rw [<- ev51] at f52
        intro v53 ev53
        intro v54 ev54
        have f56 := aAQ v53 1431655765 (by omega)
        have f55 : Int32.toInt (x6 - (v53 &&& 1431655765)) = Int32.toInt x6 - Int32.toInt (v53 &&& 1431655765) := aCA _ _ (by omega)
        rw [<- ev54] at f55
        intro v57 ev57
        have f58 := aAQ v54 858993459 (by omega)
        have hv57 := congrArg Int32.toInt ev57
        intro v59 ev59
        intro v60 ev60
        have f62 := aAQ v59 858993459 (by omega)
        have f61 : Int32.toInt (v57 + (v59 &&& 858993459)) = Int32.toInt v57 + Int32.toInt (v59 &&& 858993459) := aAD _ _ (by omega)
        rw [<- ev60] at f61
        intro v63 ev63
        have hv63 := congrArg Int32.toInt ev63
        intro v65 ev65
        have f66 := aAQ v63 252645135 (by omega)
        have hv65 := congrArg Int32.toInt ev65
        intro v67 ev67
        have hv67 := congrArg Int32.toInt ev67
        intro v69 ev69
        have hv69 := congrArg Int32.toInt ev69
        have f71 := aAQ v69 63 (by omega)
        exact hpost _ _ _ (by omega) (by omega)
  · skip
    have c43 := mt (aAd _ _).mpr c43
    intro v72 ev72
    have f74 := aBx x5 (x6 ^^^ (-1)) (by omega)
    have hv72 := congrArg Int32.toInt ev72
    intro v75 ev75
    have f76 : Int32.toInt (jG + x9) = Int32.toInt jG + Int32.toInt x9 := aAD _ _ (by omega)
    rw [<- ev75] at f76
    intro v77 ev77
    have f78 := ti_min (9 : Int32) v75
    have hv77 := congrArg Int32.toInt ev77
    refine t_X3_ripeBy (by omega) xL (fun r79 h_r79 => ?_)
    intro v80 ev80
    have f81 := aAQ v72 r79 (by omega)
    have f82 := aBx v72 r79 (by omega)
    have hv80 := congrArg Int32.toInt ev80
    have f83 := aAT x7
    have f84 := aAT x4
    exact ⟨18, tb_X9_autumn_91 dN pL qF jE eW eY dU jG xL zK hpost hKn _ x2 x3 x4 x5 x6 x7 x8 x9 v80 0 0 qB jK aBN aCH aF7 h_x6 h_x7 h_x8 (by omega) (by omega) (by omega) aAK hn47 (by omega)⟩
set_option maxHeartbeats 8000000 in
set_option maxRecDepth 200000 in
theorem tb_X9_autumn_47 {post : Int32 -> Int32 -> (Nat -> Int32) -> Prop} (dN : Int32) (pL qF : Nat -> Int32) (jE eW eY dU jG : Int32) (xL : 0 <= Int32.toInt dN /\ Int32.toInt dN <= 16) (zK : 0 <= Int32.toInt jG /\ Int32.toInt jG <= 9) (hpost : ∀ (r : Int32) (zV : Int32) (aAV : Nat -> Int32), (-1 <= Int32.toInt r /\ Int32.toInt r <= 63) -> (0 <= Int32.toInt zV /\ Int32.toInt zV <= 16) -> post r zV aAV) : ∀ (n : Nat) (x2 x3 x4 x5 x6 x7 x8 x9 qB : Int32) (jK : Nat -> Int32), (1 <= Int32.toInt x2 /\ Int32.toInt x2 <= 30) -> (0 <= Int32.toInt x3 /\ Int32.toInt x3 <= 10) -> (0 <= Int32.toInt x5 /\ Int32.toInt x5 <= 65535) -> (0 <= Int32.toInt x6 /\ Int32.toInt x6 <= 65535) -> (0 <= Int32.toInt x7 /\ Int32.toInt x7 <= 2147483647) -> (-1 <= Int32.toInt x8 /\ Int32.toInt x8 <= 30) -> (1 <= Int32.toInt x9 /\ Int32.toInt x9 <= 31) -> (0 <= Int32.toInt qB /\ Int32.toInt qB <= 16) -> (31 - Int32.toInt x9 < (n : Int)) -> wb_X9_autumn_47 post dN pL qF jE eW eY dU jG n x2 x3 x4 x5 x6 x7 x8 x9 qB jK := by
  intro n
  induction n with
  | zero =>
    intro x2 x3 x4 x5 x6 x7 x8 x9 qB jK aBN aCH aF7 h_x6 h_x7 h_x8 h_x9 aAK hm
    exfalso; omega
  | succ n ih =>
    intro x2 x3 x4 x5 x6 x7 x8 x9 qB jK aBN aCH aF7 h_x6 h_x7 h_x8 h_x9 aAK hm
    exact ts_X9_autumn_47 dN pL qF jE eW eY dU jG xL zK hpost ih x2 x3 x4 x5 x6 x7 x8 x9 qB jK aBN aCH aF7 h_x6 h_x7 h_x8 h_x9 aAK (by omega)
set_option maxHeartbeats 8000000 in
set_option maxRecDepth 200000 in
theorem t_X9_autumn {post : Int32 -> Int32 -> (Nat -> Int32) -> Prop} {p0 p1 p2 dN : Int32} {pL qF : Nat -> Int32} {jE eW eY dU jG qB : Int32} {jK : Nat -> Int32} (xL : 0 <= Int32.toInt dN /\ Int32.toInt dN <= 16) (zK : 0 <= Int32.toInt jG /\ Int32.toInt jG <= 9) (aAK : 0 <= Int32.toInt qB /\ Int32.toInt qB <= 16) (hpost : ∀ (r : Int32) (zV : Int32) (aAV : Nat -> Int32), (-1 <= Int32.toInt r /\ Int32.toInt r <= 63) -> (0 <= Int32.toInt zV /\ Int32.toInt zV <= 16) -> post r zV aAV) : wp_X9_autumn post p0 p1 p2 dN pL qF jE eW eY dU jG qB jK := by
  have l0 := aI2
  have l1 := aE0
  have l2 := aEc
  have l3 := li_10
  have l4 := li_30
  have f86 := aAT p1
  refine And.intro (fun c85 => ?_) (fun c85 => ?_)
  · skip
    have c85 := (aAd _ _).mp c85
    exact hpost _ _ _ (by omega) aAK
  · skip
    have c85 := mt (aAd _ _).mpr c85
    refine And.intro (fun c87 => ?_) (fun c87 => ?_)
    · skip
      have c87 := (aAd _ _).mp c87
      exact hpost _ _ _ (by omega) aAK
    · skip
      have c87 := mt (aAd _ _).mpr c87
      have f89 := aAT p2
      refine And.intro (fun c88 => ?_) (fun c88 => ?_)
      · skip
        have c88 := (aAd _ _).mp c88
        exact hpost _ _ _ (by omega) aAK
      · skip
        have c88 := mt (aAd _ _).mpr c88
        refine And.intro (fun c90 => ?_) (fun c90 => ?_)
        · skip
          have c90 := (aAO _ _).mp c90
          intro v91 ev91
          have f92 := aDv 16 65536 dN (by decide) (by omega)
          have hv91 := congrArg Int32.toInt ev91
          intro v93 ev93
          intro v94 ev94
          have f96 : Int32.toInt (v91 - 1) = Int32.toInt v91 - Int32.toInt (1 : Int32) := aCA _ _ (by omega)
          have f97 := aBx (v91 - 1) (v94 ^^^ (-1)) (by omega)
          have f98 := aAT p0
          exact ⟨32, tb_X9_autumn_47 dN pL qF jE eW eY dU jG xL zK hpost _ p1 p2 p0 ((v91 - 1) &&& (v94 ^^^ (-1))) 0 0 (-1) 1 qB jK (by omega) (by omega) (by omega) (by omega) (by omega) (by omega) (by omega) aAK (by omega)⟩
        · skip
          have c90 := mt (aAO _ _).mpr c90
          exact hpost _ _ _ (by omega) aAK
set_option maxHeartbeats 8000000 in
set_option maxRecDepth 200000 in
theorem t_X9_keep {post : Int32 -> (Nat -> Int32) -> (Nat -> Int32) -> Prop} {p0 jE eW eY dU fY gJ jG nU : Int32} {rQ uF : Nat -> Int32} (aAC : -1 <= Int32.toInt fY /\ Int32.toInt fY <= 7) (zK : 0 <= Int32.toInt jG /\ Int32.toInt jG <= 9) (aA9 : ∀ k : Nat, k % 8 = 4 -> -1 <= Int32.toInt (rQ k) /\ Int32.toInt (rQ k) <= 7) (aBA : ∀ k : Nat, k % 8 = 6 -> 0 <= Int32.toInt (rQ k) /\ Int32.toInt (rQ k) <= 9) (aBU : ∀ k : Nat, 0 <= Int32.toInt (uF k) /\ Int32.toInt (uF k) <= 1) (hpost : ∀ (r : Int32) (pa_keptCells' : Nat -> Int32) (aHq : Nat -> Int32), (0 <= Int32.toInt r /\ Int32.toInt r <= 1) -> (∀ k : Nat, k % 8 = 4 -> -1 <= Int32.toInt (pa_keptCells' k) /\ Int32.toInt (pa_keptCells' k) <= 7) -> (∀ k : Nat, k % 8 = 6 -> 0 <= Int32.toInt (pa_keptCells' k) /\ Int32.toInt (pa_keptCells' k) <= 9) -> (∀ k : Nat, 0 <= Int32.toInt (aHq k) /\ Int32.toInt (aHq k) <= 1) -> ((0 <= Int32.toInt p0 /\ Int32.toInt p0 <= 1 /\ Int32.toInt r = 1) \/ ((Int32.toInt p0 < 0 \/ 1 < Int32.toInt p0) /\ Int32.toInt r = 0)) -> post r pa_keptCells' aHq) : wp_X9_keep post p0 jE eW eY dU fY gJ jG nU rQ uF := by
  have l0 := aE0
  have l1 := aEc
  have l2 := li_16
  have l3 := li_2
  have l4 := li_3
  have l5 := li_4
  have l6 := li_5
  have l7 := li_6
  have l8 := li_7
  have l9 := li_8
  have f2 := aAT p0
  refine And.intro (fun c1 => ?_) (fun c1 => ?_)
  · skip
    have c1 := (aAd _ _).mp c1
    refine And.intro (aHE (by omega)) ?_
    exact hpost _ _ _ (by omega) aA9 aBA aBU (by omega)
  · skip
    have c1 := mt (aAd _ _).mpr c1
    refine And.intro (fun c3 => ?_) (fun c3 => ?_)
    · skip
      have c3 := (aAd _ _).mp c3
      intro v4 ev4
      have f5 : Int32.toInt (p0 * 8) = Int32.toInt p0 * 8 := ta_mulc _ _ (by decide) (by omega)
      rw [<- ev4] at f5
      refine And.intro (fun c6 => ?_) (fun c6 => ?_)
      · skip
        have c6 := (aAd _ _).mp c6
        exfalso; omega
      · skip
        have c6 := mt (aAd _ _).mpr c6
        have f8 : Int32.toInt (16 - 8) = Int32.toInt (16 : Int32) - Int32.toInt (8 : Int32) := aCA _ _ (by omega)
        refine And.intro (fun c7 => ?_) (fun c7 => ?_)
        · skip
          have c7 := (aAO _ _).mp c7
          refine And.intro (aBZ (by omega)) ?_
          have f10 := aAT jE
          have e9 : ∀ k : Nat, k % 8 = 4 -> -1 <= Int32.toInt ((upd rQ v4.toNatClampNeg jE) k) /\ Int32.toInt ((upd rQ v4.toNatClampNeg jE) k) <= 7 := aCJ (C := fun k => k % 8 = 4) aA9 (fun hk => by have e9 : v4.toNatClampNeg = (Int32.toInt v4).toNat := rfl; have hk : v4.toNatClampNeg % 8 = 4 := hk; omega)
          have e11 : ∀ k : Nat, k % 8 = 6 -> 0 <= Int32.toInt ((upd rQ v4.toNatClampNeg jE) k) /\ Int32.toInt ((upd rQ v4.toNatClampNeg jE) k) <= 9 := aCJ (C := fun k => k % 8 = 6) aBA (fun hk => by have e9 : v4.toNatClampNeg = (Int32.toInt v4).toNat := rfl; have hk : v4.toNatClampNeg % 8 = 6 := hk; omega)
          intro v12 ev12
          have f13 : Int32.toInt (v4 + 1) = Int32.toInt v4 + Int32.toInt (1 : Int32) := aAD _ _ (by omega)
          rw [<- ev12] at f13
          refine And.intro (aBZ (by omega)) ?_
          have f15 := aAT eW
          have e14 : ∀ k : Nat, k % 8 = 4 -> -1 <= Int32.toInt ((upd (upd rQ v4.toNatClampNeg jE) v12.toNatClampNeg eW) k) /\ Int32.toInt ((upd (upd rQ v4.toNatClampNeg jE) v12.toNatClampNeg eW) k) <= 7 := aCJ (C := fun k => k % 8 = 4) e9 (fun hk => by have e9 : v12.toNatClampNeg = (Int32.toInt v12).toNat := rfl; have hk : v12.toNatClampNeg % 8 = 4 := hk; omega)
          have e16 : ∀ k : Nat, k % 8 = 6 -> 0 <= Int32.toInt ((upd (upd rQ v4.toNatClampNeg jE) v12.toNatClampNeg eW) k) /\ Int32.toInt ((upd (upd rQ v4.toNatClampNeg jE) v12.toNatClampNeg eW) k) <= 9 := aCJ (C := fun k => k % 8 = 6) e11 (fun hk => by have e9 : v12.toNatClampNeg = (Int32.toInt v12).toNat := rfl; have hk : v12.toNatClampNeg % 8 = 6 := hk; omega)
          intro v17 ev17
          have f18 : Int32.toInt (v4 + 2) = Int32.toInt v4 + Int32.toInt (2 : Int32) := aAD _ _ (by omega)
          rw [<- ev17] at f18
          refine And.intro (aBZ (by omega)) ?_
          have f20 := aAT eY
          have e19 : ∀ k : Nat, k % 8 = 4 -> -1 <= Int32.toInt ((upd (upd (upd rQ v4.toNatClampNeg jE) v12.toNatClampNeg eW) v17.toNatClampNeg eY) k) /\ Int32.toInt ((upd (upd (upd rQ v4.toNatClampNeg jE) v12.toNatClampNeg eW) v17.toNatClampNeg eY) k) <= 7 := aCJ (C := fun k => k % 8 = 4) e14 (fun hk => by have e9 : v17.toNatClampNeg = (Int32.toInt v17).toNat := rfl; have hk : v17.toNatClampNeg % 8 = 4 := hk; omega)
          have e21 : ∀ k : Nat, k % 8 = 6 -> 0 <= Int32.toInt ((upd (upd (upd rQ v4.toNatClampNeg jE) v12.toNatClampNeg eW) v17.toNatClampNeg eY) k) /\ Int32.toInt ((upd (upd (upd rQ v4.toNatClampNeg jE) v12.toNatClampNeg eW) v17.toNatClampNeg eY) k) <= 9 := aCJ (C := fun k => k % 8 = 6) e16 (fun hk => by have e9 : v17.toNatClampNeg = (Int32.toInt v17).toNat := rfl; have hk : v17.toNatClampNeg % 8 = 6 := hk; omega)
          intro v22 ev22
          have f23 : Int32.toInt (v4 + 3) = Int32.toInt v4 + Int32.toInt (3 : Int32) := aAD _ _ (by omega)
          rw [<- ev22] at f23
          refine And.intro (aBZ (by omega)) ?_
          have f25 := aAT dU
          have e24 : ∀ k : Nat, k % 8 = 4 -> -1 <= Int32.toInt ((upd (upd (upd (upd rQ v4.toNatClampNeg jE) v12.toNatClampNeg eW) v17.toNatClampNeg eY) v22.toNatClampNeg dU) k) /\ Int32.toInt ((upd (upd (upd (upd rQ v4.toNatClampNeg jE) v12.toNatClampNeg eW) v17.toNatClampNeg eY) v22.toNatClampNeg dU) k) <= 7 := aCJ (C := fun k => k % 8 = 4) e19 (fun hk => by have e9 : v22.toNatClampNeg = (Int32.toInt v22).toNat := rfl; have hk : v22.toNatClampNeg % 8 = 4 := hk; omega)
          have e26 : ∀ k : Nat, k % 8 = 6 -> 0 <= Int32.toInt ((upd (upd (upd (upd rQ v4.toNatClampNeg jE) v12.toNatClampNeg eW) v17.toNatClampNeg eY) v22.toNatClampNeg dU) k) /\ Int32.toInt ((upd (upd (upd (upd rQ v4.toNatClampNeg jE) v12.toNatClampNeg eW) v17.toNatClampNeg eY) v22.toNatClampNeg dU) k) <= 9 := aCJ (C := fun k => k % 8 = 6) e21 (fun hk => by have e9 : v22.toNatClampNeg = (Int32.toInt v22).toNat := rfl; have hk : v22.toNatClampNeg % 8 = 6 := hk; omega)
          intro v27 ev27
          have f28 : Int32.toInt (v4 + 4) = Int32.toInt v4 + Int32.toInt (4 : Int32) := aAD _ _ (by omega)
          rw [<- ev27] at f28
          refine And.intro (aBZ (by omega)) ?_
          have e29 : ∀ k : Nat, k % 8 = 4 -> -1 <= Int32.toInt ((upd (upd (upd (upd (upd rQ v4.toNatClampNeg jE) v12.toNatClampNeg eW) v17.toNatClampNeg eY) v22.toNatClampNeg dU) v27.toNatClampNeg fY) k) /\ Int32.toInt ((upd (upd (upd (upd (upd rQ v4.toNatClampNeg jE) v12.toNatClampNeg eW) v17.toNatClampNeg eY) v22.toNatClampNeg dU) v27.toNatClampNeg fY) k) <= 7 := aCJ (C := fun k => k % 8 = 4) e24 (fun hk => by have e9 : v27.toNatClampNeg = (Int32.toInt v27).toNat := rfl; have hk : v27.toNatClampNeg % 8 = 4 := hk; omega)
          have e30 : ∀ k : Nat, k % 8 = 6 -> 0 <= Int32.toInt ((upd (upd (upd (upd (upd rQ v4.toNatClampNeg jE) v12.toNatClampNeg eW) v17.toNatClampNeg eY) v22.toNatClampNeg dU) v27.toNatClampNeg fY) k) /\ Int32.toInt ((upd (upd (upd (upd (upd rQ v4.toNatClampNeg jE) v12.toNatClampNeg eW) v17.toNatClampNeg eY) v22.toNatClampNeg dU) v27.toNatClampNeg fY) k) <= 9 := aCJ (C := fun k => k % 8 = 6) e26 (fun hk => by have e9 : v27.toNatClampNeg = (Int32.toInt v27).toNat := rfl; have hk : v27.toNatClampNeg % 8 = 6 := hk; omega)
          intro v31 ev31
          have f32 : Int32.toInt (v4 + 5) = Int32.toInt v4 + Int32.toInt (5 : Int32) := aAD _ _ (by omega)
          rw [<- ev31] at f32
          refine And.intro (aBZ (by omega)) ?_
          have f34 := aAT gJ
          have e33 : ∀ k : Nat, k % 8 = 4 -> -1 <= Int32.toInt ((upd (upd (upd (upd (upd (upd rQ v4.toNatClampNeg jE) v12.toNatClampNeg eW) v17.toNatClampNeg eY) v22.toNatClampNeg dU) v27.toNatClampNeg fY) v31.toNatClampNeg gJ) k) /\ Int32.toInt ((upd (upd (upd (upd (upd (upd rQ v4.toNatClampNeg jE) v12.toNatClampNeg eW) v17.toNatClampNeg eY) v22.toNatClampNeg dU) v27.toNatClampNeg fY) v31.toNatClampNeg gJ) k) <= 7 := aCJ (C := fun k => k % 8 = 4) e29 (fun hk => by have e9 : v31.toNatClampNeg = (Int32.toInt v31).toNat := rfl; have hk : v31.toNatClampNeg % 8 = 4 := hk; omega)
          have e35 : ∀ k : Nat, k % 8 = 6 -> 0 <= Int32.toInt ((upd (upd (upd (upd (upd (upd rQ v4.toNatClampNeg jE) v12.toNatClampNeg eW) v17.toNatClampNeg eY) v22.toNatClampNeg dU) v27.toNatClampNeg fY) v31.toNatClampNeg gJ) k) /\ Int32.toInt ((upd (upd (upd (upd (upd (upd rQ v4.toNatClampNeg jE) v12.toNatClampNeg eW) v17.toNatClampNeg eY) v22.toNatClampNeg dU) v27.toNatClampNeg fY) v31.toNatClampNeg gJ) k) <= 9 := aCJ (C := fun k => k % 8 = 6) e30 (fun hk => by have e9 : v31.toNatClampNeg = (Int32.toInt v31).toNat := rfl; have hk : v31.toNatClampNeg % 8 = 6 := hk; omega)
          intro v36 ev36
          have f37 : Int32.toInt (v4 + 6) = Int32.toInt v4 + Int32.toInt (6 : Int32) := aAD _ _ (by omega)
          rw [<- ev36] at f37
          refine And.intro (aBZ (by omega)) ?_
          have e38 : ∀ k : Nat, k % 8 = 4 -> -1 <= Int32.toInt ((upd (upd (upd (upd (upd (upd (upd rQ v4.toNatClampNeg jE) v12.toNatClampNeg eW) v17.toNatClampNeg eY) v22.toNatClampNeg dU) v27.toNatClampNeg fY) v31.toNatClampNeg gJ) v36.toNatClampNeg jG) k) /\ Int32.toInt ((upd (upd (upd (upd (upd (upd (upd rQ v4.toNatClampNeg jE) v12.toNatClampNeg eW) v17.toNatClampNeg eY) v22.toNatClampNeg dU) v27.toNatClampNeg fY) v31.toNatClampNeg gJ) v36.toNatClampNeg jG) k) <= 7 := aCJ (C := fun k => k % 8 = 4) e33 (fun hk => by have e9 : v36.toNatClampNeg = (Int32.toInt v36).toNat := rfl; have hk : v36.toNatClampNeg % 8 = 4 := hk; omega)
          have e39 : ∀ k : Nat, k % 8 = 6 -> 0 <= Int32.toInt ((upd (upd (upd (upd (upd (upd (upd rQ v4.toNatClampNeg jE) v12.toNatClampNeg eW) v17.toNatClampNeg eY) v22.toNatClampNeg dU) v27.toNatClampNeg fY) v31.toNatClampNeg gJ) v36.toNatClampNeg jG) k) /\ Int32.toInt ((upd (upd (upd (upd (upd (upd (upd rQ v4.toNatClampNeg jE) v12.toNatClampNeg eW) v17.toNatClampNeg eY) v22.toNatClampNeg dU) v27.toNatClampNeg fY) v31.toNatClampNeg gJ) v36.toNatClampNeg jG) k) <= 9 := aCJ (C := fun k => k % 8 = 6) e35 (fun hk => by have e9 : v36.toNatClampNeg = (Int32.toInt v36).toNat := rfl; have hk : v36.toNatClampNeg % 8 = 6 := hk; omega)
          intro v40 ev40
          have f41 : Int32.toInt (v4 + 7) = Int32.toInt v4 + Int32.toInt (7 : Int32) := aAD _ _ (by omega)
          rw [<- ev40] at f41
          refine And.intro (aBZ (by omega)) ?_
          have f43 := aAT nU
          have e42 : ∀ k : Nat, k % 8 = 4 -> -1 <= Int32.toInt ((upd (upd (upd (upd (upd (upd (upd (upd rQ v4.toNatClampNeg jE) v12.toNatClampNeg eW) v17.toNatClampNeg eY) v22.toNatClampNeg dU) v27.toNatClampNeg fY) v31.toNatClampNeg gJ) v36.toNatClampNeg jG) v40.toNatClampNeg nU) k) /\ Int32.toInt ((upd (upd (upd (upd (upd (upd (upd (upd rQ v4.toNatClampNeg jE) v12.toNatClampNeg eW) v17.toNatClampNeg eY) v22.toNatClampNeg dU) v27.toNatClampNeg fY) v31.toNatClampNeg gJ) v36.toNatClampNeg jG) v40.toNatClampNeg nU) k) <= 7 := aCJ (C := fun k => k % 8 = 4) e38 (fun hk => by have e9 : v40.toNatClampNeg = (Int32.toInt v40).toNat := rfl; have hk : v40.toNatClampNeg % 8 = 4 := hk; omega)
          have e44 : ∀ k : Nat, k % 8 = 6 -> 0 <= Int32.toInt ((upd (upd (upd (upd (upd (upd (upd (upd rQ v4.toNatClampNeg jE) v12.toNatClampNeg eW) v17.toNatClampNeg eY) v22.toNatClampNeg dU) v27.toNatClampNeg fY) v31.toNatClampNeg gJ) v36.toNatClampNeg jG) v40.toNatClampNeg nU) k) /\ Int32.toInt ((upd (upd (upd (upd (upd (upd (upd (upd rQ v4.toNatClampNeg jE) v12.toNatClampNeg eW) v17.toNatClampNeg eY) v22.toNatClampNeg dU) v27.toNatClampNeg fY) v31.toNatClampNeg gJ) v36.toNatClampNeg jG) v40.toNatClampNeg nU) k) <= 9 := aCJ (C := fun k => k % 8 = 6) e39 (fun hk => by have e9 : v40.toNatClampNeg = (Int32.toInt v40).toNat := rfl; have hk : v40.toNatClampNeg % 8 = 6 := hk; omega)
          refine And.intro (aBZ (by omega)) ?_
          have qa45 := ti_nar_boolean 1
          have a45 : ∀ k : Nat, 0 <= Int32.toInt ((upd uF p0.toNatClampNeg (vp_nar .boolean 1)) k) /\ Int32.toInt ((upd uF p0.toNatClampNeg (vp_nar .boolean 1)) k) <= 1 := t_upd (fun k => by have q9 := aBU k; omega) (by omega)
          refine And.intro (aHE (by omega)) ?_
          exact hpost _ _ _ (by omega) e42 e44 (fun k => by have q9 := a45 k; omega) (by omega)
        · skip
          have c7 := mt (aAO _ _).mpr c7
          exfalso; omega
    · skip
      have c3 := mt (aAd _ _).mpr c3
      refine And.intro (aHE (by omega)) ?_
      exact hpost _ _ _ (by omega) aA9 aBA aBU (by omega)
set_option maxHeartbeats 8000000 in
set_option maxRecDepth 200000 in
theorem t_X9_again {post : Int32 -> Int32 -> Int32 -> Int32 -> Int32 -> Int32 -> Int32 -> Int32 -> Int32 -> Int32 -> Prop} {p0 jE eW eY dU fY gJ jG nU pR : Int32} {rQ uF : Nat -> Int32} (aAC : -1 <= Int32.toInt fY /\ Int32.toInt fY <= 7) (zK : 0 <= Int32.toInt jG /\ Int32.toInt jG <= 9) (aAr : 0 <= Int32.toInt pR /\ Int32.toInt pR <= 12) (aA9 : ∀ k : Nat, k % 8 = 4 -> -1 <= Int32.toInt (rQ k) /\ Int32.toInt (rQ k) <= 7) (aBA : ∀ k : Nat, k % 8 = 6 -> 0 <= Int32.toInt (rQ k) /\ Int32.toInt (rQ k) <= 9) (aBU : ∀ k : Nat, 0 <= Int32.toInt (uF k) /\ Int32.toInt (uF k) <= 1) (hpost : ∀ (r : Int32) (aHN : Int32) (aGq : Int32) (aGr : Int32) (aFB : Int32) (aCx : Int32) (aI5 : Int32) (aDz : Int32) (aFi : Int32) (aBa : Int32), (0 <= Int32.toInt r /\ Int32.toInt r <= 1) -> (-1 <= Int32.toInt aCx /\ Int32.toInt aCx <= 7) -> (0 <= Int32.toInt aDz /\ Int32.toInt aDz <= 9) -> (0 <= Int32.toInt aBa /\ Int32.toInt aBa <= 12) -> post r aHN aGq aGr aFB aCx aI5 aDz aFi aBa) : wp_X9_again post p0 jE eW eY dU fY gJ jG nU pR rQ uF := by
  have l0 := aE0
  have l1 := aEc
  have l2 := li_16
  have l3 := li_2
  have l4 := li_3
  have l5 := li_4
  have l6 := li_5
  have l7 := li_6
  have l8 := li_7
  have l9 := li_8
  have f2 := aAT p0
  refine And.intro (fun c1 => ?_) (fun c1 => ?_)
  · skip
    have c1 := (aAd _ _).mp c1
    refine And.intro (aHE (by omega)) ?_
    exact hpost _ _ _ _ _ _ _ _ _ _ (by omega) aAC zK aAr
  · skip
    have c1 := mt (aAd _ _).mpr c1
    refine And.intro (fun c3 => ?_) (fun c3 => ?_)
    · skip
      have c3 := (aAO _ _).mp c3
      refine And.intro (aHE (by omega)) ?_
      exact hpost _ _ _ _ _ _ _ _ _ _ (by omega) aAC zK aAr
    · skip
      have c3 := mt (aAO _ _).mpr c3
      refine And.intro (aBZ (by omega)) ?_
      have f5 := aBU p0.toNatClampNeg
      refine And.intro (fun c4 => ?_) (fun c4 => ?_)
      · skip
        have c4 := mt (zJ _ _).mpr c4
        intro v6 ev6
        have f7 : Int32.toInt (p0 * 8) = Int32.toInt p0 * 8 := ta_mulc _ _ (by decide) (by omega)
        rw [<- ev6] at f7
        refine And.intro (fun c8 => ?_) (fun c8 => ?_)
        · skip
          have c8 := (aAd _ _).mp c8
          exfalso; omega
        · skip
          have c8 := mt (aAd _ _).mpr c8
          have f10 : Int32.toInt (16 - 8) = Int32.toInt (16 : Int32) - Int32.toInt (8 : Int32) := aCA _ _ (by omega)
          refine And.intro (fun c9 => ?_) (fun c9 => ?_)
          · skip
            have c9 := (aAO _ _).mp c9
            refine And.intro (aBZ (by omega)) ?_
            intro v11 ev11
            have hv11 := congrArg Int32.toInt ev11
            intro v13 ev13
            have f14 : Int32.toInt (v6 + 1) = Int32.toInt v6 + Int32.toInt (1 : Int32) := aAD _ _ (by omega)
            rw [<- ev13] at f14
            refine And.intro (aBZ (by omega)) ?_
            intro v15 ev15
            have hv15 := congrArg Int32.toInt ev15
            intro v17 ev17
            have f18 : Int32.toInt (v6 + 2) = Int32.toInt v6 + Int32.toInt (2 : Int32) := aAD _ _ (by omega)
            rw [<- ev17] at f18
            refine And.intro (aBZ (by omega)) ?_
            intro v19 ev19
            have hv19 := congrArg Int32.toInt ev19
            intro v21 ev21
            have f22 : Int32.toInt (v6 + 3) = Int32.toInt v6 + Int32.toInt (3 : Int32) := aAD _ _ (by omega)
            rw [<- ev21] at f22
            refine And.intro (aBZ (by omega)) ?_
            intro v23 ev23
            have hv23 := congrArg Int32.toInt ev23
            intro v25 ev25
            have f26 : Int32.toInt (v6 + 4) = Int32.toInt v6 + Int32.toInt (4 : Int32) := aAD _ _ (by omega)
            rw [<- ev25] at f26
            refine And.intro (aBZ (by omega)) ?_
            have q27 := aA9 v25.toNatClampNeg (by have e9 : v25.toNatClampNeg = (Int32.toInt v25).toNat := rfl; omega)
            intro v28 ev28
            have hv28 := congrArg Int32.toInt ev28
            intro v30 ev30
            have f31 : Int32.toInt (v6 + 5) = Int32.toInt v6 + Int32.toInt (5 : Int32) := aAD _ _ (by omega)
            rw [<- ev30] at f31
            refine And.intro (aBZ (by omega)) ?_
            intro v32 ev32
            have hv32 := congrArg Int32.toInt ev32
            intro v34 ev34
            have f35 : Int32.toInt (v6 + 6) = Int32.toInt v6 + Int32.toInt (6 : Int32) := aAD _ _ (by omega)
            rw [<- ev34] at f35
            refine And.intro (aBZ (by omega)) ?_
            have q36 := aBA v34.toNatClampNeg (by have e9 : v34.toNatClampNeg = (Int32.toInt v34).toNat := rfl; omega)
            intro v37 ev37
            have hv37 := congrArg Int32.toInt ev37
            intro v39 ev39
            have f40 : Int32.toInt (v6 + 7) = Int32.toInt v6 + Int32.toInt (7 : Int32) := aAD _ _ (by omega)
            rw [<- ev39] at f40
            refine And.intro (aBZ (by omega)) ?_
            intro v41 ev41
            have hv41 := congrArg Int32.toInt ev41
            refine And.intro (aHE (by omega)) ?_
            exact hpost _ _ _ _ _ _ _ _ _ _ (by omega) (by omega) (by omega) (by omega)
          · skip
            have c9 := mt (aAO _ _).mpr c9
            exfalso; omega
      · skip
        have c4 := (zJ _ _).mp c4
        refine And.intro (aHE (by omega)) ?_
        exact hpost _ _ _ _ _ _ _ _ _ _ (by omega) aAC zK aAr
set_option maxHeartbeats 8000000 in
set_option maxRecDepth 200000 in
theorem t_X9_count {post : Int32 -> Prop} {p0 qL dN bD : Int32} {pL : Nat -> Int32} {jE eW eY dU fY jG nU pR qB : Int32} (aBH : 0 <= Int32.toInt qL /\ Int32.toInt qL <= 80) (xL : 0 <= Int32.toInt dN /\ Int32.toInt dN <= 16) (wX : 0 <= Int32.toInt bD /\ Int32.toInt bD <= 8) (aAC : -1 <= Int32.toInt fY /\ Int32.toInt fY <= 7) (zK : 0 <= Int32.toInt jG /\ Int32.toInt jG <= 9) (aAr : 0 <= Int32.toInt pR /\ Int32.toInt pR <= 12) (aAK : 0 <= Int32.toInt qB /\ Int32.toInt qB <= 16) (hpost : ∀ (r : Int32) , post r) : wp_X9_count post p0 qL dN bD pL jE eW eY dU fY jG nU pR qB := by
  have l0 := aE0
  have l1 := aEc
  have l2 := li_10
  have l3 := li_11
  have l4 := li_12
  have l5 := li_13
  have l6 := li_2
  have l7 := li_3
  have l8 := li_4
  have l9 := li_5
  have l10 := li_6
  have l11 := li_7
  have l12 := li_8
  have l13 := li_9
  have f1 := aAT p0
  refine And.intro (fun c2 => ?_) ?_
  · skip
    have c2 := (zJ _ _).mp c2
    exact hpost _ 
  refine And.intro (fun c3 => ?_) ?_
  · skip
    have c3 := (zJ _ _).mp c3
    exact hpost _ 
  refine And.intro (fun c4 => ?_) ?_
  · skip
    have c4 := (zJ _ _).mp c4
    exact hpost _ 
  refine And.intro (fun c5 => ?_) ?_
  · skip
    have c5 := (zJ _ _).mp c5
    exact hpost _ 
  refine And.intro (fun c6 => ?_) ?_
  · skip
    have c6 := (zJ _ _).mp c6
    exact hpost _ 
  refine And.intro (fun c7 => ?_) ?_
  · skip
    have c7 := (zJ _ _).mp c7
    intro v8 ev8
    have f9 := aDv 16 65536 dN (by decide) (by omega)
    have hv8 := congrArg Int32.toInt ev8
    intro v10 ev10
    intro v11 ev11
    exact hpost _ 
  refine And.intro (fun c12 => ?_) ?_
  · skip
    have c12 := (zJ _ _).mp c12
    exact hpost _ 
  refine And.intro (fun c13 => ?_) ?_
  · skip
    have c13 := (zJ _ _).mp c13
    exact hpost _ 
  refine And.intro (fun c14 => ?_) ?_
  · skip
    have c14 := (zJ _ _).mp c14
    exact hpost _ 
  refine And.intro (fun c15 => ?_) ?_
  · skip
    have c15 := (zJ _ _).mp c15
    exact hpost _ 
  refine And.intro (fun c16 => ?_) ?_
  · skip
    have c16 := (zJ _ _).mp c16
    refine aUx xL (fun r17 => ?_)
    exact hpost _ 
  refine And.intro (fun c18 => ?_) ?_
  · skip
    have c18 := (zJ _ _).mp c18
    exact hpost _ 
  refine And.intro (fun c19 => ?_) ?_
  · skip
    have c19 := (zJ _ _).mp c19
    exact hpost _ 
  refine And.intro (fun c20 => ?_) ?_
  · skip
    have c20 := (zJ _ _).mp c20
    exact hpost _ 
  intro c21 c22 c23 c24 c25 c26 c27 c28 c29 c30 c31 c32 c33 c34
  have c21 := mt (zJ _ _).mpr c21
  have c22 := mt (zJ _ _).mpr c22
  have c23 := mt (zJ _ _).mpr c23
  have c24 := mt (zJ _ _).mpr c24
  have c25 := mt (zJ _ _).mpr c25
  have c26 := mt (zJ _ _).mpr c26
  have c27 := mt (zJ _ _).mpr c27
  have c28 := mt (zJ _ _).mpr c28
  have c29 := mt (zJ _ _).mpr c29
  have c30 := mt (zJ _ _).mpr c30
  have c31 := mt (zJ _ _).mpr c31
  have c32 := mt (zJ _ _).mpr c32
  have c33 := mt (zJ _ _).mpr c33
  have c34 := mt (zJ _ _).mpr c34
  exact hpost _ 
set_option maxHeartbeats 8000000 in
set_option maxRecDepth 200000 in
theorem t_X9_row {post : Int32 -> Prop} {postx : Prop} {p0 qB : Int32} {jK : Nat -> Int32} (aAK : 0 <= Int32.toInt qB /\ Int32.toInt qB <= 16) (hpost : ∀ (r : Int32) , post r) (hpx : postx) : wp_X9_row post postx p0 qB jK := by
  have l0 := aE0
  have f2 := aAT p0
  refine And.intro (fun c1 => ?_) (fun c1 => ?_)
  · skip
    have c1 := (aAd _ _).mp c1
    exact hpx
  · skip
    have c1 := mt (aAd _ _).mpr c1
    refine And.intro (fun c3 => ?_) (fun c3 => ?_)
    · skip
      have c3 := (aAd _ _).mp c3
      refine And.intro (aBZ (by omega)) ?_
      exact hpost _ 
    · skip
      have c3 := mt (aAd _ _).mpr c3
      exact hpx
set_option maxHeartbeats 8000000 in
set_option maxRecDepth 200000 in
theorem ts_X10_sign_20 {post : Int32 -> Int32 -> Int32 -> (Nat -> Int32) -> Prop} {m_typed0 : Int32} {next : Int32 -> Int32 -> Int32 -> Int32 -> (Nat -> Int32) -> Prop} {n20 : Int} (hpost : ∀ (r : Int32) (aBT : Int32) (xG : Int32) (m_text' : Nat -> Int32), (-1 <= Int32.toInt r /\ Int32.toInt r <= 80) -> (0 <= Int32.toInt aBT /\ Int32.toInt aBT <= 80) -> (0 <= Int32.toInt xG /\ Int32.toInt xG <= 0) -> (∀ k : Nat, -128 <= Int32.toInt (m_text' k) /\ Int32.toInt (m_text' k) <= 127) -> ((76 < Int32.toInt m_typed0 /\ Int32.toInt r = -1 /\ Int32.toInt aBT = Int32.toInt m_typed0) \/ (Int32.toInt m_typed0 <= 76 /\ Int32.toInt r = Int32.toInt aBT /\ Int32.toInt aBT = Int32.toInt m_typed0 + 4)) -> post r aBT xG m_text') (hKn : ∀ (x1 : Int32) (x2 : Int32) (jC : Int32) (bY : Int32) (qO : Nat -> Int32), (-1 <= Int32.toInt x2 /\ Int32.toInt x2 <= 3) -> (0 <= Int32.toInt jC /\ Int32.toInt jC <= 80) -> (0 <= Int32.toInt bY /\ Int32.toInt bY <= 0) -> (∀ k : Nat, -128 <= Int32.toInt (qO k) /\ Int32.toInt (qO k) <= 127) -> (Int32.toInt jC + Int32.toInt x2 = Int32.toInt m_typed0 + 3) -> (Int32.toInt m_typed0 <= 76) -> (-1 <= Int32.toInt x2) -> (Int32.toInt x2 + 1 < n20) -> next x1 x2 jC bY qO) (x1 x2 jC bY : Int32) (qO : Nat -> Int32) (aBN : -1 <= Int32.toInt x2 /\ Int32.toInt x2 <= 3) (aA4 : 0 <= Int32.toInt jC /\ Int32.toInt jC <= 80) (yG : 0 <= Int32.toInt bY /\ Int32.toInt bY <= 0) (zG : ∀ k : Nat, -128 <= Int32.toInt (qO k) /\ Int32.toInt (qO k) <= 127) (hx0 : Int32.toInt jC + Int32.toInt x2 = Int32.toInt m_typed0 + 3) (hx1 : Int32.toInt m_typed0 <= 76) (hx2 : -1 <= Int32.toInt x2) (hn20 : Int32.toInt x2 + 1 <= n20) : ws_X10_sign_20 post next x1 x2 jC bY qO := by
  have l0 := aI2
  have l1 := aE0
  have l2 := aEc
  refine And.intro (fun c1 => ?_) (fun c1 => ?_)
  · skip
    have c1 := (aAd _ _).mp c1
    exact hpost _ _ _ _ (by omega) aA4 yG zG (by omega)
  · skip
    have c1 := mt (aAd _ _).mpr c1
    intro v2 ev2
    have f3 : Int32.toInt (jC + 1) = Int32.toInt jC + Int32.toInt (1 : Int32) := aAD _ _ (by omega)
    rw [<- ev2] at f3
    intro v4 ev4
    have hv4 := ti_i2b (x1 >>> ((8 * x2) &&& 31))
    rw [<- ev4] at hv4
    refine And.intro (aBZ (by omega)) ?_
    have qa5 := ti_nar_byte v4
    have a5 : ∀ k : Nat, -128 <= Int32.toInt ((upd qO jC.toNatClampNeg (vp_nar .byte v4)) k) /\ Int32.toInt ((upd qO jC.toNatClampNeg (vp_nar .byte v4)) k) <= 127 := t_upd (fun k => by have q9 := zG k; omega) (by omega)
    intro v6 ev6
    have f7 : Int32.toInt (x2 + (-1)) = Int32.toInt x2 + Int32.toInt ((-1) : Int32) := aAD _ _ (by omega)
    rw [<- ev6] at f7
    have f8 := aAT x1
    exact hKn x1 v6 v2 bY (upd qO jC.toNatClampNeg (vp_nar .byte v4)) (by omega) (by omega) yG (fun k => by have q9 := a5 k; omega) (by omega) hx1 (by omega) (by omega)
set_option maxHeartbeats 8000000 in
set_option maxRecDepth 200000 in
theorem tb_X10_sign_20 {post : Int32 -> Int32 -> Int32 -> (Nat -> Int32) -> Prop} {m_typed0 : Int32} (hpost : ∀ (r : Int32) (aBT : Int32) (xG : Int32) (m_text' : Nat -> Int32), (-1 <= Int32.toInt r /\ Int32.toInt r <= 80) -> (0 <= Int32.toInt aBT /\ Int32.toInt aBT <= 80) -> (0 <= Int32.toInt xG /\ Int32.toInt xG <= 0) -> (∀ k : Nat, -128 <= Int32.toInt (m_text' k) /\ Int32.toInt (m_text' k) <= 127) -> ((76 < Int32.toInt m_typed0 /\ Int32.toInt r = -1 /\ Int32.toInt aBT = Int32.toInt m_typed0) \/ (Int32.toInt m_typed0 <= 76 /\ Int32.toInt r = Int32.toInt aBT /\ Int32.toInt aBT = Int32.toInt m_typed0 + 4)) -> post r aBT xG m_text') : ∀ (n : Nat) (x1 x2 jC bY : Int32) (qO : Nat -> Int32), (-1 <= Int32.toInt x2 /\ Int32.toInt x2 <= 3) -> (0 <= Int32.toInt jC /\ Int32.toInt jC <= 80) -> (0 <= Int32.toInt bY /\ Int32.toInt bY <= 0) -> (∀ k : Nat, -128 <= Int32.toInt (qO k) /\ Int32.toInt (qO k) <= 127) -> (Int32.toInt jC + Int32.toInt x2 = Int32.toInt m_typed0 + 3) -> (Int32.toInt m_typed0 <= 76) -> (-1 <= Int32.toInt x2) -> (Int32.toInt x2 + 1 < (n : Int)) -> wb_X10_sign_20 post n x1 x2 jC bY qO := by
  intro n
  induction n with
  | zero =>
    intro x1 x2 jC bY qO aBN aA4 yG zG hx0 hx1 hx2 hm
    exfalso; omega
  | succ n ih =>
    intro x1 x2 jC bY qO aBN aA4 yG zG hx0 hx1 hx2 hm
    exact ts_X10_sign_20 hpost ih x1 x2 jC bY qO aBN aA4 yG zG hx0 hx1 hx2 (by omega)
set_option maxHeartbeats 8000000 in
set_option maxRecDepth 200000 in
theorem t_X10_sign {post : Int32 -> Int32 -> Int32 -> (Nat -> Int32) -> Prop} {p0 jC bY : Int32} {qO : Nat -> Int32} (aA4 : 0 <= Int32.toInt jC /\ Int32.toInt jC <= 80) (yG : 0 <= Int32.toInt bY /\ Int32.toInt bY <= 1) (zG : ∀ k : Nat, -128 <= Int32.toInt (qO k) /\ Int32.toInt (qO k) <= 127) (hpost : ∀ (r : Int32) (aBT : Int32) (xG : Int32) (m_text' : Nat -> Int32), (-1 <= Int32.toInt r /\ Int32.toInt r <= 80) -> (0 <= Int32.toInt aBT /\ Int32.toInt aBT <= 80) -> (0 <= Int32.toInt xG /\ Int32.toInt xG <= 0) -> (∀ k : Nat, -128 <= Int32.toInt (m_text' k) /\ Int32.toInt (m_text' k) <= 127) -> ((76 < Int32.toInt jC /\ Int32.toInt r = -1 /\ Int32.toInt aBT = Int32.toInt jC) \/ (Int32.toInt jC <= 76 /\ Int32.toInt r = Int32.toInt aBT /\ Int32.toInt aBT = Int32.toInt jC + 4)) -> post r aBT xG m_text') : wp_X10_sign post p0 jC bY qO := by
  have l0 := aI2
  have l1 := aE0
  have l2 := li_3
  have l3 := li_4
  have l4 := li_80
  intro v9 ev9
  have f10 : Int32.toInt (jC + 4) = Int32.toInt jC + Int32.toInt (4 : Int32) := aAD _ _ (by omega)
  rw [<- ev9] at f10
  refine And.intro (fun c11 => ?_) (fun c11 => ?_)
  · skip
    have c11 := (aAO _ _).mp c11
    have f12 := aAT p0
    exact ⟨6, tb_X10_sign_20 hpost _ p0 3 jC 0 qO (by omega) aA4 (by omega) zG (by omega) (by omega) (by omega) (by omega)⟩
  · skip
    have c11 := mt (aAO _ _).mpr c11
    exact hpost _ _ _ _ (by omega) aA4 (by omega) zG (by omega)
set_option maxHeartbeats 8000000 in
set_option maxRecDepth 200000 in
theorem t_X10_end {post : Int32 -> Int32 -> Int32 -> Prop} {p0 jC bY : Int32} (aA4 : 0 <= Int32.toInt jC /\ Int32.toInt jC <= 80) (yG : 0 <= Int32.toInt bY /\ Int32.toInt bY <= 1) (hpost : ∀ (r : Int32) (aBT : Int32) (xG : Int32), (0 <= Int32.toInt r /\ Int32.toInt r <= 1) -> (0 <= Int32.toInt aBT /\ Int32.toInt aBT <= 80) -> (0 <= Int32.toInt xG /\ Int32.toInt xG <= 0) -> ((0 <= Int32.toInt p0 /\ Int32.toInt p0 <= Int32.toInt jC /\ Int32.toInt aBT = Int32.toInt p0 /\ Int32.toInt r = 1) \/ ((Int32.toInt p0 < 0 \/ Int32.toInt jC < Int32.toInt p0) /\ Int32.toInt aBT = Int32.toInt jC /\ Int32.toInt r = 0)) -> post r aBT xG) : wp_X10_end post p0 jC bY := by
  have l0 := aE0
  have l1 := aEc
  have f2 := aAT p0
  refine And.intro (fun c1 => ?_) (fun c1 => ?_)
  · skip
    have c1 := (aAd _ _).mp c1
    refine And.intro (fun h9 => absurd h9 (by decide)) (fun _ => ?_)
    exact hpost _ _ _ (by omega) aA4 (by omega) (by omega)
  · skip
    have c1 := mt (aAd _ _).mpr c1
    refine And.intro (fun c3 => ?_) (fun c3 => ?_)
    · skip
      have c3 := (aAd _ _).mp c3
      refine And.intro (fun h9 => absurd h9 (by decide)) (fun _ => ?_)
      exact hpost _ _ _ (by omega) aA4 (by omega) (by omega)
    · skip
      have c3 := mt (aAd _ _).mpr c3
      refine And.intro (fun _ => ?_) (fun h9 => absurd h9 (by decide))
      exact hpost _ _ _ (by omega) (by omega) (by omega) (by omega)
theorem aOq {post : Int32 -> Prop} {jD : Nat} {mLn oF rP : Int32} {qO qQ : Nat -> Int32} (yM : jD = 1 \/ jD = 2) (zE : 0 <= Int32.toInt mLn /\ Int32.toInt mLn <= 80) (aAR : 0 <= Int32.toInt oF /\ Int32.toInt oF <= 80) (aA1 : 0 <= Int32.toInt rP /\ Int32.toInt rP <= 80) (zG : ∀ k : Nat, -128 <= Int32.toInt (qO k) /\ Int32.toInt (qO k) <= 127) (zI : ∀ k : Nat, -128 <= Int32.toInt (qQ k) /\ Int32.toInt (qQ k) <= 127) (hc0 : jD = 2 -> Int32.toInt oF <= 40) (hpost : ∀ (r : Int32) , (-1 <= Int32.toInt r /\ Int32.toInt r <= 255) -> (Int32.toInt r = -1 \/ (Int32.toInt rP < Int32.toInt mLn /\ Int32.toInt rP < Int32.toInt oF)) -> (Int32.toInt r = Int32.toInt (hv jD mLn oF rP qO qQ)) -> post r) : aPe post jD mLn oF rP qO qQ := by
  have l0 := aI2
  have l1 := li_255
  refine And.intro (fun c1 => ?_) (fun c1 => ?_)
  · have d1 := (aAO _ _).mp c1
    refine hpost _ (by omega) (by omega) ?_
    rw [hv_neg (fun h9 => by have := (aAd _ _).mp h9.1; omega)]
  · have d1 := mt (aAO _ _).mpr c1
    refine And.intro (fun c2 => ?_) (fun c2 => ?_)
    · have d2 := (aAO _ _).mp c2
      refine hpost _ (by omega) (by omega) ?_
      rw [hv_neg (fun h9 => by have := (aAd _ _).mp h9.2; omega)]
    · have d2 := mt (aAO _ _).mpr c2
      have d3 : rP < mLn /\ rP < oF := ⟨(aAd _ _).mpr (by omega), (aAd _ _).mpr (by omega)⟩
      rcases yM with hd9 | hd9
      · refine Or.inl (And.intro hd9 (And.intro (aBZ (by omega)) ?_))
        intro v1 e1 v2 e2
        have f1 := aAQ v1 255 (by omega)
        have e3 := congrArg Int32.toInt e2
        refine hpost _ (by omega) (by omega) ?_
        rw [hv_pos d3, if_pos hd9, <- e1, e2]
      · refine Or.inr (And.intro hd9 (And.intro (aBZ (by omega)) ?_))
        intro v1 e1 v2 e2
        have f1 := aAQ v1 255 (by omega)
        have e3 := congrArg Int32.toInt e2
        refine hpost _ (by omega) (by omega) ?_
        rw [hv_pos d3, if_neg (by omega), <- e1, e2]
set_option maxHeartbeats 8000000 in
set_option maxRecDepth 200000 in
theorem ts_X10_number_66 {post : Int32 -> Int32 -> Int32 -> Prop} {aLe p00 : Int32} (jD : Nat) (mLn oF : Int32) (qO qQ : Nat -> Int32) (yM : jD = 1 \/ jD = 2) (zE : 0 <= Int32.toInt mLn /\ Int32.toInt mLn <= 80) (aAR : 0 <= Int32.toInt oF /\ Int32.toInt oF <= 80) (zG : ∀ k : Nat, -128 <= Int32.toInt (qO k) /\ Int32.toInt (qO k) <= 127) (zI : ∀ k : Nat, -128 <= Int32.toInt (qQ k) /\ Int32.toInt (qQ k) <= 127) (hc0 : jD = 2 -> Int32.toInt oF <= 40) (hpost : ∀ (r : Int32) (aAm : Int32) (zH : Int32), (0 <= Int32.toInt r /\ Int32.toInt r <= 999) -> (0 <= Int32.toInt aAm /\ Int32.toInt aAm <= 80) -> (-1 <= Int32.toInt zH /\ Int32.toInt zH <= 80) -> (Int32.toInt aLe <= Int32.toInt aAm) -> (Int32.toInt aAm <= Int32.toInt aLe \/ Int32.toInt aAm <= Int32.toInt oF) -> (Int32.toInt p00 <= 1 -> Int32.toInt r <= 9) -> (Int32.toInt p00 <= 2 -> Int32.toInt r <= 99) -> post r aAm zH) (x2 x3 rP dQ : Int32) (aBN : 0 <= Int32.toInt x2 /\ Int32.toInt x2 <= 80) (aCH : 0 <= Int32.toInt x3 /\ Int32.toInt x3 <= 999) (aA1 : 0 <= Int32.toInt rP /\ Int32.toInt rP <= 80) (aAA : -1 <= Int32.toInt dQ /\ Int32.toInt dQ <= -1) (hx0 : Int32.toInt aLe <= Int32.toInt rP) (hx1 : Int32.toInt rP <= Int32.toInt aLe \/ Int32.toInt rP <= Int32.toInt oF) (hx2 : Int32.toInt p00 <= 1 -> Int32.toInt x3 <= 9) (hx3 : Int32.toInt p00 <= 2 -> Int32.toInt x3 <= 99) : ws_X10_number_66 post jD mLn oF qO qQ x2 x3 rP dQ := by
  have l0 := aI2
  refine And.intro (fun c1 => ?_) (fun c1 => ?_)
  · skip
    have c1 := mt (zJ _ _).mpr c1
    exact hpost _ _ _ aCH aA1 (by omega) (by omega) (by omega) (by omega) (by omega)
  · skip
    have c1 := (zJ _ _).mp c1
    refine And.intro (fun c2 => ?_) (fun c2 => ?_)
    · skip
      have c2 := mt (zJ _ _).mpr c2
      exfalso; omega
    · skip
      have c2 := (zJ _ _).mp c2
      refine And.intro (fun h9 => absurd h9 (by decide)) (fun _ => ?_)
      exact hpost _ _ _ aCH aA1 (by omega) (by omega) (by omega) (by omega) (by omega)
set_option maxHeartbeats 8000000 in
set_option maxRecDepth 200000 in
theorem ts_X10_number_16 {post : Int32 -> Int32 -> Int32 -> Prop} {aLe p00 : Int32} {next : Int32 -> Int32 -> Int32 -> Int32 -> Int32 -> Prop} {n16 : Int} (jD : Nat) (mLn oF : Int32) (qO qQ : Nat -> Int32) (yM : jD = 1 \/ jD = 2) (zE : 0 <= Int32.toInt mLn /\ Int32.toInt mLn <= 80) (aAR : 0 <= Int32.toInt oF /\ Int32.toInt oF <= 80) (zG : ∀ k : Nat, -128 <= Int32.toInt (qO k) /\ Int32.toInt (qO k) <= 127) (zI : ∀ k : Nat, -128 <= Int32.toInt (qQ k) /\ Int32.toInt (qQ k) <= 127) (hc0 : jD = 2 -> Int32.toInt oF <= 40) (hpost : ∀ (r : Int32) (aAm : Int32) (zH : Int32), (0 <= Int32.toInt r /\ Int32.toInt r <= 999) -> (0 <= Int32.toInt aAm /\ Int32.toInt aAm <= 80) -> (-1 <= Int32.toInt zH /\ Int32.toInt zH <= 80) -> (Int32.toInt aLe <= Int32.toInt aAm) -> (Int32.toInt aAm <= Int32.toInt aLe \/ Int32.toInt aAm <= Int32.toInt oF) -> (Int32.toInt p00 <= 1 -> Int32.toInt r <= 9) -> (Int32.toInt p00 <= 2 -> Int32.toInt r <= 99) -> post r aAm zH) (hKn : ∀ (x1 : Int32) (x2 : Int32) (x3 : Int32) (rP : Int32) (dQ : Int32), (1 <= Int32.toInt x1 /\ Int32.toInt x1 <= 3) -> (0 <= Int32.toInt x2 /\ Int32.toInt x2 <= 80) -> (0 <= Int32.toInt x3 /\ Int32.toInt x3 <= 999) -> (0 <= Int32.toInt rP /\ Int32.toInt rP <= 80) -> (-1 <= Int32.toInt dQ /\ Int32.toInt dQ <= -1) -> (Int32.toInt aLe <= Int32.toInt rP) -> (Int32.toInt rP <= Int32.toInt aLe \/ Int32.toInt rP <= Int32.toInt oF) -> (Int32.toInt x1 = Int32.toInt p00) -> ((Int32.toInt x3 = 0 /\ (Int32.toInt rP - Int32.toInt x2) = 0) \/ (Int32.toInt x3 <= 9 /\ (Int32.toInt rP - Int32.toInt x2) = 1) \/ (Int32.toInt x3 <= 99 /\ (Int32.toInt rP - Int32.toInt x2) = 2) \/ (Int32.toInt x3 <= 999 /\ (Int32.toInt rP - Int32.toInt x2) = 3)) -> ((Int32.toInt rP - Int32.toInt x2) <= Int32.toInt x1) -> (80 - Int32.toInt rP < n16) -> next x1 x2 x3 rP dQ) (x1 x2 x3 rP dQ : Int32) (aBK : 1 <= Int32.toInt x1 /\ Int32.toInt x1 <= 3) (aBN : 0 <= Int32.toInt x2 /\ Int32.toInt x2 <= 80) (aCH : 0 <= Int32.toInt x3 /\ Int32.toInt x3 <= 999) (aA1 : 0 <= Int32.toInt rP /\ Int32.toInt rP <= 80) (aAA : -1 <= Int32.toInt dQ /\ Int32.toInt dQ <= -1) (hx0 : Int32.toInt aLe <= Int32.toInt rP) (hx1 : Int32.toInt rP <= Int32.toInt aLe \/ Int32.toInt rP <= Int32.toInt oF) (hx2 : Int32.toInt x1 = Int32.toInt p00) (hx3 : (Int32.toInt x3 = 0 /\ (Int32.toInt rP - Int32.toInt x2) = 0) \/ (Int32.toInt x3 <= 9 /\ (Int32.toInt rP - Int32.toInt x2) = 1) \/ (Int32.toInt x3 <= 99 /\ (Int32.toInt rP - Int32.toInt x2) = 2) \/ (Int32.toInt x3 <= 999 /\ (Int32.toInt rP - Int32.toInt x2) = 3)) (hx4 : (Int32.toInt rP - Int32.toInt x2) <= Int32.toInt x1) (hn16 : 80 - Int32.toInt rP <= n16) : ws_X10_number_16 post next jD mLn oF qO qQ x1 x2 x3 rP dQ := by
  have l0 := aEc
  have l1 := li_10
  have l2 := li_48
  have l3 := li_57
  have f4 : Int32.toInt (x2 + x1) = Int32.toInt x2 + Int32.toInt x1 := aAD _ _ (by omega)
  refine And.intro (fun c3 => ?_) (fun c3 => ?_)
  · skip
    have c3 := (aAO _ _).mp c3
    exact ts_X10_number_66 jD mLn oF qO qQ yM zE aAR zG zI hc0 hpost x2 x3 rP dQ aBN aCH aA1 aAA hx0 hx1 (by omega) (by omega)
  · skip
    have c3 := mt (aAO _ _).mpr c3
    refine aOq yM zE aAR aA1 zG zI (by omega) (fun r5 h_r5 ox6 ox7 => ?_)
    refine And.intro (fun c8 => ?_) (fun c8 => ?_)
    · skip
      have c8 := (aAd _ _).mp c8
      refine And.intro (fun _ => ?_) (fun h9 => absurd h9 (by decide))
      exact ts_X10_number_66 jD mLn oF qO qQ yM zE aAR zG zI hc0 hpost x2 x3 rP dQ aBN aCH aA1 aAA hx0 hx1 (by omega) (by omega)
    · skip
      have c8 := mt (aAd _ _).mpr c8
      refine And.intro (fun c9 => ?_) (fun c9 => ?_)
      · skip
        have c9 := (aAd _ _).mp c9
        refine And.intro (fun _ => ?_) (fun h9 => absurd h9 (by decide))
        exact ts_X10_number_66 jD mLn oF qO qQ yM zE aAR zG zI hc0 hpost x2 x3 rP dQ aBN aCH aA1 aAA hx0 hx1 (by omega) (by omega)
      · skip
        have c9 := mt (aAd _ _).mpr c9
        refine And.intro (fun h9 => absurd h9 (by decide)) (fun _ => ?_)
        intro v10 ev10
        have f11 : Int32.toInt (10 * x3) = Int32.toInt x3 * 10 := ta_cmul _ _ (by decide) (by omega)
        rw [<- ev10] at f11
        refine aOq yM zE aAR aA1 zG zI (by omega) (fun r12 h_r12 ox13 ox14 => ?_)
        intro v15 ev15
        have f16 : Int32.toInt (v10 + r12) = Int32.toInt v10 + Int32.toInt r12 := aAD _ _ (by omega)
        rw [<- ev15] at f16
        intro v17 ev17
        have f18 : Int32.toInt (v15 - 48) = Int32.toInt v15 - Int32.toInt (48 : Int32) := aCA _ _ (by omega)
        rw [<- ev17] at f18
        intro v19 ev19
        have f20 : Int32.toInt (rP + 1) = Int32.toInt rP + Int32.toInt (1 : Int32) := aAD _ _ (by omega)
        rw [<- ev19] at f20
        exact hKn x1 x2 v17 v19 dQ aBK aBN (by omega) (by omega) aAA (by omega) (by omega) hx2 (by omega) (by omega) (by omega)
set_option maxHeartbeats 8000000 in
set_option maxRecDepth 200000 in
theorem tb_X10_number_16 {post : Int32 -> Int32 -> Int32 -> Prop} {aLe p00 : Int32} (jD : Nat) (mLn oF : Int32) (qO qQ : Nat -> Int32) (yM : jD = 1 \/ jD = 2) (zE : 0 <= Int32.toInt mLn /\ Int32.toInt mLn <= 80) (aAR : 0 <= Int32.toInt oF /\ Int32.toInt oF <= 80) (zG : ∀ k : Nat, -128 <= Int32.toInt (qO k) /\ Int32.toInt (qO k) <= 127) (zI : ∀ k : Nat, -128 <= Int32.toInt (qQ k) /\ Int32.toInt (qQ k) <= 127) (hc0 : jD = 2 -> Int32.toInt oF <= 40) (hpost : ∀ (r : Int32) (aAm : Int32) (zH : Int32), (0 <= Int32.toInt r /\ Int32.toInt r <= 999) -> (0 <= Int32.toInt aAm /\ Int32.toInt aAm <= 80) -> (-1 <= Int32.toInt zH /\ Int32.toInt zH <= 80) -> (Int32.toInt aLe <= Int32.toInt aAm) -> (Int32.toInt aAm <= Int32.toInt aLe \/ Int32.toInt aAm <= Int32.toInt oF) -> (Int32.toInt p00 <= 1 -> Int32.toInt r <= 9) -> (Int32.toInt p00 <= 2 -> Int32.toInt r <= 99) -> post r aAm zH) : ∀ (n : Nat) (x1 x2 x3 rP dQ : Int32), (1 <= Int32.toInt x1 /\ Int32.toInt x1 <= 3) -> (0 <= Int32.toInt x2 /\ Int32.toInt x2 <= 80) -> (0 <= Int32.toInt x3 /\ Int32.toInt x3 <= 999) -> (0 <= Int32.toInt rP /\ Int32.toInt rP <= 80) -> (-1 <= Int32.toInt dQ /\ Int32.toInt dQ <= -1) -> (Int32.toInt aLe <= Int32.toInt rP) -> (Int32.toInt rP <= Int32.toInt aLe \/ Int32.toInt rP <= Int32.toInt oF) -> (Int32.toInt x1 = Int32.toInt p00) -> ((Int32.toInt x3 = 0 /\ (Int32.toInt rP - Int32.toInt x2) = 0) \/ (Int32.toInt x3 <= 9 /\ (Int32.toInt rP - Int32.toInt x2) = 1) \/ (Int32.toInt x3 <= 99 /\ (Int32.toInt rP - Int32.toInt x2) = 2) \/ (Int32.toInt x3 <= 999 /\ (Int32.toInt rP - Int32.toInt x2) = 3)) -> ((Int32.toInt rP - Int32.toInt x2) <= Int32.toInt x1) -> (80 - Int32.toInt rP < (n : Int)) -> wb_X10_number_16 post jD mLn oF qO qQ n x1 x2 x3 rP dQ := by
  intro n
  induction n with
  | zero =>
    intro x1 x2 x3 rP dQ aBK aBN aCH aA1 aAA hx0 hx1 hx2 hx3 hx4 hm
    exfalso; omega
  | succ n ih =>
    intro x1 x2 x3 rP dQ aBK aBN aCH aA1 aAA hx0 hx1 hx2 hx3 hx4 hm
    exact ts_X10_number_16 jD mLn oF qO qQ yM zE aAR zG zI hc0 hpost ih x1 x2 x3 rP dQ aBK aBN aCH aA1 aAA hx0 hx1 hx2 hx3 hx4 (by omega)
set_option maxHeartbeats 8000000 in
set_option maxRecDepth 200000 in
theorem aXA {post : Int32 -> Int32 -> Int32 -> Prop} {p0 : Int32} {jD : Nat} {mLn oF rP dQ : Int32} {qO qQ : Nat -> Int32} (h_p0 : 1 <= Int32.toInt p0 /\ Int32.toInt p0 <= 3) (yM : jD = 1 \/ jD = 2) (zE : 0 <= Int32.toInt mLn /\ Int32.toInt mLn <= 80) (aAR : 0 <= Int32.toInt oF /\ Int32.toInt oF <= 80) (aA1 : 0 <= Int32.toInt rP /\ Int32.toInt rP <= 80) (aAA : -1 <= Int32.toInt dQ /\ Int32.toInt dQ <= 80) (zG : ∀ k : Nat, -128 <= Int32.toInt (qO k) /\ Int32.toInt (qO k) <= 127) (zI : ∀ k : Nat, -128 <= Int32.toInt (qQ k) /\ Int32.toInt (qQ k) <= 127) (hc0 : jD = 2 -> Int32.toInt oF <= 40) (hpost : ∀ (r : Int32) (aAm : Int32) (zH : Int32), (0 <= Int32.toInt r /\ Int32.toInt r <= 999) -> (0 <= Int32.toInt aAm /\ Int32.toInt aAm <= 80) -> (-1 <= Int32.toInt zH /\ Int32.toInt zH <= 80) -> (Int32.toInt rP <= Int32.toInt aAm) -> (Int32.toInt aAm <= Int32.toInt rP \/ Int32.toInt aAm <= Int32.toInt oF) -> (Int32.toInt p0 <= 1 -> Int32.toInt r <= 9) -> (Int32.toInt p0 <= 2 -> Int32.toInt r <= 99) -> post r aAm zH) : aOj post p0 jD mLn oF rP dQ qO qQ := by
  have l0 := aI2
  have l1 := aE0
  refine And.intro (fun c21 => ?_) (fun c21 => ?_)
  · skip
    have c21 := mt (zJ _ _).mpr c21
    refine And.intro (fun h9 => absurd h9 (by decide)) (fun _ => ?_)
    exact hpost _ _ _ (by omega) aA1 aAA (by omega) (by omega) (by omega) (by omega)
  · skip
    have c21 := (zJ _ _).mp c21
    refine And.intro (fun _ => ?_) (fun h9 => absurd h9 (by decide))
    exact ⟨82, tb_X10_number_16 jD mLn oF qO qQ yM zE aAR zG zI hc0 hpost _ p0 rP 0 rP dQ h_p0 aA1 (by omega) aA1 (by omega) (by omega) (by omega) (by omega) (by omega) (by omega) (by omega)⟩
set_option maxHeartbeats 8000000 in
set_option maxRecDepth 200000 in
theorem ts_X10_readLine_121 {post : Int32 -> Int32 -> Int32 -> Int32 -> (Nat -> Int32) -> (Nat -> Int32) -> Prop} {aLe : Int32} (bT aG : Int32) (jD : Nat) (mLn oF : Int32) (qO qQ : Nat -> Int32) (xJ : 0 <= Int32.toInt bT /\ Int32.toInt bT <= 16) (vZ : 0 <= Int32.toInt aG /\ Int32.toInt aG <= 8) (yM : jD = 1) (zE : 1 <= Int32.toInt mLn /\ Int32.toInt mLn <= 80) (aAR : 76 <= Int32.toInt oF /\ Int32.toInt oF <= 76) (zG : ∀ k : Nat, -128 <= Int32.toInt (qO k) /\ Int32.toInt (qO k) <= 127) (zI : ∀ k : Nat, -128 <= Int32.toInt (qQ k) /\ Int32.toInt (qQ k) <= 127) (hpost : ∀ (aAm : Int32) (zH : Int32) (aCP : Int32) (aB2 : Int32) (aAy : Nat -> Int32) (aCh : Nat -> Int32), (0 <= Int32.toInt aAm /\ Int32.toInt aAm <= 80) -> (-1 <= Int32.toInt zH /\ Int32.toInt zH <= 80) -> (0 <= Int32.toInt aCP /\ Int32.toInt aCP <= 16) -> (0 <= Int32.toInt aB2 /\ Int32.toInt aB2 <= 8) -> (∀ k : Nat, k % 4 = 0 -> 0 <= Int32.toInt (aAy k) /\ Int32.toInt (aAy k) <= 99) -> (∀ k : Nat, k % 4 = 1 -> 0 <= Int32.toInt (aAy k) /\ Int32.toInt (aAy k) <= 99) -> (∀ k : Nat, k % 4 = 2 -> 0 <= Int32.toInt (aAy k) /\ Int32.toInt (aAy k) <= 9) -> (∀ k : Nat, k % 4 = 3 -> 0 <= Int32.toInt (aAy k) /\ Int32.toInt (aAy k) <= 9) -> (∀ k : Nat, 0 <= Int32.toInt (aAy k) /\ Int32.toInt (aAy k) <= 99) -> (∀ k : Nat, 0 <= Int32.toInt (aCh k) /\ Int32.toInt (aCh k) <= 99) -> (Int32.toInt bT + Int32.toInt aCP <= 16) -> (Int32.toInt aG + Int32.toInt aB2 <= 8) -> (Int32.toInt aLe <= Int32.toInt aAm) -> post aAm zH aCP aB2 aAy aCh) (k1 k2 rP dQ aJ aB : Int32) (qT qA : Nat -> Int32) (h_k1 : 3 <= Int32.toInt k1 /\ Int32.toInt k1 <= 63) (h_k2 : 0 <= Int32.toInt k2 /\ Int32.toInt k2 <= 9) (aA1 : 0 <= Int32.toInt rP /\ Int32.toInt rP <= 80) (aAA : -1 <= Int32.toInt dQ /\ Int32.toInt dQ <= 80) (aAb : 0 <= Int32.toInt aJ /\ Int32.toInt aJ <= 16) (aAJ : 0 <= Int32.toInt aB /\ Int32.toInt aB <= 8) (aAe : ∀ k : Nat, k % 4 = 0 -> 0 <= Int32.toInt (qT k) /\ Int32.toInt (qT k) <= 99) (aAf : ∀ k : Nat, k % 4 = 1 -> 0 <= Int32.toInt (qT k) /\ Int32.toInt (qT k) <= 99) (aAg : ∀ k : Nat, k % 4 = 2 -> 0 <= Int32.toInt (qT k) /\ Int32.toInt (qT k) <= 9) (aAh : ∀ k : Nat, k % 4 = 3 -> 0 <= Int32.toInt (qT k) /\ Int32.toInt (qT k) <= 9) (aAx : ∀ k : Nat, 0 <= Int32.toInt (qT k) /\ Int32.toInt (qT k) <= 99) (aAN : ∀ k : Nat, 0 <= Int32.toInt (qA k) /\ Int32.toInt (qA k) <= 99) (hx0 : Int32.toInt bT + Int32.toInt aJ <= 15) (hx1 : Int32.toInt aG + Int32.toInt aB <= 8) (hx2 : Int32.toInt aLe <= Int32.toInt rP) (hx3 : Int32.toInt k1 % 4 = 3) : aXC post bT aG jD mLn oF qO qQ k1 k2 rP dQ aJ aB qT qA := by
  have l0 := aEc
  refine And.intro (aBZ (by omega)) ?_
  have a1 : ∀ k : Nat, 0 <= Int32.toInt ((upd qT k1.toNatClampNeg k2) k) /\ Int32.toInt ((upd qT k1.toNatClampNeg k2) k) <= 99 := t_upd (fun k => by have q9 := aAx k; omega) (by omega)
  have e2 : ∀ k : Nat, k % 4 = 0 -> 0 <= Int32.toInt ((upd qT k1.toNatClampNeg k2) k) /\ Int32.toInt ((upd qT k1.toNatClampNeg k2) k) <= 99 := aCJ (C := fun k => k % 4 = 0) aAe (fun hk => by have e9 : k1.toNatClampNeg = (Int32.toInt k1).toNat := rfl; have hk : k1.toNatClampNeg % 4 = 0 := hk; omega)
  have e3 : ∀ k : Nat, k % 4 = 1 -> 0 <= Int32.toInt ((upd qT k1.toNatClampNeg k2) k) /\ Int32.toInt ((upd qT k1.toNatClampNeg k2) k) <= 99 := aCJ (C := fun k => k % 4 = 1) aAf (fun hk => by have e9 : k1.toNatClampNeg = (Int32.toInt k1).toNat := rfl; have hk : k1.toNatClampNeg % 4 = 1 := hk; omega)
  have e4 : ∀ k : Nat, k % 4 = 2 -> 0 <= Int32.toInt ((upd qT k1.toNatClampNeg k2) k) /\ Int32.toInt ((upd qT k1.toNatClampNeg k2) k) <= 9 := aCJ (C := fun k => k % 4 = 2) aAg (fun hk => by have e9 : k1.toNatClampNeg = (Int32.toInt k1).toNat := rfl; have hk : k1.toNatClampNeg % 4 = 2 := hk; omega)
  have e5 : ∀ k : Nat, k % 4 = 3 -> 0 <= Int32.toInt ((upd qT k1.toNatClampNeg k2) k) /\ Int32.toInt ((upd qT k1.toNatClampNeg k2) k) <= 9 := aCJ (C := fun k => k % 4 = 3) aAh (fun hk => by have e9 : k1.toNatClampNeg = (Int32.toInt k1).toNat := rfl; have hk : k1.toNatClampNeg % 4 = 3 := hk; omega)
  intro v6 ev6
  have f7 : Int32.toInt (aJ + 1) = Int32.toInt aJ + Int32.toInt (1 : Int32) := aAD _ _ (by omega)
  rw [<- ev6] at f7
  exact hpost _ _ _ _ _ _ aA1 aAA (by omega) aAJ e2 e3 e4 e5 (fun k => by have q9 := a1 k; omega) aAN (by omega) (by omega) (by omega)
set_option maxHeartbeats 8000000 in
set_option maxRecDepth 200000 in
theorem aYe {post : Int32 -> Int32 -> Int32 -> Int32 -> (Nat -> Int32) -> (Nat -> Int32) -> Prop} {aLe : Int32} (bT aG : Int32) (jD : Nat) (mLn oF : Int32) (qO qQ : Nat -> Int32) (xJ : 0 <= Int32.toInt bT /\ Int32.toInt bT <= 16) (vZ : 0 <= Int32.toInt aG /\ Int32.toInt aG <= 8) (yM : jD = 1) (zE : 1 <= Int32.toInt mLn /\ Int32.toInt mLn <= 80) (aAR : 76 <= Int32.toInt oF /\ Int32.toInt oF <= 76) (zG : ∀ k : Nat, -128 <= Int32.toInt (qO k) /\ Int32.toInt (qO k) <= 127) (zI : ∀ k : Nat, -128 <= Int32.toInt (qQ k) /\ Int32.toInt (qQ k) <= 127) (hpost : ∀ (aAm : Int32) (zH : Int32) (aCP : Int32) (aB2 : Int32) (aAy : Nat -> Int32) (aCh : Nat -> Int32), (0 <= Int32.toInt aAm /\ Int32.toInt aAm <= 80) -> (-1 <= Int32.toInt zH /\ Int32.toInt zH <= 80) -> (0 <= Int32.toInt aCP /\ Int32.toInt aCP <= 16) -> (0 <= Int32.toInt aB2 /\ Int32.toInt aB2 <= 8) -> (∀ k : Nat, k % 4 = 0 -> 0 <= Int32.toInt (aAy k) /\ Int32.toInt (aAy k) <= 99) -> (∀ k : Nat, k % 4 = 1 -> 0 <= Int32.toInt (aAy k) /\ Int32.toInt (aAy k) <= 99) -> (∀ k : Nat, k % 4 = 2 -> 0 <= Int32.toInt (aAy k) /\ Int32.toInt (aAy k) <= 9) -> (∀ k : Nat, k % 4 = 3 -> 0 <= Int32.toInt (aAy k) /\ Int32.toInt (aAy k) <= 9) -> (∀ k : Nat, 0 <= Int32.toInt (aAy k) /\ Int32.toInt (aAy k) <= 99) -> (∀ k : Nat, 0 <= Int32.toInt (aCh k) /\ Int32.toInt (aCh k) <= 99) -> (Int32.toInt bT + Int32.toInt aCP <= 16) -> (Int32.toInt aG + Int32.toInt aB2 <= 8) -> (Int32.toInt aLe <= Int32.toInt aAm) -> post aAm zH aCP aB2 aAy aCh) (x1 k1 k2 rP dQ aJ aB : Int32) (qT qA : Nat -> Int32) (aBK : 0 <= Int32.toInt x1 /\ Int32.toInt x1 <= 60) (h_k1 : 2 <= Int32.toInt k1 /\ Int32.toInt k1 <= 62) (h_k2 : 0 <= Int32.toInt k2 /\ Int32.toInt k2 <= 9) (aA1 : 0 <= Int32.toInt rP /\ Int32.toInt rP <= 80) (aAA : -1 <= Int32.toInt dQ /\ Int32.toInt dQ <= 80) (aAb : 0 <= Int32.toInt aJ /\ Int32.toInt aJ <= 16) (aAJ : 0 <= Int32.toInt aB /\ Int32.toInt aB <= 8) (aAe : ∀ k : Nat, k % 4 = 0 -> 0 <= Int32.toInt (qT k) /\ Int32.toInt (qT k) <= 99) (aAf : ∀ k : Nat, k % 4 = 1 -> 0 <= Int32.toInt (qT k) /\ Int32.toInt (qT k) <= 99) (aAg : ∀ k : Nat, k % 4 = 2 -> 0 <= Int32.toInt (qT k) /\ Int32.toInt (qT k) <= 9) (aAh : ∀ k : Nat, k % 4 = 3 -> 0 <= Int32.toInt (qT k) /\ Int32.toInt (qT k) <= 9) (aAx : ∀ k : Nat, 0 <= Int32.toInt (qT k) /\ Int32.toInt (qT k) <= 99) (aAN : ∀ k : Nat, 0 <= Int32.toInt (qA k) /\ Int32.toInt (qA k) <= 99) (hx0 : Int32.toInt bT + Int32.toInt aJ <= 15) (hx1 : Int32.toInt aG + Int32.toInt aB <= 8) (hx2 : Int32.toInt aLe <= Int32.toInt rP) (hx3 : Int32.toInt k1 % 4 = 2) (hx4 : Int32.toInt x1 % 4 = 0) : ws_X10_readLine_95 post bT aG jD mLn oF qO qQ x1 k1 k2 rP dQ aJ aB qT qA := by
  have l0 := aI2
  have l1 := aE0
  have l2 := aEc
  have l3 := li_3
  have l4 := li_64
  refine And.intro (aBZ (by omega)) ?_
  have a8 : ∀ k : Nat, 0 <= Int32.toInt ((upd qT k1.toNatClampNeg k2) k) /\ Int32.toInt ((upd qT k1.toNatClampNeg k2) k) <= 99 := t_upd (fun k => by have q9 := aAx k; omega) (by omega)
  have e9 : ∀ k : Nat, k % 4 = 0 -> 0 <= Int32.toInt ((upd qT k1.toNatClampNeg k2) k) /\ Int32.toInt ((upd qT k1.toNatClampNeg k2) k) <= 99 := aCJ (C := fun k => k % 4 = 0) aAe (fun hk => by have e9 : k1.toNatClampNeg = (Int32.toInt k1).toNat := rfl; have hk : k1.toNatClampNeg % 4 = 0 := hk; omega)
  have e10 : ∀ k : Nat, k % 4 = 1 -> 0 <= Int32.toInt ((upd qT k1.toNatClampNeg k2) k) /\ Int32.toInt ((upd qT k1.toNatClampNeg k2) k) <= 99 := aCJ (C := fun k => k % 4 = 1) aAf (fun hk => by have e9 : k1.toNatClampNeg = (Int32.toInt k1).toNat := rfl; have hk : k1.toNatClampNeg % 4 = 1 := hk; omega)
  have e11 : ∀ k : Nat, k % 4 = 2 -> 0 <= Int32.toInt ((upd qT k1.toNatClampNeg k2) k) /\ Int32.toInt ((upd qT k1.toNatClampNeg k2) k) <= 9 := aCJ (C := fun k => k % 4 = 2) aAg (fun hk => by have e9 : k1.toNatClampNeg = (Int32.toInt k1).toNat := rfl; have hk : k1.toNatClampNeg % 4 = 2 := hk; omega)
  have e12 : ∀ k : Nat, k % 4 = 3 -> 0 <= Int32.toInt ((upd qT k1.toNatClampNeg k2) k) /\ Int32.toInt ((upd qT k1.toNatClampNeg k2) k) <= 9 := aCJ (C := fun k => k % 4 = 3) aAh (fun hk => by have e9 : k1.toNatClampNeg = (Int32.toInt k1).toNat := rfl; have hk : k1.toNatClampNeg % 4 = 3 := hk; omega)
  intro v13 ev13
  have f14 : Int32.toInt (x1 + 3) = Int32.toInt x1 + Int32.toInt (3 : Int32) := aAD _ _ (by omega)
  rw [<- ev13] at f14
  refine And.intro (fun c15 => ?_) (fun c15 => ?_)
  · skip
    have c15 := mt (zJ _ _).mpr c15
    refine And.intro (fun _ => ?_) (fun h9 => absurd h9 (by decide))
    refine And.intro (fun _ => ?_) (fun h9 => absurd h9 (by decide))
    exact ts_X10_readLine_121 bT aG jD mLn oF qO qQ xJ vZ yM zE aAR zG zI hpost v13 0 rP dQ aJ aB (upd qT k1.toNatClampNeg k2) qA (by omega) (by omega) aA1 aAA aAb aAJ e9 e10 e11 e12 (fun k => by have q9 := a8 k; omega) aAN hx0 hx1 hx2 (by omega)
  · skip
    have c15 := (zJ _ _).mp c15
    refine And.intro (fun h9 => absurd h9 (by decide)) (fun _ => ?_)
    refine aOq (by first | exact yM | exact Or.inl rfl | exact Or.inr rfl | omega) (by omega) (by omega) aA1 zG zI (by omega) (fun r16 h_r16 ox17 ox18 => ?_)
    refine And.intro (fun c19 => ?_) (fun c19 => ?_)
    · skip
      have c19 := (zJ _ _).mp c19
      intro v20 ev20
      have f21 : Int32.toInt (rP + 1) = Int32.toInt rP + Int32.toInt (1 : Int32) := aAD _ _ (by omega)
      rw [<- ev20] at f21
      refine And.intro (fun h9 => absurd h9 (by decide)) (fun _ => ?_)
      refine aXA (by omega) (by first | exact yM | exact Or.inl rfl | exact Or.inr rfl | omega) (by omega) (by omega) (by omega) aAA zG zI (by omega) (fun r24 m_at_22 m_wrong_23 h_r24 h_m_at_22 h_m_wrong_23 ox25 ox26 ox27 ox28 => ?_)
      exact ts_X10_readLine_121 bT aG jD mLn oF qO qQ xJ vZ yM zE aAR zG zI hpost v13 r24 m_at_22 m_wrong_23 aJ aB (upd qT k1.toNatClampNeg k2) qA (by omega) (by omega) h_m_at_22 h_m_wrong_23 aAb aAJ e9 e10 e11 e12 (fun k => by have q9 := a8 k; omega) aAN hx0 hx1 (by omega) (by omega)
    · skip
      have c19 := mt (zJ _ _).mpr c19
      refine And.intro (fun _ => ?_) (fun h9 => absurd h9 (by decide))
      exact ts_X10_readLine_121 bT aG jD mLn oF qO qQ xJ vZ yM zE aAR zG zI hpost v13 0 rP dQ aJ aB (upd qT k1.toNatClampNeg k2) qA (by omega) (by omega) aA1 aAA aAb aAJ e9 e10 e11 e12 (fun k => by have q9 := a8 k; omega) aAN hx0 hx1 hx2 (by omega)
set_option maxHeartbeats 8000000 in
set_option maxRecDepth 200000 in
theorem ts_X10_readLine_218 {post : Int32 -> Int32 -> Int32 -> Int32 -> (Nat -> Int32) -> (Nat -> Int32) -> Prop} {aLe : Int32} (bT aG : Int32) (jD : Nat) (mLn oF : Int32) (qO qQ : Nat -> Int32) (xJ : 0 <= Int32.toInt bT /\ Int32.toInt bT <= 16) (vZ : 0 <= Int32.toInt aG /\ Int32.toInt aG <= 8) (yM : jD = 1) (zE : 1 <= Int32.toInt mLn /\ Int32.toInt mLn <= 80) (aAR : 76 <= Int32.toInt oF /\ Int32.toInt oF <= 76) (zG : ∀ k : Nat, -128 <= Int32.toInt (qO k) /\ Int32.toInt (qO k) <= 127) (zI : ∀ k : Nat, -128 <= Int32.toInt (qQ k) /\ Int32.toInt (qQ k) <= 127) (hpost : ∀ (aAm : Int32) (zH : Int32) (aCP : Int32) (aB2 : Int32) (aAy : Nat -> Int32) (aCh : Nat -> Int32), (0 <= Int32.toInt aAm /\ Int32.toInt aAm <= 80) -> (-1 <= Int32.toInt zH /\ Int32.toInt zH <= 80) -> (0 <= Int32.toInt aCP /\ Int32.toInt aCP <= 16) -> (0 <= Int32.toInt aB2 /\ Int32.toInt aB2 <= 8) -> (∀ k : Nat, k % 4 = 0 -> 0 <= Int32.toInt (aAy k) /\ Int32.toInt (aAy k) <= 99) -> (∀ k : Nat, k % 4 = 1 -> 0 <= Int32.toInt (aAy k) /\ Int32.toInt (aAy k) <= 99) -> (∀ k : Nat, k % 4 = 2 -> 0 <= Int32.toInt (aAy k) /\ Int32.toInt (aAy k) <= 9) -> (∀ k : Nat, k % 4 = 3 -> 0 <= Int32.toInt (aAy k) /\ Int32.toInt (aAy k) <= 9) -> (∀ k : Nat, 0 <= Int32.toInt (aAy k) /\ Int32.toInt (aAy k) <= 99) -> (∀ k : Nat, 0 <= Int32.toInt (aCh k) /\ Int32.toInt (aCh k) <= 99) -> (Int32.toInt bT + Int32.toInt aCP <= 16) -> (Int32.toInt aG + Int32.toInt aB2 <= 8) -> (Int32.toInt aLe <= Int32.toInt aAm) -> post aAm zH aCP aB2 aAy aCh) (rP dQ aJ aB : Int32) (qT qA : Nat -> Int32) (aA1 : 0 <= Int32.toInt rP /\ Int32.toInt rP <= 80) (aAA : -1 <= Int32.toInt dQ /\ Int32.toInt dQ <= -1) (aAb : 0 <= Int32.toInt aJ /\ Int32.toInt aJ <= 16) (aAJ : 0 <= Int32.toInt aB /\ Int32.toInt aB <= 8) (aAe : ∀ k : Nat, k % 4 = 0 -> 0 <= Int32.toInt (qT k) /\ Int32.toInt (qT k) <= 99) (aAf : ∀ k : Nat, k % 4 = 1 -> 0 <= Int32.toInt (qT k) /\ Int32.toInt (qT k) <= 99) (aAg : ∀ k : Nat, k % 4 = 2 -> 0 <= Int32.toInt (qT k) /\ Int32.toInt (qT k) <= 9) (aAh : ∀ k : Nat, k % 4 = 3 -> 0 <= Int32.toInt (qT k) /\ Int32.toInt (qT k) <= 9) (aAx : ∀ k : Nat, 0 <= Int32.toInt (qT k) /\ Int32.toInt (qT k) <= 99) (aAN : ∀ k : Nat, 0 <= Int32.toInt (qA k) /\ Int32.toInt (qA k) <= 99) (hx0 : Int32.toInt bT + Int32.toInt aJ <= 16) (hx1 : Int32.toInt aG + Int32.toInt aB <= 8) (hx2 : Int32.toInt aLe <= Int32.toInt rP) : aXD post bT aG jD mLn oF qO qQ rP dQ aJ aB qT qA := by
  have l0 := aI2
  refine And.intro (fun c29 => ?_) (fun c29 => ?_)
  · skip
    have c29 := mt (zJ _ _).mpr c29
    exfalso; omega
  · skip
    have c29 := (zJ _ _).mp c29
    refine And.intro (fun h9 => absurd h9 (by decide)) (fun _ => ?_)
    exact hpost _ _ _ _ _ _ aA1 (by omega) aAb aAJ aAe aAf aAg aAh aAx aAN (by omega) (by omega) (by omega)
set_option maxHeartbeats 8000000 in
set_option maxRecDepth 200000 in
theorem ts_X10_readLine_135 {post : Int32 -> Int32 -> Int32 -> Int32 -> (Nat -> Int32) -> (Nat -> Int32) -> Prop} {aLe : Int32} (bT aG : Int32) (jD : Nat) (mLn oF : Int32) (qO qQ : Nat -> Int32) (xJ : 0 <= Int32.toInt bT /\ Int32.toInt bT <= 16) (vZ : 0 <= Int32.toInt aG /\ Int32.toInt aG <= 8) (yM : jD = 1) (zE : 1 <= Int32.toInt mLn /\ Int32.toInt mLn <= 80) (aAR : 76 <= Int32.toInt oF /\ Int32.toInt oF <= 76) (zG : ∀ k : Nat, -128 <= Int32.toInt (qO k) /\ Int32.toInt (qO k) <= 127) (zI : ∀ k : Nat, -128 <= Int32.toInt (qQ k) /\ Int32.toInt (qQ k) <= 127) (hpost : ∀ (aAm : Int32) (zH : Int32) (aCP : Int32) (aB2 : Int32) (aAy : Nat -> Int32) (aCh : Nat -> Int32), (0 <= Int32.toInt aAm /\ Int32.toInt aAm <= 80) -> (-1 <= Int32.toInt zH /\ Int32.toInt zH <= 80) -> (0 <= Int32.toInt aCP /\ Int32.toInt aCP <= 16) -> (0 <= Int32.toInt aB2 /\ Int32.toInt aB2 <= 8) -> (∀ k : Nat, k % 4 = 0 -> 0 <= Int32.toInt (aAy k) /\ Int32.toInt (aAy k) <= 99) -> (∀ k : Nat, k % 4 = 1 -> 0 <= Int32.toInt (aAy k) /\ Int32.toInt (aAy k) <= 99) -> (∀ k : Nat, k % 4 = 2 -> 0 <= Int32.toInt (aAy k) /\ Int32.toInt (aAy k) <= 9) -> (∀ k : Nat, k % 4 = 3 -> 0 <= Int32.toInt (aAy k) /\ Int32.toInt (aAy k) <= 9) -> (∀ k : Nat, 0 <= Int32.toInt (aAy k) /\ Int32.toInt (aAy k) <= 99) -> (∀ k : Nat, 0 <= Int32.toInt (aCh k) /\ Int32.toInt (aCh k) <= 99) -> (Int32.toInt bT + Int32.toInt aCP <= 16) -> (Int32.toInt aG + Int32.toInt aB2 <= 8) -> (Int32.toInt aLe <= Int32.toInt aAm) -> post aAm zH aCP aB2 aAy aCh) (rP dQ aJ aB : Int32) (qT qA : Nat -> Int32) (aA1 : 0 <= Int32.toInt rP /\ Int32.toInt rP <= 80) (aAA : -1 <= Int32.toInt dQ /\ Int32.toInt dQ <= -1) (aAb : 0 <= Int32.toInt aJ /\ Int32.toInt aJ <= 16) (aAJ : 0 <= Int32.toInt aB /\ Int32.toInt aB <= 8) (aAe : ∀ k : Nat, k % 4 = 0 -> 0 <= Int32.toInt (qT k) /\ Int32.toInt (qT k) <= 99) (aAf : ∀ k : Nat, k % 4 = 1 -> 0 <= Int32.toInt (qT k) /\ Int32.toInt (qT k) <= 99) (aAg : ∀ k : Nat, k % 4 = 2 -> 0 <= Int32.toInt (qT k) /\ Int32.toInt (qT k) <= 9) (aAh : ∀ k : Nat, k % 4 = 3 -> 0 <= Int32.toInt (qT k) /\ Int32.toInt (qT k) <= 9) (aAx : ∀ k : Nat, 0 <= Int32.toInt (qT k) /\ Int32.toInt (qT k) <= 99) (aAN : ∀ k : Nat, 0 <= Int32.toInt (qA k) /\ Int32.toInt (qA k) <= 99) (hx0 : Int32.toInt bT + Int32.toInt aJ <= 16) (hx1 : Int32.toInt aG + Int32.toInt aB <= 8) (hx2 : Int32.toInt aLe <= Int32.toInt rP) : ws_X10_readLine_135 post bT aG jD mLn oF qO qQ rP dQ aJ aB qT qA := by
  have l0 := aI2
  have l1 := aEc
  have l2 := li_115
  have l3 := li_2
  have l4 := li_44
  have l5 := li_8
  refine aOq (by first | exact yM | exact Or.inl rfl | exact Or.inr rfl | omega) (by omega) (by omega) aA1 zG zI (by omega) (fun r30 h_r30 ox31 ox32 => ?_)
  refine And.intro (fun c33 => ?_) (fun c33 => ?_)
  · skip
    have c33 := mt (zJ _ _).mpr c33
    exact ts_X10_readLine_218 bT aG jD mLn oF qO qQ xJ vZ yM zE aAR zG zI hpost rP dQ aJ aB qT qA aA1 aAA aAb aAJ aAe aAf aAg aAh aAx aAN hx0 hx1 hx2
  · skip
    have c33 := (zJ _ _).mp c33
    intro v34 ev34
    have f35 : Int32.toInt (aG + aB) = Int32.toInt aG + Int32.toInt aB := aAD _ _ (by omega)
    rw [<- ev34] at f35
    refine And.intro (fun c36 => ?_) (fun c36 => ?_)
    · skip
      have c36 := (aAO _ _).mp c36
      exact ts_X10_readLine_218 bT aG jD mLn oF qO qQ xJ vZ yM zE aAR zG zI hpost rP dQ aJ aB qT qA aA1 aAA aAb aAJ aAe aAf aAg aAh aAx aAN hx0 hx1 hx2
    · skip
      have c36 := mt (aAO _ _).mpr c36
      intro v37 ev37
      have f38 : Int32.toInt (2 * aB) = Int32.toInt aB * 2 := ta_cmul _ _ (by decide) (by omega)
      rw [<- ev37] at f38
      intro v39 ev39
      have f40 : Int32.toInt (rP + 1) = Int32.toInt rP + Int32.toInt (1 : Int32) := aAD _ _ (by omega)
      rw [<- ev39] at f40
      refine aXA (by omega) (by first | exact yM | exact Or.inl rfl | exact Or.inr rfl | omega) (by omega) (by omega) (by omega) (by omega) zG zI (by omega) (fun r43 m_at_41 m_wrong_42 h_r43 h_m_at_41 h_m_wrong_42 ox44 ox45 ox46 ox47 => ?_)
      refine And.intro (aBZ (by omega)) ?_
      have a48 : ∀ k : Nat, 0 <= Int32.toInt ((upd qA v37.toNatClampNeg r43) k) /\ Int32.toInt ((upd qA v37.toNatClampNeg r43) k) <= 99 := t_upd (fun k => by have q9 := aAN k; omega) (by omega)
      refine And.intro (fun c49 => ?_) (fun c49 => ?_)
      · skip
        have c49 := mt (zJ _ _).mpr c49
        refine And.intro (fun _ => ?_) (fun h9 => absurd h9 (by decide))
        refine And.intro (fun h9 => absurd h9 (by decide)) (fun _ => ?_)
        refine And.intro (fun c50 => ?_) (fun c50 => ?_)
        · skip
          have c50 := mt (zJ _ _).mpr c50
          refine And.intro (fun _ => ?_) (fun h9 => absurd h9 (by decide))
          intro v51 ev51
          have f52 : Int32.toInt (v37 + 1) = Int32.toInt v37 + Int32.toInt (1 : Int32) := aAD _ _ (by omega)
          rw [<- ev51] at f52
          refine aXA (by omega) (by first | exact yM | exact Or.inl rfl | exact Or.inr rfl | omega) (by omega) (by omega) h_m_at_41 h_m_wrong_42 zG zI (by omega) (fun r55 m_at_53 m_wrong_54 h_r55 h_m_at_53 h_m_wrong_54 ox56 ox57 ox58 ox59 => ?_)
          refine And.intro (aBZ (by omega)) ?_
          have a60 : ∀ k : Nat, 0 <= Int32.toInt ((upd (upd qA v37.toNatClampNeg r43) v51.toNatClampNeg r55) k) /\ Int32.toInt ((upd (upd qA v37.toNatClampNeg r43) v51.toNatClampNeg r55) k) <= 99 := t_upd (fun k => by have q9 := a48 k; omega) (by omega)
          intro v61 ev61
          have f62 : Int32.toInt (aB + 1) = Int32.toInt aB + Int32.toInt (1 : Int32) := aAD _ _ (by omega)
          rw [<- ev61] at f62
          exact hpost _ _ _ _ _ _ h_m_at_53 h_m_wrong_54 aAb (by omega) aAe aAf aAg aAh aAx (fun k => by have q9 := a60 k; omega) (by omega) (by omega) (by omega)
        · skip
          have c50 := (zJ _ _).mp c50
          exfalso; omega
      · skip
        have c49 := (zJ _ _).mp c49
        refine And.intro (fun h9 => absurd h9 (by decide)) (fun _ => ?_)
        refine aOq (by first | exact yM | exact Or.inl rfl | exact Or.inr rfl | omega) (by omega) (by omega) h_m_at_41 zG zI (by omega) (fun r63 h_r63 ox64 ox65 => ?_)
        refine And.intro (fun c66 => ?_) (fun c66 => ?_)
        · skip
          have c66 := (zJ _ _).mp c66
          intro v67 ev67
          have f68 : Int32.toInt (m_at_41 + 1) = Int32.toInt m_at_41 + Int32.toInt (1 : Int32) := aAD _ _ (by omega)
          rw [<- ev67] at f68
          refine And.intro (fun _ => ?_) (fun h9 => absurd h9 (by decide))
          intro v69 ev69
          have f70 : Int32.toInt (v37 + 1) = Int32.toInt v37 + Int32.toInt (1 : Int32) := aAD _ _ (by omega)
          rw [<- ev69] at f70
          refine aXA (by omega) (by first | exact yM | exact Or.inl rfl | exact Or.inr rfl | omega) (by omega) (by omega) (by omega) h_m_wrong_42 zG zI (by omega) (fun r73 m_at_71 m_wrong_72 h_r73 h_m_at_71 h_m_wrong_72 ox74 ox75 ox76 ox77 => ?_)
          refine And.intro (aBZ (by omega)) ?_
          have a78 : ∀ k : Nat, 0 <= Int32.toInt ((upd (upd qA v37.toNatClampNeg r43) v69.toNatClampNeg r73) k) /\ Int32.toInt ((upd (upd qA v37.toNatClampNeg r43) v69.toNatClampNeg r73) k) <= 99 := t_upd (fun k => by have q9 := a48 k; omega) (by omega)
          intro v79 ev79
          have f80 : Int32.toInt (aB + 1) = Int32.toInt aB + Int32.toInt (1 : Int32) := aAD _ _ (by omega)
          rw [<- ev79] at f80
          exact hpost _ _ _ _ _ _ h_m_at_71 h_m_wrong_72 aAb (by omega) aAe aAf aAg aAh aAx (fun k => by have q9 := a78 k; omega) (by omega) (by omega) (by omega)
        · skip
          have c66 := mt (zJ _ _).mpr c66
          refine And.intro (fun h9 => absurd h9 (by decide)) (fun _ => ?_)
          refine And.intro (fun c81 => ?_) (fun c81 => ?_)
          · skip
            have c81 := mt (zJ _ _).mpr c81
            exfalso; omega
          · skip
            have c81 := (zJ _ _).mp c81
            refine And.intro (fun h9 => absurd h9 (by decide)) (fun _ => ?_)
            intro v82 ev82
            have f83 : Int32.toInt (v37 + 1) = Int32.toInt v37 + Int32.toInt (1 : Int32) := aAD _ _ (by omega)
            rw [<- ev82] at f83
            refine aXA (by omega) (by first | exact yM | exact Or.inl rfl | exact Or.inr rfl | omega) (by omega) (by omega) h_m_at_41 (by omega) zG zI (by omega) (fun r86 m_at_84 m_wrong_85 h_r86 h_m_at_84 h_m_wrong_85 ox87 ox88 ox89 ox90 => ?_)
            refine And.intro (aBZ (by omega)) ?_
            have a91 : ∀ k : Nat, 0 <= Int32.toInt ((upd (upd qA v37.toNatClampNeg r43) v82.toNatClampNeg r86) k) /\ Int32.toInt ((upd (upd qA v37.toNatClampNeg r43) v82.toNatClampNeg r86) k) <= 99 := t_upd (fun k => by have q9 := a48 k; omega) (by omega)
            intro v92 ev92
            have f93 : Int32.toInt (aB + 1) = Int32.toInt aB + Int32.toInt (1 : Int32) := aAD _ _ (by omega)
            rw [<- ev92] at f93
            exact hpost _ _ _ _ _ _ h_m_at_84 h_m_wrong_85 aAb (by omega) aAe aAf aAg aAh aAx (fun k => by have q9 := a91 k; omega) (by omega) (by omega) (by omega)
set_option maxHeartbeats 8000000 in
set_option maxRecDepth 200000 in
theorem t_X10_readLine {post : Int32 -> Int32 -> Int32 -> Int32 -> (Nat -> Int32) -> (Nat -> Int32) -> Prop} {bT aG : Int32} {jD : Nat} {mLn oF rP dQ aJ aB : Int32} {qO qT qA qQ : Nat -> Int32} (xJ : 0 <= Int32.toInt bT /\ Int32.toInt bT <= 16) (vZ : 0 <= Int32.toInt aG /\ Int32.toInt aG <= 8) (yM : jD = 1) (zE : 1 <= Int32.toInt mLn /\ Int32.toInt mLn <= 80) (aAR : 76 <= Int32.toInt oF /\ Int32.toInt oF <= 76) (aA1 : 0 <= Int32.toInt rP /\ Int32.toInt rP <= 80) (aAA : -1 <= Int32.toInt dQ /\ Int32.toInt dQ <= -1) (aAb : 0 <= Int32.toInt aJ /\ Int32.toInt aJ <= 16) (aAJ : 0 <= Int32.toInt aB /\ Int32.toInt aB <= 8) (zG : ∀ k : Nat, -128 <= Int32.toInt (qO k) /\ Int32.toInt (qO k) <= 127) (aAe : ∀ k : Nat, k % 4 = 0 -> 0 <= Int32.toInt (qT k) /\ Int32.toInt (qT k) <= 99) (aAf : ∀ k : Nat, k % 4 = 1 -> 0 <= Int32.toInt (qT k) /\ Int32.toInt (qT k) <= 99) (aAg : ∀ k : Nat, k % 4 = 2 -> 0 <= Int32.toInt (qT k) /\ Int32.toInt (qT k) <= 9) (aAh : ∀ k : Nat, k % 4 = 3 -> 0 <= Int32.toInt (qT k) /\ Int32.toInt (qT k) <= 9) (aAx : ∀ k : Nat, 0 <= Int32.toInt (qT k) /\ Int32.toInt (qT k) <= 99) (aAN : ∀ k : Nat, 0 <= Int32.toInt (qA k) /\ Int32.toInt (qA k) <= 99) (zI : ∀ k : Nat, -128 <= Int32.toInt (qQ k) /\ Int32.toInt (qQ k) <= 127) (hx0 : Int32.toInt bT + Int32.toInt aJ <= 16) (hx1 : Int32.toInt aG + Int32.toInt aB <= 8) (hpost : ∀ (aAm : Int32) (zH : Int32) (aCP : Int32) (aB2 : Int32) (aAy : Nat -> Int32) (aCh : Nat -> Int32), (0 <= Int32.toInt aAm /\ Int32.toInt aAm <= 80) -> (-1 <= Int32.toInt zH /\ Int32.toInt zH <= 80) -> (0 <= Int32.toInt aCP /\ Int32.toInt aCP <= 16) -> (0 <= Int32.toInt aB2 /\ Int32.toInt aB2 <= 8) -> (∀ k : Nat, k % 4 = 0 -> 0 <= Int32.toInt (aAy k) /\ Int32.toInt (aAy k) <= 99) -> (∀ k : Nat, k % 4 = 1 -> 0 <= Int32.toInt (aAy k) /\ Int32.toInt (aAy k) <= 99) -> (∀ k : Nat, k % 4 = 2 -> 0 <= Int32.toInt (aAy k) /\ Int32.toInt (aAy k) <= 9) -> (∀ k : Nat, k % 4 = 3 -> 0 <= Int32.toInt (aAy k) /\ Int32.toInt (aAy k) <= 9) -> (∀ k : Nat, 0 <= Int32.toInt (aAy k) /\ Int32.toInt (aAy k) <= 99) -> (∀ k : Nat, 0 <= Int32.toInt (aCh k) /\ Int32.toInt (aCh k) <= 99) -> (Int32.toInt bT + Int32.toInt aCP <= 16) -> (Int32.toInt aG + Int32.toInt aB2 <= 8) -> (Int32.toInt rP <= Int32.toInt aAm) -> post aAm zH aCP aB2 aAy aCh) : bCJ post bT aG jD mLn oF rP dQ aJ aB qO qT qA qQ := by
  have l0 := aI2
  have l1 := aEc
  have l2 := li_102
  have l3 := li_16
  have l4 := li_2
  have l5 := li_4
  have l6 := li_42
  have l7 := li_44
  refine aOq (by first | exact yM | exact Or.inl rfl | exact Or.inr rfl | omega) (by omega) (by omega) aA1 zG zI (by omega) (fun r94 h_r94 ox95 ox96 => ?_)
  refine And.intro (fun c97 => ?_) (fun c97 => ?_)
  · skip
    have c97 := mt (zJ _ _).mpr c97
    exact ts_X10_readLine_135 bT aG jD mLn oF qO qQ xJ vZ yM zE aAR zG zI hpost rP dQ aJ aB qT qA aA1 aAA aAb aAJ aAe aAf aAg aAh aAx aAN (by omega) (by omega) (by omega)
  · skip
    have c97 := (zJ _ _).mp c97
    intro v98 ev98
    have f99 : Int32.toInt (bT + aJ) = Int32.toInt bT + Int32.toInt aJ := aAD _ _ (by omega)
    rw [<- ev98] at f99
    refine And.intro (fun c100 => ?_) (fun c100 => ?_)
    · skip
      have c100 := (aAO _ _).mp c100
      exact ts_X10_readLine_135 bT aG jD mLn oF qO qQ xJ vZ yM zE aAR zG zI hpost rP dQ aJ aB qT qA aA1 aAA aAb aAJ aAe aAf aAg aAh aAx aAN (by omega) (by omega) (by omega)
    · skip
      have c100 := mt (aAO _ _).mpr c100
      intro v101 ev101
      have f102 : Int32.toInt (4 * aJ) = Int32.toInt aJ * 4 := ta_cmul _ _ (by decide) (by omega)
      rw [<- ev101] at f102
      intro v103 ev103
      have f104 : Int32.toInt (rP + 1) = Int32.toInt rP + Int32.toInt (1 : Int32) := aAD _ _ (by omega)
      rw [<- ev103] at f104
      refine aXA (by omega) (by first | exact yM | exact Or.inl rfl | exact Or.inr rfl | omega) (by omega) (by omega) (by omega) (by omega) zG zI (by omega) (fun r107 m_at_105 m_wrong_106 h_r107 h_m_at_105 h_m_wrong_106 ox108 ox109 ox110 ox111 => ?_)
      refine And.intro (aBZ (by omega)) ?_
      have a112 : ∀ k : Nat, 0 <= Int32.toInt ((upd qT v101.toNatClampNeg r107) k) /\ Int32.toInt ((upd qT v101.toNatClampNeg r107) k) <= 99 := t_upd (fun k => by have q9 := aAx k; omega) (by omega)
      have e113 : ∀ k : Nat, k % 4 = 0 -> 0 <= Int32.toInt ((upd qT v101.toNatClampNeg r107) k) /\ Int32.toInt ((upd qT v101.toNatClampNeg r107) k) <= 99 := aCJ (C := fun k => k % 4 = 0) aAe (fun hk => by have e9 : v101.toNatClampNeg = (Int32.toInt v101).toNat := rfl; have hk : v101.toNatClampNeg % 4 = 0 := hk; omega)
      have e114 : ∀ k : Nat, k % 4 = 1 -> 0 <= Int32.toInt ((upd qT v101.toNatClampNeg r107) k) /\ Int32.toInt ((upd qT v101.toNatClampNeg r107) k) <= 99 := aCJ (C := fun k => k % 4 = 1) aAf (fun hk => by have e9 : v101.toNatClampNeg = (Int32.toInt v101).toNat := rfl; have hk : v101.toNatClampNeg % 4 = 1 := hk; omega)
      have e115 : ∀ k : Nat, k % 4 = 2 -> 0 <= Int32.toInt ((upd qT v101.toNatClampNeg r107) k) /\ Int32.toInt ((upd qT v101.toNatClampNeg r107) k) <= 9 := aCJ (C := fun k => k % 4 = 2) aAg (fun hk => by have e9 : v101.toNatClampNeg = (Int32.toInt v101).toNat := rfl; have hk : v101.toNatClampNeg % 4 = 2 := hk; omega)
      have e116 : ∀ k : Nat, k % 4 = 3 -> 0 <= Int32.toInt ((upd qT v101.toNatClampNeg r107) k) /\ Int32.toInt ((upd qT v101.toNatClampNeg r107) k) <= 9 := aCJ (C := fun k => k % 4 = 3) aAh (fun hk => by have e9 : v101.toNatClampNeg = (Int32.toInt v101).toNat := rfl; have hk : v101.toNatClampNeg % 4 = 3 := hk; omega)
      refine And.intro (fun c117 => ?_) (fun c117 => ?_)
      · skip
        have c117 := mt (zJ _ _).mpr c117
        refine And.intro (fun _ => ?_) (fun h9 => absurd h9 (by decide))
        refine And.intro (fun h9 => absurd h9 (by decide)) (fun _ => ?_)
        refine And.intro (fun c118 => ?_) (fun c118 => ?_)
        · skip
          have c118 := mt (zJ _ _).mpr c118
          refine And.intro (fun _ => ?_) (fun h9 => absurd h9 (by decide))
          intro v119 ev119
          have f120 : Int32.toInt (v101 + 1) = Int32.toInt v101 + Int32.toInt (1 : Int32) := aAD _ _ (by omega)
          rw [<- ev119] at f120
          refine aXA (by omega) (by first | exact yM | exact Or.inl rfl | exact Or.inr rfl | omega) (by omega) (by omega) h_m_at_105 h_m_wrong_106 zG zI (by omega) (fun r123 m_at_121 m_wrong_122 h_r123 h_m_at_121 h_m_wrong_122 ox124 ox125 ox126 ox127 => ?_)
          refine And.intro (aBZ (by omega)) ?_
          have a128 : ∀ k : Nat, 0 <= Int32.toInt ((upd (upd qT v101.toNatClampNeg r107) v119.toNatClampNeg r123) k) /\ Int32.toInt ((upd (upd qT v101.toNatClampNeg r107) v119.toNatClampNeg r123) k) <= 99 := t_upd (fun k => by have q9 := a112 k; omega) (by omega)
          have e129 : ∀ k : Nat, k % 4 = 0 -> 0 <= Int32.toInt ((upd (upd qT v101.toNatClampNeg r107) v119.toNatClampNeg r123) k) /\ Int32.toInt ((upd (upd qT v101.toNatClampNeg r107) v119.toNatClampNeg r123) k) <= 99 := aCJ (C := fun k => k % 4 = 0) e113 (fun hk => by have e9 : v119.toNatClampNeg = (Int32.toInt v119).toNat := rfl; have hk : v119.toNatClampNeg % 4 = 0 := hk; omega)
          have e130 : ∀ k : Nat, k % 4 = 1 -> 0 <= Int32.toInt ((upd (upd qT v101.toNatClampNeg r107) v119.toNatClampNeg r123) k) /\ Int32.toInt ((upd (upd qT v101.toNatClampNeg r107) v119.toNatClampNeg r123) k) <= 99 := aCJ (C := fun k => k % 4 = 1) e114 (fun hk => by have e9 : v119.toNatClampNeg = (Int32.toInt v119).toNat := rfl; have hk : v119.toNatClampNeg % 4 = 1 := hk; omega)
          have e131 : ∀ k : Nat, k % 4 = 2 -> 0 <= Int32.toInt ((upd (upd qT v101.toNatClampNeg r107) v119.toNatClampNeg r123) k) /\ Int32.toInt ((upd (upd qT v101.toNatClampNeg r107) v119.toNatClampNeg r123) k) <= 9 := aCJ (C := fun k => k % 4 = 2) e115 (fun hk => by have e9 : v119.toNatClampNeg = (Int32.toInt v119).toNat := rfl; have hk : v119.toNatClampNeg % 4 = 2 := hk; omega)
          have e132 : ∀ k : Nat, k % 4 = 3 -> 0 <= Int32.toInt ((upd (upd qT v101.toNatClampNeg r107) v119.toNatClampNeg r123) k) /\ Int32.toInt ((upd (upd qT v101.toNatClampNeg r107) v119.toNatClampNeg r123) k) <= 9 := aCJ (C := fun k => k % 4 = 3) e116 (fun hk => by have e9 : v119.toNatClampNeg = (Int32.toInt v119).toNat := rfl; have hk : v119.toNatClampNeg % 4 = 3 := hk; omega)
          intro v133 ev133
          have f134 : Int32.toInt (v101 + 2) = Int32.toInt v101 + Int32.toInt (2 : Int32) := aAD _ _ (by omega)
          rw [<- ev133] at f134
          refine And.intro (fun c135 => ?_) (fun c135 => ?_)
          · skip
            have c135 := mt (zJ _ _).mpr c135
            refine And.intro (fun _ => ?_) (fun h9 => absurd h9 (by decide))
            refine And.intro (fun _ => ?_) (fun h9 => absurd h9 (by decide))
            exact aYe bT aG jD mLn oF qO qQ xJ vZ yM zE aAR zG zI hpost v101 v133 1 m_at_121 m_wrong_122 aJ aB (upd (upd qT v101.toNatClampNeg r107) v119.toNatClampNeg r123) qA (by omega) (by omega) (by omega) h_m_at_121 h_m_wrong_122 aAb aAJ e129 e130 e131 e132 (fun k => by have q9 := a128 k; omega) aAN (by omega) (by omega) (by omega) (by omega) (by omega)
          · skip
            have c135 := (zJ _ _).mp c135
            refine And.intro (fun h9 => absurd h9 (by decide)) (fun _ => ?_)
            refine aOq (by first | exact yM | exact Or.inl rfl | exact Or.inr rfl | omega) (by omega) (by omega) h_m_at_121 zG zI (by omega) (fun r136 h_r136 ox137 ox138 => ?_)
            refine And.intro (fun c139 => ?_) (fun c139 => ?_)
            · skip
              have c139 := (zJ _ _).mp c139
              intro v140 ev140
              have f141 : Int32.toInt (m_at_121 + 1) = Int32.toInt m_at_121 + Int32.toInt (1 : Int32) := aAD _ _ (by omega)
              rw [<- ev140] at f141
              refine And.intro (fun h9 => absurd h9 (by decide)) (fun _ => ?_)
              refine aXA (by omega) (by first | exact yM | exact Or.inl rfl | exact Or.inr rfl | omega) (by omega) (by omega) (by omega) h_m_wrong_122 zG zI (by omega) (fun r144 m_at_142 m_wrong_143 h_r144 h_m_at_142 h_m_wrong_143 ox145 ox146 ox147 ox148 => ?_)
              exact aYe bT aG jD mLn oF qO qQ xJ vZ yM zE aAR zG zI hpost v101 v133 r144 m_at_142 m_wrong_143 aJ aB (upd (upd qT v101.toNatClampNeg r107) v119.toNatClampNeg r123) qA (by omega) (by omega) (by omega) h_m_at_142 h_m_wrong_143 aAb aAJ e129 e130 e131 e132 (fun k => by have q9 := a128 k; omega) aAN (by omega) (by omega) (by omega) (by omega) (by omega)
            · skip
              have c139 := mt (zJ _ _).mpr c139
              refine And.intro (fun _ => ?_) (fun h9 => absurd h9 (by decide))
              exact aYe bT aG jD mLn oF qO qQ xJ vZ yM zE aAR zG zI hpost v101 v133 1 m_at_121 m_wrong_122 aJ aB (upd (upd qT v101.toNatClampNeg r107) v119.toNatClampNeg r123) qA (by omega) (by omega) (by omega) h_m_at_121 h_m_wrong_122 aAb aAJ e129 e130 e131 e132 (fun k => by have q9 := a128 k; omega) aAN (by omega) (by omega) (by omega) (by omega) (by omega)
        · skip
          have c118 := (zJ _ _).mp c118
          exfalso; omega
      · skip
        have c117 := (zJ _ _).mp c117
        refine And.intro (fun h9 => absurd h9 (by decide)) (fun _ => ?_)
        refine aOq (by first | exact yM | exact Or.inl rfl | exact Or.inr rfl | omega) (by omega) (by omega) h_m_at_105 zG zI (by omega) (fun r149 h_r149 ox150 ox151 => ?_)
        refine And.intro (fun c152 => ?_) (fun c152 => ?_)
        · skip
          have c152 := (zJ _ _).mp c152
          intro v153 ev153
          have f154 : Int32.toInt (m_at_105 + 1) = Int32.toInt m_at_105 + Int32.toInt (1 : Int32) := aAD _ _ (by omega)
          rw [<- ev153] at f154
          refine And.intro (fun _ => ?_) (fun h9 => absurd h9 (by decide))
          intro v155 ev155
          have f156 : Int32.toInt (v101 + 1) = Int32.toInt v101 + Int32.toInt (1 : Int32) := aAD _ _ (by omega)
          rw [<- ev155] at f156
          refine aXA (by omega) (by first | exact yM | exact Or.inl rfl | exact Or.inr rfl | omega) (by omega) (by omega) (by omega) h_m_wrong_106 zG zI (by omega) (fun r159 m_at_157 m_wrong_158 h_r159 h_m_at_157 h_m_wrong_158 ox160 ox161 ox162 ox163 => ?_)
          refine And.intro (aBZ (by omega)) ?_
          have a164 : ∀ k : Nat, 0 <= Int32.toInt ((upd (upd qT v101.toNatClampNeg r107) v155.toNatClampNeg r159) k) /\ Int32.toInt ((upd (upd qT v101.toNatClampNeg r107) v155.toNatClampNeg r159) k) <= 99 := t_upd (fun k => by have q9 := a112 k; omega) (by omega)
          have e165 : ∀ k : Nat, k % 4 = 0 -> 0 <= Int32.toInt ((upd (upd qT v101.toNatClampNeg r107) v155.toNatClampNeg r159) k) /\ Int32.toInt ((upd (upd qT v101.toNatClampNeg r107) v155.toNatClampNeg r159) k) <= 99 := aCJ (C := fun k => k % 4 = 0) e113 (fun hk => by have e9 : v155.toNatClampNeg = (Int32.toInt v155).toNat := rfl; have hk : v155.toNatClampNeg % 4 = 0 := hk; omega)
          have e166 : ∀ k : Nat, k % 4 = 1 -> 0 <= Int32.toInt ((upd (upd qT v101.toNatClampNeg r107) v155.toNatClampNeg r159) k) /\ Int32.toInt ((upd (upd qT v101.toNatClampNeg r107) v155.toNatClampNeg r159) k) <= 99 := aCJ (C := fun k => k % 4 = 1) e114 (fun hk => by have e9 : v155.toNatClampNeg = (Int32.toInt v155).toNat := rfl; have hk : v155.toNatClampNeg % 4 = 1 := hk; omega)
          have e167 : ∀ k : Nat, k % 4 = 2 -> 0 <= Int32.toInt ((upd (upd qT v101.toNatClampNeg r107) v155.toNatClampNeg r159) k) /\ Int32.toInt ((upd (upd qT v101.toNatClampNeg r107) v155.toNatClampNeg r159) k) <= 9 := aCJ (C := fun k => k % 4 = 2) e115 (fun hk => by have e9 : v155.toNatClampNeg = (Int32.toInt v155).toNat := rfl; have hk : v155.toNatClampNeg % 4 = 2 := hk; omega)
          have e168 : ∀ k : Nat, k % 4 = 3 -> 0 <= Int32.toInt ((upd (upd qT v101.toNatClampNeg r107) v155.toNatClampNeg r159) k) /\ Int32.toInt ((upd (upd qT v101.toNatClampNeg r107) v155.toNatClampNeg r159) k) <= 9 := aCJ (C := fun k => k % 4 = 3) e116 (fun hk => by have e9 : v155.toNatClampNeg = (Int32.toInt v155).toNat := rfl; have hk : v155.toNatClampNeg % 4 = 3 := hk; omega)
          intro v169 ev169
          have f170 : Int32.toInt (v101 + 2) = Int32.toInt v101 + Int32.toInt (2 : Int32) := aAD _ _ (by omega)
          rw [<- ev169] at f170
          refine And.intro (fun c171 => ?_) (fun c171 => ?_)
          · skip
            have c171 := mt (zJ _ _).mpr c171
            refine And.intro (fun _ => ?_) (fun h9 => absurd h9 (by decide))
            refine And.intro (fun _ => ?_) (fun h9 => absurd h9 (by decide))
            exact aYe bT aG jD mLn oF qO qQ xJ vZ yM zE aAR zG zI hpost v101 v169 1 m_at_157 m_wrong_158 aJ aB (upd (upd qT v101.toNatClampNeg r107) v155.toNatClampNeg r159) qA (by omega) (by omega) (by omega) h_m_at_157 h_m_wrong_158 aAb aAJ e165 e166 e167 e168 (fun k => by have q9 := a164 k; omega) aAN (by omega) (by omega) (by omega) (by omega) (by omega)
          · skip
            have c171 := (zJ _ _).mp c171
            refine And.intro (fun h9 => absurd h9 (by decide)) (fun _ => ?_)
            refine aOq (by first | exact yM | exact Or.inl rfl | exact Or.inr rfl | omega) (by omega) (by omega) h_m_at_157 zG zI (by omega) (fun r172 h_r172 ox173 ox174 => ?_)
            refine And.intro (fun c175 => ?_) (fun c175 => ?_)
            · skip
              have c175 := (zJ _ _).mp c175
              intro v176 ev176
              have f177 : Int32.toInt (m_at_157 + 1) = Int32.toInt m_at_157 + Int32.toInt (1 : Int32) := aAD _ _ (by omega)
              rw [<- ev176] at f177
              refine And.intro (fun h9 => absurd h9 (by decide)) (fun _ => ?_)
              refine aXA (by omega) (by first | exact yM | exact Or.inl rfl | exact Or.inr rfl | omega) (by omega) (by omega) (by omega) h_m_wrong_158 zG zI (by omega) (fun r180 m_at_178 m_wrong_179 h_r180 h_m_at_178 h_m_wrong_179 ox181 ox182 ox183 ox184 => ?_)
              exact aYe bT aG jD mLn oF qO qQ xJ vZ yM zE aAR zG zI hpost v101 v169 r180 m_at_178 m_wrong_179 aJ aB (upd (upd qT v101.toNatClampNeg r107) v155.toNatClampNeg r159) qA (by omega) (by omega) (by omega) h_m_at_178 h_m_wrong_179 aAb aAJ e165 e166 e167 e168 (fun k => by have q9 := a164 k; omega) aAN (by omega) (by omega) (by omega) (by omega) (by omega)
            · skip
              have c175 := mt (zJ _ _).mpr c175
              refine And.intro (fun _ => ?_) (fun h9 => absurd h9 (by decide))
              exact aYe bT aG jD mLn oF qO qQ xJ vZ yM zE aAR zG zI hpost v101 v169 1 m_at_157 m_wrong_158 aJ aB (upd (upd qT v101.toNatClampNeg r107) v155.toNatClampNeg r159) qA (by omega) (by omega) (by omega) h_m_at_157 h_m_wrong_158 aAb aAJ e165 e166 e167 e168 (fun k => by have q9 := a164 k; omega) aAN (by omega) (by omega) (by omega) (by omega) (by omega)
        · skip
          have c152 := mt (zJ _ _).mpr c152
          refine And.intro (fun h9 => absurd h9 (by decide)) (fun _ => ?_)
          refine And.intro (fun c185 => ?_) (fun c185 => ?_)
          · skip
            have c185 := mt (zJ _ _).mpr c185
            exfalso; omega
          · skip
            have c185 := (zJ _ _).mp c185
            refine And.intro (fun h9 => absurd h9 (by decide)) (fun _ => ?_)
            intro v186 ev186
            have f187 : Int32.toInt (v101 + 1) = Int32.toInt v101 + Int32.toInt (1 : Int32) := aAD _ _ (by omega)
            rw [<- ev186] at f187
            refine aXA (by omega) (by first | exact yM | exact Or.inl rfl | exact Or.inr rfl | omega) (by omega) (by omega) h_m_at_105 (by omega) zG zI (by omega) (fun r190 m_at_188 m_wrong_189 h_r190 h_m_at_188 h_m_wrong_189 ox191 ox192 ox193 ox194 => ?_)
            refine And.intro (aBZ (by omega)) ?_
            have a195 : ∀ k : Nat, 0 <= Int32.toInt ((upd (upd qT v101.toNatClampNeg r107) v186.toNatClampNeg r190) k) /\ Int32.toInt ((upd (upd qT v101.toNatClampNeg r107) v186.toNatClampNeg r190) k) <= 99 := t_upd (fun k => by have q9 := a112 k; omega) (by omega)
            have e196 : ∀ k : Nat, k % 4 = 0 -> 0 <= Int32.toInt ((upd (upd qT v101.toNatClampNeg r107) v186.toNatClampNeg r190) k) /\ Int32.toInt ((upd (upd qT v101.toNatClampNeg r107) v186.toNatClampNeg r190) k) <= 99 := aCJ (C := fun k => k % 4 = 0) e113 (fun hk => by have e9 : v186.toNatClampNeg = (Int32.toInt v186).toNat := rfl; have hk : v186.toNatClampNeg % 4 = 0 := hk; omega)
            have e197 : ∀ k : Nat, k % 4 = 1 -> 0 <= Int32.toInt ((upd (upd qT v101.toNatClampNeg r107) v186.toNatClampNeg r190) k) /\ Int32.toInt ((upd (upd qT v101.toNatClampNeg r107) v186.toNatClampNeg r190) k) <= 99 := aCJ (C := fun k => k % 4 = 1) e114 (fun hk => by have e9 : v186.toNatClampNeg = (Int32.toInt v186).toNat := rfl; have hk : v186.toNatClampNeg % 4 = 1 := hk; omega)
            have e198 : ∀ k : Nat, k % 4 = 2 -> 0 <= Int32.toInt ((upd (upd qT v101.toNatClampNeg r107) v186.toNatClampNeg r190) k) /\ Int32.toInt ((upd (upd qT v101.toNatClampNeg r107) v186.toNatClampNeg r190) k) <= 9 := aCJ (C := fun k => k % 4 = 2) e115 (fun hk => by have e9 : v186.toNatClampNeg = (Int32.toInt v186).toNat := rfl; have hk : v186.toNatClampNeg % 4 = 2 := hk; omega)
            have e199 : ∀ k : Nat, k % 4 = 3 -> 0 <= Int32.toInt ((upd (upd qT v101.toNatClampNeg r107) v186.toNatClampNeg r190) k) /\ Int32.toInt ((upd (upd qT v101.toNatClampNeg r107) v186.toNatClampNeg r190) k) <= 9 := aCJ (C := fun k => k % 4 = 3) e116 (fun hk => by have e9 : v186.toNatClampNeg = (Int32.toInt v186).toNat := rfl; have hk : v186.toNatClampNeg % 4 = 3 := hk; omega)
            intro v200 ev200
            have f201 : Int32.toInt (v101 + 2) = Int32.toInt v101 + Int32.toInt (2 : Int32) := aAD _ _ (by omega)
            rw [<- ev200] at f201
            refine And.intro (fun c202 => ?_) (fun c202 => ?_)
            · skip
              have c202 := mt (zJ _ _).mpr c202
              refine And.intro (fun _ => ?_) (fun h9 => absurd h9 (by decide))
              refine And.intro (fun _ => ?_) (fun h9 => absurd h9 (by decide))
              exact aYe bT aG jD mLn oF qO qQ xJ vZ yM zE aAR zG zI hpost v101 v200 1 m_at_188 m_wrong_189 aJ aB (upd (upd qT v101.toNatClampNeg r107) v186.toNatClampNeg r190) qA (by omega) (by omega) (by omega) h_m_at_188 h_m_wrong_189 aAb aAJ e196 e197 e198 e199 (fun k => by have q9 := a195 k; omega) aAN (by omega) (by omega) (by omega) (by omega) (by omega)
            · skip
              have c202 := (zJ _ _).mp c202
              refine And.intro (fun h9 => absurd h9 (by decide)) (fun _ => ?_)
              refine aOq (by first | exact yM | exact Or.inl rfl | exact Or.inr rfl | omega) (by omega) (by omega) h_m_at_188 zG zI (by omega) (fun r203 h_r203 ox204 ox205 => ?_)
              refine And.intro (fun c206 => ?_) (fun c206 => ?_)
              · skip
                have c206 := (zJ _ _).mp c206
                intro v207 ev207
                have f208 : Int32.toInt (m_at_188 + 1) = Int32.toInt m_at_188 + Int32.toInt (1 : Int32) := aAD _ _ (by omega)
                rw [<- ev207] at f208
                refine And.intro (fun h9 => absurd h9 (by decide)) (fun _ => ?_)
                refine aXA (by omega) (by first | exact yM | exact Or.inl rfl | exact Or.inr rfl | omega) (by omega) (by omega) (by omega) h_m_wrong_189 zG zI (by omega) (fun r211 m_at_209 m_wrong_210 h_r211 h_m_at_209 h_m_wrong_210 ox212 ox213 ox214 ox215 => ?_)
                exact aYe bT aG jD mLn oF qO qQ xJ vZ yM zE aAR zG zI hpost v101 v200 r211 m_at_209 m_wrong_210 aJ aB (upd (upd qT v101.toNatClampNeg r107) v186.toNatClampNeg r190) qA (by omega) (by omega) (by omega) h_m_at_209 h_m_wrong_210 aAb aAJ e196 e197 e198 e199 (fun k => by have q9 := a195 k; omega) aAN (by omega) (by omega) (by omega) (by omega) (by omega)
              · skip
                have c206 := mt (zJ _ _).mpr c206
                refine And.intro (fun _ => ?_) (fun h9 => absurd h9 (by decide))
                exact aYe bT aG jD mLn oF qO qQ xJ vZ yM zE aAR zG zI hpost v101 v200 1 m_at_188 m_wrong_189 aJ aB (upd (upd qT v101.toNatClampNeg r107) v186.toNatClampNeg r190) qA (by omega) (by omega) (by omega) h_m_at_188 h_m_wrong_189 aAb aAJ e196 e197 e198 e199 (fun k => by have q9 := a195 k; omega) aAN (by omega) (by omega) (by omega) (by omega) (by omega)
set_option maxHeartbeats 8000000 in
set_option maxRecDepth 200000 in
theorem ts_X10_orchard_215 {post : Int32 -> Int32 -> Int32 -> Int32 -> Int32 -> Nat -> Int32 -> Int32 -> Int32 -> Int32 -> Int32 -> Int32 -> Int32 -> Int32 -> (Nat -> Int32) -> (Nat -> Int32) -> (Nat -> Int32) -> (Nat -> Int32) -> (Nat -> Int32) -> (Nat -> Int32) -> (Nat -> Int32) -> (Nat -> Int32) -> (Nat -> Int32) -> Prop} {SB : Int} {aJ1 : Int32} {next : Int32 -> Int32 -> Int32 -> Int32 -> Int32 -> Nat -> Int32 -> Int32 -> Int32 -> Int32 -> Int32 -> Int32 -> Int32 -> Int32 -> (Nat -> Int32) -> (Nat -> Int32) -> (Nat -> Int32) -> (Nat -> Int32) -> (Nat -> Int32) -> (Nat -> Int32) -> (Nat -> Int32) -> (Nat -> Int32) -> (Nat -> Int32) -> Prop} {n215 : Int} (qO qQ : Nat -> Int32) (zG : ∀ k : Nat, -128 <= Int32.toInt (qO k) /\ Int32.toInt (qO k) <= 127) (zI : ∀ k : Nat, -128 <= Int32.toInt (qQ k) /\ Int32.toInt (qQ k) <= 127) (hc0 : -1 <= SB /\ SB <= 7) (hpost : ∀ (r : Int32) (aLD : Int32) (aEx : Int32) (aBT : Int32) (xG : Int32) (aAP : Nat) (zS : Int32) (aAz : Int32) (aAm : Int32) (zH : Int32) (aCP : Int32) (aB2 : Int32) (aBI : Int32) (m_came' : Int32) (aBf : Nat -> Int32) (m_x' : Nat -> Int32) (aLE : Nat -> Int32) (aF6 : Nat -> Int32) (aUr : Nat -> Int32) (aUp : Nat -> Int32) (aUq : Nat -> Int32) (aAy : Nat -> Int32) (aCh : Nat -> Int32), (-100 <= Int32.toInt r /\ Int32.toInt r <= 24) -> (0 <= Int32.toInt aLD /\ Int32.toInt aLD <= 16) -> (0 <= Int32.toInt aEx /\ Int32.toInt aEx <= 8) -> (0 <= Int32.toInt aBT /\ Int32.toInt aBT <= 0) -> (0 <= Int32.toInt xG /\ Int32.toInt xG <= 0) -> (aAP = 1) -> (0 <= Int32.toInt zS /\ Int32.toInt zS <= 80) -> (76 <= Int32.toInt aAz /\ Int32.toInt aAz <= 76) -> (0 <= Int32.toInt aAm /\ Int32.toInt aAm <= 80) -> (-1 <= Int32.toInt zH /\ Int32.toInt zH <= 80) -> (0 <= Int32.toInt aCP /\ Int32.toInt aCP <= 16) -> (0 <= Int32.toInt aB2 /\ Int32.toInt aB2 <= 8) -> (0 <= Int32.toInt aBI /\ Int32.toInt aBI <= 12) -> (∀ k : Nat, k = 17 -> -1 <= Int32.toInt (aBf k) /\ Int32.toInt (aBf k) <= SB) -> (∀ k : Nat, k = 19 -> 0 <= Int32.toInt (aBf k) /\ Int32.toInt (aBf k) <= 9) -> (∀ k : Nat, 0 <= Int32.toInt (m_x' k) /\ Int32.toInt (m_x' k) <= 99) -> (∀ k : Nat, 0 <= Int32.toInt (aLE k) /\ Int32.toInt (aLE k) <= 99) -> (∀ k : Nat, 0 <= Int32.toInt (aF6 k) /\ Int32.toInt (aF6 k) <= 9) -> (∀ k : Nat, 0 <= Int32.toInt (aUr k) /\ Int32.toInt (aUr k) <= 9) -> (∀ k : Nat, 0 <= Int32.toInt (aUp k) /\ Int32.toInt (aUp k) <= 99) -> (∀ k : Nat, 0 <= Int32.toInt (aUq k) /\ Int32.toInt (aUq k) <= 99) -> (∀ k : Nat, k % 4 = 0 -> 0 <= Int32.toInt (aAy k) /\ Int32.toInt (aAy k) <= 99) -> (∀ k : Nat, k % 4 = 1 -> 0 <= Int32.toInt (aAy k) /\ Int32.toInt (aAy k) <= 99) -> (∀ k : Nat, k % 4 = 2 -> 0 <= Int32.toInt (aAy k) /\ Int32.toInt (aAy k) <= 9) -> (∀ k : Nat, k % 4 = 3 -> 0 <= Int32.toInt (aAy k) /\ Int32.toInt (aAy k) <= 9) -> (∀ k : Nat, 0 <= Int32.toInt (aAy k) /\ Int32.toInt (aAy k) <= 99) -> (∀ k : Nat, 0 <= Int32.toInt (aCh k) /\ Int32.toInt (aCh k) <= 99) -> (Int32.toInt aJ1 <= Int32.toInt aEx) -> post r aLD aEx aBT xG aAP zS aAz aAm zH aCP aB2 aBI m_came' aBf m_x' aLE aF6 aUr aUp aUq aAy aCh) (hKn : ∀ (x2 : Int32) (bT : Int32) (aG : Int32) (jC : Int32) (bY : Int32) (jD : Nat) (mLn : Int32) (oF : Int32) (rP : Int32) (dQ : Int32) (aJ : Int32) (aB : Int32) (bU : Int32) (oX : Int32) (qG : Nat -> Int32) (m_x : Nat -> Int32) (gR : Nat -> Int32) (pW : Nat -> Int32) (qR : Nat -> Int32) (nG : Nat -> Int32) (oO : Nat -> Int32) (qT : Nat -> Int32) (qA : Nat -> Int32), (0 <= Int32.toInt x2 /\ Int32.toInt x2 <= 8) -> (0 <= Int32.toInt bT /\ Int32.toInt bT <= 16) -> (0 <= Int32.toInt aG /\ Int32.toInt aG <= 8) -> (0 <= Int32.toInt jC /\ Int32.toInt jC <= 0) -> (0 <= Int32.toInt bY /\ Int32.toInt bY <= 0) -> (jD = 1) -> (1 <= Int32.toInt mLn /\ Int32.toInt mLn <= 80) -> (76 <= Int32.toInt oF /\ Int32.toInt oF <= 76) -> (0 <= Int32.toInt rP /\ Int32.toInt rP <= 80) -> (-1 <= Int32.toInt dQ /\ Int32.toInt dQ <= -1) -> (0 <= Int32.toInt aJ /\ Int32.toInt aJ <= 16) -> (0 <= Int32.toInt aB /\ Int32.toInt aB <= 8) -> (0 <= Int32.toInt bU /\ Int32.toInt bU <= 12) -> (∀ k : Nat, k = 17 -> -1 <= Int32.toInt (qG k) /\ Int32.toInt (qG k) <= SB) -> (∀ k : Nat, k = 19 -> 0 <= Int32.toInt (qG k) /\ Int32.toInt (qG k) <= 9) -> (∀ k : Nat, 0 <= Int32.toInt (m_x k) /\ Int32.toInt (m_x k) <= 99) -> (∀ k : Nat, 0 <= Int32.toInt (gR k) /\ Int32.toInt (gR k) <= 99) -> (∀ k : Nat, 0 <= Int32.toInt (pW k) /\ Int32.toInt (pW k) <= 9) -> (∀ k : Nat, 0 <= Int32.toInt (qR k) /\ Int32.toInt (qR k) <= 9) -> (∀ k : Nat, 0 <= Int32.toInt (nG k) /\ Int32.toInt (nG k) <= 99) -> (∀ k : Nat, 0 <= Int32.toInt (oO k) /\ Int32.toInt (oO k) <= 99) -> (∀ k : Nat, k % 4 = 0 -> 0 <= Int32.toInt (qT k) /\ Int32.toInt (qT k) <= 99) -> (∀ k : Nat, k % 4 = 1 -> 0 <= Int32.toInt (qT k) /\ Int32.toInt (qT k) <= 99) -> (∀ k : Nat, k % 4 = 2 -> 0 <= Int32.toInt (qT k) /\ Int32.toInt (qT k) <= 9) -> (∀ k : Nat, k % 4 = 3 -> 0 <= Int32.toInt (qT k) /\ Int32.toInt (qT k) <= 9) -> (∀ k : Nat, 0 <= Int32.toInt (qT k) /\ Int32.toInt (qT k) <= 99) -> (∀ k : Nat, 0 <= Int32.toInt (qA k) /\ Int32.toInt (qA k) <= 99) -> (Int32.toInt aG + Int32.toInt aB - Int32.toInt x2 <= 8) -> (Int32.toInt aJ1 <= Int32.toInt aG) -> (8 - Int32.toInt x2 < n215) -> next x2 bT aG jC bY jD mLn oF rP dQ aJ aB bU oX qG m_x gR pW qR nG oO qT qA) (x2 bT aG jC bY : Int32) (jD : Nat) (mLn oF rP dQ aJ aB bU oX : Int32) (qG m_x gR pW qR nG oO qT qA : Nat -> Int32) (aBN : 0 <= Int32.toInt x2 /\ Int32.toInt x2 <= 8) (xJ : 0 <= Int32.toInt bT /\ Int32.toInt bT <= 16) (vZ : 0 <= Int32.toInt aG /\ Int32.toInt aG <= 8) (aA4 : 0 <= Int32.toInt jC /\ Int32.toInt jC <= 0) (yG : 0 <= Int32.toInt bY /\ Int32.toInt bY <= 0) (yM : jD = 1) (zE : 1 <= Int32.toInt mLn /\ Int32.toInt mLn <= 80) (aAR : 76 <= Int32.toInt oF /\ Int32.toInt oF <= 76) (aA1 : 0 <= Int32.toInt rP /\ Int32.toInt rP <= 80) (aAA : -1 <= Int32.toInt dQ /\ Int32.toInt dQ <= -1) (aAb : 0 <= Int32.toInt aJ /\ Int32.toInt aJ <= 16) (aAJ : 0 <= Int32.toInt aB /\ Int32.toInt aB <= 8) (aAZ : 0 <= Int32.toInt bU /\ Int32.toInt bU <= 12) (xU : ∀ k : Nat, k = 17 -> -1 <= Int32.toInt (qG k) /\ Int32.toInt (qG k) <= SB) (xV : ∀ k : Nat, k = 19 -> 0 <= Int32.toInt (qG k) /\ Int32.toInt (qG k) <= 9) (aAW : ∀ k : Nat, 0 <= Int32.toInt (m_x k) /\ Int32.toInt (m_x k) <= 99) (xK : ∀ k : Nat, 0 <= Int32.toInt (gR k) /\ Int32.toInt (gR k) <= 99) (yR : ∀ k : Nat, 0 <= Int32.toInt (pW k) /\ Int32.toInt (pW k) <= 9) (zM : ∀ k : Nat, 0 <= Int32.toInt (qR k) /\ Int32.toInt (qR k) <= 9) (xT : ∀ k : Nat, 0 <= Int32.toInt (nG k) /\ Int32.toInt (nG k) <= 99) (yF : ∀ k : Nat, 0 <= Int32.toInt (oO k) /\ Int32.toInt (oO k) <= 99) (aAe : ∀ k : Nat, k % 4 = 0 -> 0 <= Int32.toInt (qT k) /\ Int32.toInt (qT k) <= 99) (aAf : ∀ k : Nat, k % 4 = 1 -> 0 <= Int32.toInt (qT k) /\ Int32.toInt (qT k) <= 99) (aAg : ∀ k : Nat, k % 4 = 2 -> 0 <= Int32.toInt (qT k) /\ Int32.toInt (qT k) <= 9) (aAh : ∀ k : Nat, k % 4 = 3 -> 0 <= Int32.toInt (qT k) /\ Int32.toInt (qT k) <= 9) (aAx : ∀ k : Nat, 0 <= Int32.toInt (qT k) /\ Int32.toInt (qT k) <= 99) (aAN : ∀ k : Nat, 0 <= Int32.toInt (qA k) /\ Int32.toInt (qA k) <= 99) (hx0 : Int32.toInt aG + Int32.toInt aB - Int32.toInt x2 <= 8) (hx1 : Int32.toInt aJ1 <= Int32.toInt aG) (hn215 : 8 - Int32.toInt x2 <= n215) : ws_X10_orchard_215 post next qO qQ x2 bT aG jC bY jD mLn oF rP dQ aJ aB bU oX qG m_x gR pW qR nG oO qT qA := by
  have l0 := aE0
  have l1 := aEc
  have l2 := li_2
  refine And.intro (fun c1 => ?_) (fun c1 => ?_)
  · skip
    have c1 := (aAO _ _).mp c1
    intro v2 ev2
    have hv2 := congrArg Int32.toInt ev2
    have f4 : Int32.toInt (aJ + aB) = Int32.toInt aJ + Int32.toInt aB := aAD _ _ (by omega)
    exact hpost _ _ _ _ _ _ _ _ _ _ _ _ _ _ _ _ _ _ _ _ _ _ _ (by omega) xJ vZ aA4 yG yM (by omega) aAR aA1 (by omega) aAb aAJ (by omega) xU xV aAW xK yR zM xT yF aAe aAf aAg aAh aAx aAN (by omega)
  · skip
    have c1 := mt (aAO _ _).mpr c1
    intro v5 ev5
    have f6 : Int32.toInt (2 * x2) = Int32.toInt x2 * 2 := ta_cmul _ _ (by decide) (by omega)
    rw [<- ev5] at f6
    refine And.intro (aBZ (by omega)) ?_
    intro v7 ev7
    have f8 := aAN v5.toNatClampNeg
    have hv7 := congrArg Int32.toInt ev7
    refine And.intro (aBZ (by omega)) ?_
    have a9 : ∀ k : Nat, 0 <= Int32.toInt ((upd nG aG.toNatClampNeg v7) k) /\ Int32.toInt ((upd nG aG.toNatClampNeg v7) k) <= 99 := t_upd (fun k => by have q9 := xT k; omega) (by omega)
    intro v10 ev10
    have hv10 := congrArg Int32.toInt (ev10.trans ev5.symm)
    intro v11 ev11
    have f12 : Int32.toInt (v10 + 1) = Int32.toInt v10 + Int32.toInt (1 : Int32) := aAD _ _ (by omega)
    rw [<- ev11] at f12
    refine And.intro (aBZ (by omega)) ?_
    intro v13 ev13
    have f14 := aAN v11.toNatClampNeg
    have hv13 := congrArg Int32.toInt ev13
    refine And.intro (aBZ (by omega)) ?_
    have a15 : ∀ k : Nat, 0 <= Int32.toInt ((upd oO aG.toNatClampNeg v13) k) /\ Int32.toInt ((upd oO aG.toNatClampNeg v13) k) <= 99 := t_upd (fun k => by have q9 := yF k; omega) (by omega)
    intro v16 ev16
    have f17 : Int32.toInt (aG + 1) = Int32.toInt aG + Int32.toInt (1 : Int32) := aAD _ _ (by omega)
    rw [<- ev16] at f17
    intro v18 ev18
    have f19 : Int32.toInt (x2 + 1) = Int32.toInt x2 + Int32.toInt (1 : Int32) := aAD _ _ (by omega)
    rw [<- ev18] at f19
    have f20 := aAT oX
    exact hKn v18 bT v16 jC bY jD mLn oF rP dQ aJ aB bU oX qG m_x gR pW qR (upd nG aG.toNatClampNeg v7) (upd oO aG.toNatClampNeg v13) qT qA (by omega) xJ (by omega) aA4 yG yM zE aAR aA1 aAA aAb aAJ aAZ xU xV aAW xK yR zM (fun k => by have q9 := a9 k; omega) (fun k => by have q9 := a15 k; omega) aAe aAf aAg aAh aAx aAN (by omega) (by omega) (by omega)
set_option maxHeartbeats 8000000 in
set_option maxRecDepth 200000 in
theorem tb_X10_orchard_215 {post : Int32 -> Int32 -> Int32 -> Int32 -> Int32 -> Nat -> Int32 -> Int32 -> Int32 -> Int32 -> Int32 -> Int32 -> Int32 -> Int32 -> (Nat -> Int32) -> (Nat -> Int32) -> (Nat -> Int32) -> (Nat -> Int32) -> (Nat -> Int32) -> (Nat -> Int32) -> (Nat -> Int32) -> (Nat -> Int32) -> (Nat -> Int32) -> Prop} {SB : Int} {aJ1 : Int32} (qO qQ : Nat -> Int32) (zG : ∀ k : Nat, -128 <= Int32.toInt (qO k) /\ Int32.toInt (qO k) <= 127) (zI : ∀ k : Nat, -128 <= Int32.toInt (qQ k) /\ Int32.toInt (qQ k) <= 127) (hc0 : -1 <= SB /\ SB <= 7) (hpost : ∀ (r : Int32) (aLD : Int32) (aEx : Int32) (aBT : Int32) (xG : Int32) (aAP : Nat) (zS : Int32) (aAz : Int32) (aAm : Int32) (zH : Int32) (aCP : Int32) (aB2 : Int32) (aBI : Int32) (m_came' : Int32) (aBf : Nat -> Int32) (m_x' : Nat -> Int32) (aLE : Nat -> Int32) (aF6 : Nat -> Int32) (aUr : Nat -> Int32) (aUp : Nat -> Int32) (aUq : Nat -> Int32) (aAy : Nat -> Int32) (aCh : Nat -> Int32), (-100 <= Int32.toInt r /\ Int32.toInt r <= 24) -> (0 <= Int32.toInt aLD /\ Int32.toInt aLD <= 16) -> (0 <= Int32.toInt aEx /\ Int32.toInt aEx <= 8) -> (0 <= Int32.toInt aBT /\ Int32.toInt aBT <= 0) -> (0 <= Int32.toInt xG /\ Int32.toInt xG <= 0) -> (aAP = 1) -> (0 <= Int32.toInt zS /\ Int32.toInt zS <= 80) -> (76 <= Int32.toInt aAz /\ Int32.toInt aAz <= 76) -> (0 <= Int32.toInt aAm /\ Int32.toInt aAm <= 80) -> (-1 <= Int32.toInt zH /\ Int32.toInt zH <= 80) -> (0 <= Int32.toInt aCP /\ Int32.toInt aCP <= 16) -> (0 <= Int32.toInt aB2 /\ Int32.toInt aB2 <= 8) -> (0 <= Int32.toInt aBI /\ Int32.toInt aBI <= 12) -> (∀ k : Nat, k = 17 -> -1 <= Int32.toInt (aBf k) /\ Int32.toInt (aBf k) <= SB) -> (∀ k : Nat, k = 19 -> 0 <= Int32.toInt (aBf k) /\ Int32.toInt (aBf k) <= 9) -> (∀ k : Nat, 0 <= Int32.toInt (m_x' k) /\ Int32.toInt (m_x' k) <= 99) -> (∀ k : Nat, 0 <= Int32.toInt (aLE k) /\ Int32.toInt (aLE k) <= 99) -> (∀ k : Nat, 0 <= Int32.toInt (aF6 k) /\ Int32.toInt (aF6 k) <= 9) -> (∀ k : Nat, 0 <= Int32.toInt (aUr k) /\ Int32.toInt (aUr k) <= 9) -> (∀ k : Nat, 0 <= Int32.toInt (aUp k) /\ Int32.toInt (aUp k) <= 99) -> (∀ k : Nat, 0 <= Int32.toInt (aUq k) /\ Int32.toInt (aUq k) <= 99) -> (∀ k : Nat, k % 4 = 0 -> 0 <= Int32.toInt (aAy k) /\ Int32.toInt (aAy k) <= 99) -> (∀ k : Nat, k % 4 = 1 -> 0 <= Int32.toInt (aAy k) /\ Int32.toInt (aAy k) <= 99) -> (∀ k : Nat, k % 4 = 2 -> 0 <= Int32.toInt (aAy k) /\ Int32.toInt (aAy k) <= 9) -> (∀ k : Nat, k % 4 = 3 -> 0 <= Int32.toInt (aAy k) /\ Int32.toInt (aAy k) <= 9) -> (∀ k : Nat, 0 <= Int32.toInt (aAy k) /\ Int32.toInt (aAy k) <= 99) -> (∀ k : Nat, 0 <= Int32.toInt (aCh k) /\ Int32.toInt (aCh k) <= 99) -> (Int32.toInt aJ1 <= Int32.toInt aEx) -> post r aLD aEx aBT xG aAP zS aAz aAm zH aCP aB2 aBI m_came' aBf m_x' aLE aF6 aUr aUp aUq aAy aCh) : ∀ (n : Nat) (x2 bT aG jC bY : Int32) (jD : Nat) (mLn oF rP dQ aJ aB bU oX : Int32) (qG m_x gR pW qR nG oO qT qA : Nat -> Int32), (0 <= Int32.toInt x2 /\ Int32.toInt x2 <= 8) -> (0 <= Int32.toInt bT /\ Int32.toInt bT <= 16) -> (0 <= Int32.toInt aG /\ Int32.toInt aG <= 8) -> (0 <= Int32.toInt jC /\ Int32.toInt jC <= 0) -> (0 <= Int32.toInt bY /\ Int32.toInt bY <= 0) -> (jD = 1) -> (1 <= Int32.toInt mLn /\ Int32.toInt mLn <= 80) -> (76 <= Int32.toInt oF /\ Int32.toInt oF <= 76) -> (0 <= Int32.toInt rP /\ Int32.toInt rP <= 80) -> (-1 <= Int32.toInt dQ /\ Int32.toInt dQ <= -1) -> (0 <= Int32.toInt aJ /\ Int32.toInt aJ <= 16) -> (0 <= Int32.toInt aB /\ Int32.toInt aB <= 8) -> (0 <= Int32.toInt bU /\ Int32.toInt bU <= 12) -> (∀ k : Nat, k = 17 -> -1 <= Int32.toInt (qG k) /\ Int32.toInt (qG k) <= SB) -> (∀ k : Nat, k = 19 -> 0 <= Int32.toInt (qG k) /\ Int32.toInt (qG k) <= 9) -> (∀ k : Nat, 0 <= Int32.toInt (m_x k) /\ Int32.toInt (m_x k) <= 99) -> (∀ k : Nat, 0 <= Int32.toInt (gR k) /\ Int32.toInt (gR k) <= 99) -> (∀ k : Nat, 0 <= Int32.toInt (pW k) /\ Int32.toInt (pW k) <= 9) -> (∀ k : Nat, 0 <= Int32.toInt (qR k) /\ Int32.toInt (qR k) <= 9) -> (∀ k : Nat, 0 <= Int32.toInt (nG k) /\ Int32.toInt (nG k) <= 99) -> (∀ k : Nat, 0 <= Int32.toInt (oO k) /\ Int32.toInt (oO k) <= 99) -> (∀ k : Nat, k % 4 = 0 -> 0 <= Int32.toInt (qT k) /\ Int32.toInt (qT k) <= 99) -> (∀ k : Nat, k % 4 = 1 -> 0 <= Int32.toInt (qT k) /\ Int32.toInt (qT k) <= 99) -> (∀ k : Nat, k % 4 = 2 -> 0 <= Int32.toInt (qT k) /\ Int32.toInt (qT k) <= 9) -> (∀ k : Nat, k % 4 = 3 -> 0 <= Int32.toInt (qT k) /\ Int32.toInt (qT k) <= 9) -> (∀ k : Nat, 0 <= Int32.toInt (qT k) /\ Int32.toInt (qT k) <= 99) -> (∀ k : Nat, 0 <= Int32.toInt (qA k) /\ Int32.toInt (qA k) <= 99) -> (Int32.toInt aG + Int32.toInt aB - Int32.toInt x2 <= 8) -> (Int32.toInt aJ1 <= Int32.toInt aG) -> (8 - Int32.toInt x2 < (n : Int)) -> aYf post qO qQ n x2 bT aG jC bY jD mLn oF rP dQ aJ aB bU oX qG m_x gR pW qR nG oO qT qA := by
  intro n
  induction n with
  | zero =>
    intro x2 bT aG jC bY jD mLn oF rP dQ aJ aB bU oX qG m_x gR pW qR nG oO qT qA aBN xJ vZ aA4 yG yM zE aAR aA1 aAA aAb aAJ aAZ xU xV aAW xK yR zM xT yF aAe aAf aAg aAh aAx aAN hx0 hx1 hm
    exfalso; omega
  | succ n ih =>
    intro x2 bT aG jC bY jD mLn oF rP dQ aJ aB bU oX qG m_x gR pW qR nG oO qT qA aBN xJ vZ aA4 yG yM zE aAR aA1 aAA aAb aAJ aAZ xU xV aAW xK yR zM xT yF aAe aAf aAg aAh aAx aAN hx0 hx1 hm
    exact ts_X10_orchard_215 qO qQ zG zI hc0 hpost ih x2 bT aG jC bY jD mLn oF rP dQ aJ aB bU oX qG m_x gR pW qR nG oO qT qA aBN xJ vZ aA4 yG yM zE aAR aA1 aAA aAb aAJ aAZ xU xV aAW xK yR zM xT yF aAe aAf aAg aAh aAx aAN hx0 hx1 (by omega)
set_option maxHeartbeats 8000000 in
set_option maxRecDepth 200000 in
theorem ts_X10_orchard_105 {post : Int32 -> Int32 -> Int32 -> Int32 -> Int32 -> Nat -> Int32 -> Int32 -> Int32 -> Int32 -> Int32 -> Int32 -> Int32 -> Int32 -> (Nat -> Int32) -> (Nat -> Int32) -> (Nat -> Int32) -> (Nat -> Int32) -> (Nat -> Int32) -> (Nat -> Int32) -> (Nat -> Int32) -> (Nat -> Int32) -> (Nat -> Int32) -> Prop} {SB : Int} {aJ1 : Int32} {next : Int32 -> Int32 -> Int32 -> Int32 -> Int32 -> Nat -> Int32 -> Int32 -> Int32 -> Int32 -> Int32 -> Int32 -> Int32 -> Int32 -> (Nat -> Int32) -> (Nat -> Int32) -> (Nat -> Int32) -> (Nat -> Int32) -> (Nat -> Int32) -> (Nat -> Int32) -> (Nat -> Int32) -> (Nat -> Int32) -> (Nat -> Int32) -> Prop} {n105 : Int} (qO qQ : Nat -> Int32) (zG : ∀ k : Nat, -128 <= Int32.toInt (qO k) /\ Int32.toInt (qO k) <= 127) (zI : ∀ k : Nat, -128 <= Int32.toInt (qQ k) /\ Int32.toInt (qQ k) <= 127) (hc0 : -1 <= SB /\ SB <= 7) (hpost : ∀ (r : Int32) (aLD : Int32) (aEx : Int32) (aBT : Int32) (xG : Int32) (aAP : Nat) (zS : Int32) (aAz : Int32) (aAm : Int32) (zH : Int32) (aCP : Int32) (aB2 : Int32) (aBI : Int32) (m_came' : Int32) (aBf : Nat -> Int32) (m_x' : Nat -> Int32) (aLE : Nat -> Int32) (aF6 : Nat -> Int32) (aUr : Nat -> Int32) (aUp : Nat -> Int32) (aUq : Nat -> Int32) (aAy : Nat -> Int32) (aCh : Nat -> Int32), (-100 <= Int32.toInt r /\ Int32.toInt r <= 24) -> (0 <= Int32.toInt aLD /\ Int32.toInt aLD <= 16) -> (0 <= Int32.toInt aEx /\ Int32.toInt aEx <= 8) -> (0 <= Int32.toInt aBT /\ Int32.toInt aBT <= 0) -> (0 <= Int32.toInt xG /\ Int32.toInt xG <= 0) -> (aAP = 1) -> (0 <= Int32.toInt zS /\ Int32.toInt zS <= 80) -> (76 <= Int32.toInt aAz /\ Int32.toInt aAz <= 76) -> (0 <= Int32.toInt aAm /\ Int32.toInt aAm <= 80) -> (-1 <= Int32.toInt zH /\ Int32.toInt zH <= 80) -> (0 <= Int32.toInt aCP /\ Int32.toInt aCP <= 16) -> (0 <= Int32.toInt aB2 /\ Int32.toInt aB2 <= 8) -> (0 <= Int32.toInt aBI /\ Int32.toInt aBI <= 12) -> (∀ k : Nat, k = 17 -> -1 <= Int32.toInt (aBf k) /\ Int32.toInt (aBf k) <= SB) -> (∀ k : Nat, k = 19 -> 0 <= Int32.toInt (aBf k) /\ Int32.toInt (aBf k) <= 9) -> (∀ k : Nat, 0 <= Int32.toInt (m_x' k) /\ Int32.toInt (m_x' k) <= 99) -> (∀ k : Nat, 0 <= Int32.toInt (aLE k) /\ Int32.toInt (aLE k) <= 99) -> (∀ k : Nat, 0 <= Int32.toInt (aF6 k) /\ Int32.toInt (aF6 k) <= 9) -> (∀ k : Nat, 0 <= Int32.toInt (aUr k) /\ Int32.toInt (aUr k) <= 9) -> (∀ k : Nat, 0 <= Int32.toInt (aUp k) /\ Int32.toInt (aUp k) <= 99) -> (∀ k : Nat, 0 <= Int32.toInt (aUq k) /\ Int32.toInt (aUq k) <= 99) -> (∀ k : Nat, k % 4 = 0 -> 0 <= Int32.toInt (aAy k) /\ Int32.toInt (aAy k) <= 99) -> (∀ k : Nat, k % 4 = 1 -> 0 <= Int32.toInt (aAy k) /\ Int32.toInt (aAy k) <= 99) -> (∀ k : Nat, k % 4 = 2 -> 0 <= Int32.toInt (aAy k) /\ Int32.toInt (aAy k) <= 9) -> (∀ k : Nat, k % 4 = 3 -> 0 <= Int32.toInt (aAy k) /\ Int32.toInt (aAy k) <= 9) -> (∀ k : Nat, 0 <= Int32.toInt (aAy k) /\ Int32.toInt (aAy k) <= 99) -> (∀ k : Nat, 0 <= Int32.toInt (aCh k) /\ Int32.toInt (aCh k) <= 99) -> (Int32.toInt aJ1 <= Int32.toInt aEx) -> post r aLD aEx aBT xG aAP zS aAz aAm zH aCP aB2 aBI m_came' aBf m_x' aLE aF6 aUr aUp aUq aAy aCh) (hKn : ∀ (x2 : Int32) (bT : Int32) (aG : Int32) (jC : Int32) (bY : Int32) (jD : Nat) (mLn : Int32) (oF : Int32) (rP : Int32) (dQ : Int32) (aJ : Int32) (aB : Int32) (bU : Int32) (oX : Int32) (qG : Nat -> Int32) (m_x : Nat -> Int32) (gR : Nat -> Int32) (pW : Nat -> Int32) (qR : Nat -> Int32) (nG : Nat -> Int32) (oO : Nat -> Int32) (qT : Nat -> Int32) (qA : Nat -> Int32), (0 <= Int32.toInt x2 /\ Int32.toInt x2 <= 16) -> (0 <= Int32.toInt bT /\ Int32.toInt bT <= 16) -> (0 <= Int32.toInt aG /\ Int32.toInt aG <= 8) -> (0 <= Int32.toInt jC /\ Int32.toInt jC <= 0) -> (0 <= Int32.toInt bY /\ Int32.toInt bY <= 0) -> (jD = 1) -> (1 <= Int32.toInt mLn /\ Int32.toInt mLn <= 80) -> (76 <= Int32.toInt oF /\ Int32.toInt oF <= 76) -> (0 <= Int32.toInt rP /\ Int32.toInt rP <= 80) -> (-1 <= Int32.toInt dQ /\ Int32.toInt dQ <= -1) -> (0 <= Int32.toInt aJ /\ Int32.toInt aJ <= 16) -> (0 <= Int32.toInt aB /\ Int32.toInt aB <= 8) -> (0 <= Int32.toInt bU /\ Int32.toInt bU <= 12) -> (∀ k : Nat, k = 17 -> -1 <= Int32.toInt (qG k) /\ Int32.toInt (qG k) <= SB) -> (∀ k : Nat, k = 19 -> 0 <= Int32.toInt (qG k) /\ Int32.toInt (qG k) <= 9) -> (∀ k : Nat, 0 <= Int32.toInt (m_x k) /\ Int32.toInt (m_x k) <= 99) -> (∀ k : Nat, 0 <= Int32.toInt (gR k) /\ Int32.toInt (gR k) <= 99) -> (∀ k : Nat, 0 <= Int32.toInt (pW k) /\ Int32.toInt (pW k) <= 9) -> (∀ k : Nat, 0 <= Int32.toInt (qR k) /\ Int32.toInt (qR k) <= 9) -> (∀ k : Nat, 0 <= Int32.toInt (nG k) /\ Int32.toInt (nG k) <= 99) -> (∀ k : Nat, 0 <= Int32.toInt (oO k) /\ Int32.toInt (oO k) <= 99) -> (∀ k : Nat, k % 4 = 0 -> 0 <= Int32.toInt (qT k) /\ Int32.toInt (qT k) <= 99) -> (∀ k : Nat, k % 4 = 1 -> 0 <= Int32.toInt (qT k) /\ Int32.toInt (qT k) <= 99) -> (∀ k : Nat, k % 4 = 2 -> 0 <= Int32.toInt (qT k) /\ Int32.toInt (qT k) <= 9) -> (∀ k : Nat, k % 4 = 3 -> 0 <= Int32.toInt (qT k) /\ Int32.toInt (qT k) <= 9) -> (∀ k : Nat, 0 <= Int32.toInt (qT k) /\ Int32.toInt (qT k) <= 99) -> (∀ k : Nat, 0 <= Int32.toInt (qA k) /\ Int32.toInt (qA k) <= 99) -> (Int32.toInt bT + Int32.toInt aJ - Int32.toInt x2 <= 16) -> (Int32.toInt aG + Int32.toInt aB <= 8) -> (Int32.toInt aJ1 <= Int32.toInt aG) -> (16 - Int32.toInt x2 < n105) -> next x2 bT aG jC bY jD mLn oF rP dQ aJ aB bU oX qG m_x gR pW qR nG oO qT qA) (x2 bT aG jC bY : Int32) (jD : Nat) (mLn oF rP dQ aJ aB bU oX : Int32) (qG m_x gR pW qR nG oO qT qA : Nat -> Int32) (aBN : 0 <= Int32.toInt x2 /\ Int32.toInt x2 <= 16) (xJ : 0 <= Int32.toInt bT /\ Int32.toInt bT <= 16) (vZ : 0 <= Int32.toInt aG /\ Int32.toInt aG <= 8) (aA4 : 0 <= Int32.toInt jC /\ Int32.toInt jC <= 0) (yG : 0 <= Int32.toInt bY /\ Int32.toInt bY <= 0) (yM : jD = 1) (zE : 1 <= Int32.toInt mLn /\ Int32.toInt mLn <= 80) (aAR : 76 <= Int32.toInt oF /\ Int32.toInt oF <= 76) (aA1 : 0 <= Int32.toInt rP /\ Int32.toInt rP <= 80) (aAA : -1 <= Int32.toInt dQ /\ Int32.toInt dQ <= -1) (aAb : 0 <= Int32.toInt aJ /\ Int32.toInt aJ <= 16) (aAJ : 0 <= Int32.toInt aB /\ Int32.toInt aB <= 8) (aAZ : 0 <= Int32.toInt bU /\ Int32.toInt bU <= 12) (xU : ∀ k : Nat, k = 17 -> -1 <= Int32.toInt (qG k) /\ Int32.toInt (qG k) <= SB) (xV : ∀ k : Nat, k = 19 -> 0 <= Int32.toInt (qG k) /\ Int32.toInt (qG k) <= 9) (aAW : ∀ k : Nat, 0 <= Int32.toInt (m_x k) /\ Int32.toInt (m_x k) <= 99) (xK : ∀ k : Nat, 0 <= Int32.toInt (gR k) /\ Int32.toInt (gR k) <= 99) (yR : ∀ k : Nat, 0 <= Int32.toInt (pW k) /\ Int32.toInt (pW k) <= 9) (zM : ∀ k : Nat, 0 <= Int32.toInt (qR k) /\ Int32.toInt (qR k) <= 9) (xT : ∀ k : Nat, 0 <= Int32.toInt (nG k) /\ Int32.toInt (nG k) <= 99) (yF : ∀ k : Nat, 0 <= Int32.toInt (oO k) /\ Int32.toInt (oO k) <= 99) (aAe : ∀ k : Nat, k % 4 = 0 -> 0 <= Int32.toInt (qT k) /\ Int32.toInt (qT k) <= 99) (aAf : ∀ k : Nat, k % 4 = 1 -> 0 <= Int32.toInt (qT k) /\ Int32.toInt (qT k) <= 99) (aAg : ∀ k : Nat, k % 4 = 2 -> 0 <= Int32.toInt (qT k) /\ Int32.toInt (qT k) <= 9) (aAh : ∀ k : Nat, k % 4 = 3 -> 0 <= Int32.toInt (qT k) /\ Int32.toInt (qT k) <= 9) (aAx : ∀ k : Nat, 0 <= Int32.toInt (qT k) /\ Int32.toInt (qT k) <= 99) (aAN : ∀ k : Nat, 0 <= Int32.toInt (qA k) /\ Int32.toInt (qA k) <= 99) (hx0 : Int32.toInt bT + Int32.toInt aJ - Int32.toInt x2 <= 16) (hx1 : Int32.toInt aG + Int32.toInt aB <= 8) (hx2 : Int32.toInt aJ1 <= Int32.toInt aG) (hn105 : 16 - Int32.toInt x2 <= n105) : ws_X10_orchard_105 post next qO qQ x2 bT aG jC bY jD mLn oF rP dQ aJ aB bU oX qG m_x gR pW qR nG oO qT qA := by
  have l0 := aE0
  have l1 := aEc
  have l2 := li_2
  have l3 := li_3
  have l4 := li_4
  refine And.intro (fun c21 => ?_) (fun c21 => ?_)
  · skip
    have c21 := (aAO _ _).mp c21
    have f22 := aAT oX
    exact ⟨10, tb_X10_orchard_215 qO qQ zG zI hc0 hpost _ 0 bT aG jC bY jD mLn oF rP dQ aJ aB bU oX qG m_x gR pW qR nG oO qT qA (by omega) xJ vZ aA4 yG yM zE aAR aA1 aAA aAb aAJ aAZ xU xV aAW xK yR zM xT yF aAe aAf aAg aAh aAx aAN (by omega) hx2 (by omega)⟩
  · skip
    have c21 := mt (aAO _ _).mpr c21
    intro v23 ev23
    have f24 : Int32.toInt (4 * x2) = Int32.toInt x2 * 4 := ta_cmul _ _ (by decide) (by omega)
    rw [<- ev23] at f24
    refine And.intro (aBZ (by omega)) ?_
    have q25 := aAe v23.toNatClampNeg (by have e9 : v23.toNatClampNeg = (Int32.toInt v23).toNat := rfl; omega)
    intro v26 ev26
    have hv26 := congrArg Int32.toInt ev26
    refine And.intro (aBZ (by omega)) ?_
    have a28 : ∀ k : Nat, 0 <= Int32.toInt ((upd m_x bT.toNatClampNeg v26) k) /\ Int32.toInt ((upd m_x bT.toNatClampNeg v26) k) <= 99 := t_upd (fun k => by have q9 := aAW k; omega) (by omega)
    intro v29 ev29
    have hv29 := congrArg Int32.toInt (ev29.trans ev23.symm)
    intro v30 ev30
    have f31 : Int32.toInt (v29 + 1) = Int32.toInt v29 + Int32.toInt (1 : Int32) := aAD _ _ (by omega)
    rw [<- ev30] at f31
    refine And.intro (aBZ (by omega)) ?_
    have q32 := aAf v30.toNatClampNeg (by have e9 : v30.toNatClampNeg = (Int32.toInt v30).toNat := rfl; omega)
    intro v33 ev33
    have hv33 := congrArg Int32.toInt ev33
    refine And.intro (aBZ (by omega)) ?_
    have a35 : ∀ k : Nat, 0 <= Int32.toInt ((upd gR bT.toNatClampNeg v33) k) /\ Int32.toInt ((upd gR bT.toNatClampNeg v33) k) <= 99 := t_upd (fun k => by have q9 := xK k; omega) (by omega)
    intro v36 ev36
    have hv36 := congrArg Int32.toInt (ev36.trans ev23.symm)
    intro v37 ev37
    have f38 : Int32.toInt (v36 + 2) = Int32.toInt v36 + Int32.toInt (2 : Int32) := aAD _ _ (by omega)
    rw [<- ev37] at f38
    refine And.intro (aBZ (by omega)) ?_
    have q39 := aAg v37.toNatClampNeg (by have e9 : v37.toNatClampNeg = (Int32.toInt v37).toNat := rfl; omega)
    intro v40 ev40
    have hv40 := congrArg Int32.toInt ev40
    refine And.intro (aBZ (by omega)) ?_
    have a42 : ∀ k : Nat, 0 <= Int32.toInt ((upd pW bT.toNatClampNeg v40) k) /\ Int32.toInt ((upd pW bT.toNatClampNeg v40) k) <= 9 := t_upd (fun k => by have q9 := yR k; omega) (by omega)
    intro v43 ev43
    have hv43 := congrArg Int32.toInt (ev43.trans ev23.symm)
    intro v44 ev44
    have f45 : Int32.toInt (v43 + 3) = Int32.toInt v43 + Int32.toInt (3 : Int32) := aAD _ _ (by omega)
    rw [<- ev44] at f45
    refine And.intro (aBZ (by omega)) ?_
    have q46 := aAh v44.toNatClampNeg (by have e9 : v44.toNatClampNeg = (Int32.toInt v44).toNat := rfl; omega)
    intro v47 ev47
    have hv47 := congrArg Int32.toInt ev47
    refine And.intro (aBZ (by omega)) ?_
    have a49 : ∀ k : Nat, 0 <= Int32.toInt ((upd qR bT.toNatClampNeg v47) k) /\ Int32.toInt ((upd qR bT.toNatClampNeg v47) k) <= 9 := t_upd (fun k => by have q9 := zM k; omega) (by omega)
    refine And.intro (aBZ (by omega)) ?_
    have e50 : ∀ k : Nat, k = 17 -> -1 <= Int32.toInt ((upd qG bT.toNatClampNeg 0) k) /\ Int32.toInt ((upd qG bT.toNatClampNeg 0) k) <= SB := aCJ (C := fun k => k = 17) xU (fun hk => by have e9 : bT.toNatClampNeg = (Int32.toInt bT).toNat := rfl; have hk : bT.toNatClampNeg = 17 := hk; omega)
    have e51 : ∀ k : Nat, k = 19 -> 0 <= Int32.toInt ((upd qG bT.toNatClampNeg 0) k) /\ Int32.toInt ((upd qG bT.toNatClampNeg 0) k) <= 9 := aCJ (C := fun k => k = 19) xV (fun hk => by have e9 : bT.toNatClampNeg = (Int32.toInt bT).toNat := rfl; have hk : bT.toNatClampNeg = 19 := hk; omega)
    intro v52 ev52
    have f53 : Int32.toInt (bT + 1) = Int32.toInt bT + Int32.toInt (1 : Int32) := aAD _ _ (by omega)
    rw [<- ev52] at f53
    intro v54 ev54
    have f55 : Int32.toInt (x2 + 1) = Int32.toInt x2 + Int32.toInt (1 : Int32) := aAD _ _ (by omega)
    rw [<- ev54] at f55
    have f56 := aAT oX
    exact hKn v54 v52 aG jC bY jD mLn oF rP dQ aJ aB bU oX (upd qG bT.toNatClampNeg 0) (upd m_x bT.toNatClampNeg v26) (upd gR bT.toNatClampNeg v33) (upd pW bT.toNatClampNeg v40) (upd qR bT.toNatClampNeg v47) nG oO qT qA (by omega) (by omega) vZ aA4 yG yM zE aAR aA1 aAA aAb aAJ aAZ e50 e51 (fun k => by have q9 := a28 k; omega) (fun k => by have q9 := a35 k; omega) (fun k => by have q9 := a42 k; omega) (fun k => by have q9 := a49 k; omega) xT yF aAe aAf aAg aAh aAx aAN (by omega) hx1 hx2 (by omega)
set_option maxHeartbeats 8000000 in
set_option maxRecDepth 200000 in
theorem tb_X10_orchard_105 {post : Int32 -> Int32 -> Int32 -> Int32 -> Int32 -> Nat -> Int32 -> Int32 -> Int32 -> Int32 -> Int32 -> Int32 -> Int32 -> Int32 -> (Nat -> Int32) -> (Nat -> Int32) -> (Nat -> Int32) -> (Nat -> Int32) -> (Nat -> Int32) -> (Nat -> Int32) -> (Nat -> Int32) -> (Nat -> Int32) -> (Nat -> Int32) -> Prop} {SB : Int} {aJ1 : Int32} (qO qQ : Nat -> Int32) (zG : ∀ k : Nat, -128 <= Int32.toInt (qO k) /\ Int32.toInt (qO k) <= 127) (zI : ∀ k : Nat, -128 <= Int32.toInt (qQ k) /\ Int32.toInt (qQ k) <= 127) (hc0 : -1 <= SB /\ SB <= 7) (hpost : ∀ (r : Int32) (aLD : Int32) (aEx : Int32) (aBT : Int32) (xG : Int32) (aAP : Nat) (zS : Int32) (aAz : Int32) (aAm : Int32) (zH : Int32) (aCP : Int32) (aB2 : Int32) (aBI : Int32) (m_came' : Int32) (aBf : Nat -> Int32) (m_x' : Nat -> Int32) (aLE : Nat -> Int32) (aF6 : Nat -> Int32) (aUr : Nat -> Int32) (aUp : Nat -> Int32) (aUq : Nat -> Int32) (aAy : Nat -> Int32) (aCh : Nat -> Int32), (-100 <= Int32.toInt r /\ Int32.toInt r <= 24) -> (0 <= Int32.toInt aLD /\ Int32.toInt aLD <= 16) -> (0 <= Int32.toInt aEx /\ Int32.toInt aEx <= 8) -> (0 <= Int32.toInt aBT /\ Int32.toInt aBT <= 0) -> (0 <= Int32.toInt xG /\ Int32.toInt xG <= 0) -> (aAP = 1) -> (0 <= Int32.toInt zS /\ Int32.toInt zS <= 80) -> (76 <= Int32.toInt aAz /\ Int32.toInt aAz <= 76) -> (0 <= Int32.toInt aAm /\ Int32.toInt aAm <= 80) -> (-1 <= Int32.toInt zH /\ Int32.toInt zH <= 80) -> (0 <= Int32.toInt aCP /\ Int32.toInt aCP <= 16) -> (0 <= Int32.toInt aB2 /\ Int32.toInt aB2 <= 8) -> (0 <= Int32.toInt aBI /\ Int32.toInt aBI <= 12) -> (∀ k : Nat, k = 17 -> -1 <= Int32.toInt (aBf k) /\ Int32.toInt (aBf k) <= SB) -> (∀ k : Nat, k = 19 -> 0 <= Int32.toInt (aBf k) /\ Int32.toInt (aBf k) <= 9) -> (∀ k : Nat, 0 <= Int32.toInt (m_x' k) /\ Int32.toInt (m_x' k) <= 99) -> (∀ k : Nat, 0 <= Int32.toInt (aLE k) /\ Int32.toInt (aLE k) <= 99) -> (∀ k : Nat, 0 <= Int32.toInt (aF6 k) /\ Int32.toInt (aF6 k) <= 9) -> (∀ k : Nat, 0 <= Int32.toInt (aUr k) /\ Int32.toInt (aUr k) <= 9) -> (∀ k : Nat, 0 <= Int32.toInt (aUp k) /\ Int32.toInt (aUp k) <= 99) -> (∀ k : Nat, 0 <= Int32.toInt (aUq k) /\ Int32.toInt (aUq k) <= 99) -> (∀ k : Nat, k % 4 = 0 -> 0 <= Int32.toInt (aAy k) /\ Int32.toInt (aAy k) <= 99) -> (∀ k : Nat, k % 4 = 1 -> 0 <= Int32.toInt (aAy k) /\ Int32.toInt (aAy k) <= 99) -> (∀ k : Nat, k % 4 = 2 -> 0 <= Int32.toInt (aAy k) /\ Int32.toInt (aAy k) <= 9) -> (∀ k : Nat, k % 4 = 3 -> 0 <= Int32.toInt (aAy k) /\ Int32.toInt (aAy k) <= 9) -> (∀ k : Nat, 0 <= Int32.toInt (aAy k) /\ Int32.toInt (aAy k) <= 99) -> (∀ k : Nat, 0 <= Int32.toInt (aCh k) /\ Int32.toInt (aCh k) <= 99) -> (Int32.toInt aJ1 <= Int32.toInt aEx) -> post r aLD aEx aBT xG aAP zS aAz aAm zH aCP aB2 aBI m_came' aBf m_x' aLE aF6 aUr aUp aUq aAy aCh) : ∀ (n : Nat) (x2 bT aG jC bY : Int32) (jD : Nat) (mLn oF rP dQ aJ aB bU oX : Int32) (qG m_x gR pW qR nG oO qT qA : Nat -> Int32), (0 <= Int32.toInt x2 /\ Int32.toInt x2 <= 16) -> (0 <= Int32.toInt bT /\ Int32.toInt bT <= 16) -> (0 <= Int32.toInt aG /\ Int32.toInt aG <= 8) -> (0 <= Int32.toInt jC /\ Int32.toInt jC <= 0) -> (0 <= Int32.toInt bY /\ Int32.toInt bY <= 0) -> (jD = 1) -> (1 <= Int32.toInt mLn /\ Int32.toInt mLn <= 80) -> (76 <= Int32.toInt oF /\ Int32.toInt oF <= 76) -> (0 <= Int32.toInt rP /\ Int32.toInt rP <= 80) -> (-1 <= Int32.toInt dQ /\ Int32.toInt dQ <= -1) -> (0 <= Int32.toInt aJ /\ Int32.toInt aJ <= 16) -> (0 <= Int32.toInt aB /\ Int32.toInt aB <= 8) -> (0 <= Int32.toInt bU /\ Int32.toInt bU <= 12) -> (∀ k : Nat, k = 17 -> -1 <= Int32.toInt (qG k) /\ Int32.toInt (qG k) <= SB) -> (∀ k : Nat, k = 19 -> 0 <= Int32.toInt (qG k) /\ Int32.toInt (qG k) <= 9) -> (∀ k : Nat, 0 <= Int32.toInt (m_x k) /\ Int32.toInt (m_x k) <= 99) -> (∀ k : Nat, 0 <= Int32.toInt (gR k) /\ Int32.toInt (gR k) <= 99) -> (∀ k : Nat, 0 <= Int32.toInt (pW k) /\ Int32.toInt (pW k) <= 9) -> (∀ k : Nat, 0 <= Int32.toInt (qR k) /\ Int32.toInt (qR k) <= 9) -> (∀ k : Nat, 0 <= Int32.toInt (nG k) /\ Int32.toInt (nG k) <= 99) -> (∀ k : Nat, 0 <= Int32.toInt (oO k) /\ Int32.toInt (oO k) <= 99) -> (∀ k : Nat, k % 4 = 0 -> 0 <= Int32.toInt (qT k) /\ Int32.toInt (qT k) <= 99) -> (∀ k : Nat, k % 4 = 1 -> 0 <= Int32.toInt (qT k) /\ Int32.toInt (qT k) <= 99) -> (∀ k : Nat, k % 4 = 2 -> 0 <= Int32.toInt (qT k) /\ Int32.toInt (qT k) <= 9) -> (∀ k : Nat, k % 4 = 3 -> 0 <= Int32.toInt (qT k) /\ Int32.toInt (qT k) <= 9) -> (∀ k : Nat, 0 <= Int32.toInt (qT k) /\ Int32.toInt (qT k) <= 99) -> (∀ k : Nat, 0 <= Int32.toInt (qA k) /\ Int32.toInt (qA k) <= 99) -> (Int32.toInt bT + Int32.toInt aJ - Int32.toInt x2 <= 16) -> (Int32.toInt aG + Int32.toInt aB <= 8) -> (Int32.toInt aJ1 <= Int32.toInt aG) -> (16 - Int32.toInt x2 < (n : Int)) -> wb_X10_orchard_105 post qO qQ n x2 bT aG jC bY jD mLn oF rP dQ aJ aB bU oX qG m_x gR pW qR nG oO qT qA := by
  intro n
  induction n with
  | zero =>
    intro x2 bT aG jC bY jD mLn oF rP dQ aJ aB bU oX qG m_x gR pW qR nG oO qT qA aBN xJ vZ aA4 yG yM zE aAR aA1 aAA aAb aAJ aAZ xU xV aAW xK yR zM xT yF aAe aAf aAg aAh aAx aAN hx0 hx1 hx2 hm
    exfalso; omega
  | succ n ih =>
    intro x2 bT aG jC bY jD mLn oF rP dQ aJ aB bU oX qG m_x gR pW qR nG oO qT qA aBN xJ vZ aA4 yG yM zE aAR aA1 aAA aAb aAJ aAZ xU xV aAW xK yR zM xT yF aAe aAf aAg aAh aAx aAN hx0 hx1 hx2 hm
    exact ts_X10_orchard_105 qO qQ zG zI hc0 hpost ih x2 bT aG jC bY jD mLn oF rP dQ aJ aB bU oX qG m_x gR pW qR nG oO qT qA aBN xJ vZ aA4 yG yM zE aAR aA1 aAA aAb aAJ aAZ xU xV aAW xK yR zM xT yF aAe aAf aAg aAh aAx aAN hx0 hx1 hx2 (by omega)
set_option maxHeartbeats 8000000 in
set_option maxRecDepth 200000 in
theorem ts_X10_orchard_89 {post : Int32 -> Int32 -> Int32 -> Int32 -> Int32 -> Nat -> Int32 -> Int32 -> Int32 -> Int32 -> Int32 -> Int32 -> Int32 -> Int32 -> (Nat -> Int32) -> (Nat -> Int32) -> (Nat -> Int32) -> (Nat -> Int32) -> (Nat -> Int32) -> (Nat -> Int32) -> (Nat -> Int32) -> (Nat -> Int32) -> (Nat -> Int32) -> Prop} {SB : Int} {aJ1 : Int32} (qO qQ : Nat -> Int32) (zG : ∀ k : Nat, -128 <= Int32.toInt (qO k) /\ Int32.toInt (qO k) <= 127) (zI : ∀ k : Nat, -128 <= Int32.toInt (qQ k) /\ Int32.toInt (qQ k) <= 127) (hc0 : -1 <= SB /\ SB <= 7) (hpost : ∀ (r : Int32) (aLD : Int32) (aEx : Int32) (aBT : Int32) (xG : Int32) (aAP : Nat) (zS : Int32) (aAz : Int32) (aAm : Int32) (zH : Int32) (aCP : Int32) (aB2 : Int32) (aBI : Int32) (m_came' : Int32) (aBf : Nat -> Int32) (m_x' : Nat -> Int32) (aLE : Nat -> Int32) (aF6 : Nat -> Int32) (aUr : Nat -> Int32) (aUp : Nat -> Int32) (aUq : Nat -> Int32) (aAy : Nat -> Int32) (aCh : Nat -> Int32), (-100 <= Int32.toInt r /\ Int32.toInt r <= 24) -> (0 <= Int32.toInt aLD /\ Int32.toInt aLD <= 16) -> (0 <= Int32.toInt aEx /\ Int32.toInt aEx <= 8) -> (0 <= Int32.toInt aBT /\ Int32.toInt aBT <= 0) -> (0 <= Int32.toInt xG /\ Int32.toInt xG <= 0) -> (aAP = 1) -> (0 <= Int32.toInt zS /\ Int32.toInt zS <= 80) -> (76 <= Int32.toInt aAz /\ Int32.toInt aAz <= 76) -> (0 <= Int32.toInt aAm /\ Int32.toInt aAm <= 80) -> (-1 <= Int32.toInt zH /\ Int32.toInt zH <= 80) -> (0 <= Int32.toInt aCP /\ Int32.toInt aCP <= 16) -> (0 <= Int32.toInt aB2 /\ Int32.toInt aB2 <= 8) -> (0 <= Int32.toInt aBI /\ Int32.toInt aBI <= 12) -> (∀ k : Nat, k = 17 -> -1 <= Int32.toInt (aBf k) /\ Int32.toInt (aBf k) <= SB) -> (∀ k : Nat, k = 19 -> 0 <= Int32.toInt (aBf k) /\ Int32.toInt (aBf k) <= 9) -> (∀ k : Nat, 0 <= Int32.toInt (m_x' k) /\ Int32.toInt (m_x' k) <= 99) -> (∀ k : Nat, 0 <= Int32.toInt (aLE k) /\ Int32.toInt (aLE k) <= 99) -> (∀ k : Nat, 0 <= Int32.toInt (aF6 k) /\ Int32.toInt (aF6 k) <= 9) -> (∀ k : Nat, 0 <= Int32.toInt (aUr k) /\ Int32.toInt (aUr k) <= 9) -> (∀ k : Nat, 0 <= Int32.toInt (aUp k) /\ Int32.toInt (aUp k) <= 99) -> (∀ k : Nat, 0 <= Int32.toInt (aUq k) /\ Int32.toInt (aUq k) <= 99) -> (∀ k : Nat, k % 4 = 0 -> 0 <= Int32.toInt (aAy k) /\ Int32.toInt (aAy k) <= 99) -> (∀ k : Nat, k % 4 = 1 -> 0 <= Int32.toInt (aAy k) /\ Int32.toInt (aAy k) <= 99) -> (∀ k : Nat, k % 4 = 2 -> 0 <= Int32.toInt (aAy k) /\ Int32.toInt (aAy k) <= 9) -> (∀ k : Nat, k % 4 = 3 -> 0 <= Int32.toInt (aAy k) /\ Int32.toInt (aAy k) <= 9) -> (∀ k : Nat, 0 <= Int32.toInt (aAy k) /\ Int32.toInt (aAy k) <= 99) -> (∀ k : Nat, 0 <= Int32.toInt (aCh k) /\ Int32.toInt (aCh k) <= 99) -> (Int32.toInt aJ1 <= Int32.toInt aEx) -> post r aLD aEx aBT xG aAP zS aAz aAm zH aCP aB2 aBI m_came' aBf m_x' aLE aF6 aUr aUp aUq aAy aCh) (bT aG jC bY : Int32) (jD : Nat) (mLn oF rP dQ aJ aB bU oX : Int32) (qG m_x gR pW qR nG oO qT qA : Nat -> Int32) (xJ : 0 <= Int32.toInt bT /\ Int32.toInt bT <= 16) (vZ : 0 <= Int32.toInt aG /\ Int32.toInt aG <= 8) (aA4 : 0 <= Int32.toInt jC /\ Int32.toInt jC <= 0) (yG : 0 <= Int32.toInt bY /\ Int32.toInt bY <= 0) (yM : jD = 1) (zE : 1 <= Int32.toInt mLn /\ Int32.toInt mLn <= 80) (aAR : 76 <= Int32.toInt oF /\ Int32.toInt oF <= 76) (aA1 : 0 <= Int32.toInt rP /\ Int32.toInt rP <= 80) (aAA : -1 <= Int32.toInt dQ /\ Int32.toInt dQ <= 80) (aAb : 0 <= Int32.toInt aJ /\ Int32.toInt aJ <= 16) (aAJ : 0 <= Int32.toInt aB /\ Int32.toInt aB <= 8) (aAZ : 0 <= Int32.toInt bU /\ Int32.toInt bU <= 12) (xU : ∀ k : Nat, k = 17 -> -1 <= Int32.toInt (qG k) /\ Int32.toInt (qG k) <= SB) (xV : ∀ k : Nat, k = 19 -> 0 <= Int32.toInt (qG k) /\ Int32.toInt (qG k) <= 9) (aAW : ∀ k : Nat, 0 <= Int32.toInt (m_x k) /\ Int32.toInt (m_x k) <= 99) (xK : ∀ k : Nat, 0 <= Int32.toInt (gR k) /\ Int32.toInt (gR k) <= 99) (yR : ∀ k : Nat, 0 <= Int32.toInt (pW k) /\ Int32.toInt (pW k) <= 9) (zM : ∀ k : Nat, 0 <= Int32.toInt (qR k) /\ Int32.toInt (qR k) <= 9) (xT : ∀ k : Nat, 0 <= Int32.toInt (nG k) /\ Int32.toInt (nG k) <= 99) (yF : ∀ k : Nat, 0 <= Int32.toInt (oO k) /\ Int32.toInt (oO k) <= 99) (aAe : ∀ k : Nat, k % 4 = 0 -> 0 <= Int32.toInt (qT k) /\ Int32.toInt (qT k) <= 99) (aAf : ∀ k : Nat, k % 4 = 1 -> 0 <= Int32.toInt (qT k) /\ Int32.toInt (qT k) <= 99) (aAg : ∀ k : Nat, k % 4 = 2 -> 0 <= Int32.toInt (qT k) /\ Int32.toInt (qT k) <= 9) (aAh : ∀ k : Nat, k % 4 = 3 -> 0 <= Int32.toInt (qT k) /\ Int32.toInt (qT k) <= 9) (aAx : ∀ k : Nat, 0 <= Int32.toInt (qT k) /\ Int32.toInt (qT k) <= 99) (aAN : ∀ k : Nat, 0 <= Int32.toInt (qA k) /\ Int32.toInt (qA k) <= 99) (hx0 : Int32.toInt bT + Int32.toInt aJ <= 16) (hx1 : Int32.toInt aG + Int32.toInt aB <= 8) (hx2 : Int32.toInt aJ1 <= Int32.toInt aG) : bBT post qO qQ bT aG jC bY jD mLn oF rP dQ aJ aB bU oX qG m_x gR pW qR nG oO qT qA := by
  have l0 := aI2
  have l1 := aE0
  refine And.intro (fun c57 => ?_) (fun c57 => ?_)
  · skip
    have c57 := mt (zJ _ _).mpr c57
    refine And.intro (fun h9 => absurd h9 (by decide)) (fun _ => ?_)
    have f58 : Int32.toInt ((-1) - dQ) = Int32.toInt ((-1) : Int32) - Int32.toInt dQ := aCA _ _ (by omega)
    obtain ⟨w59, ew59⟩ : ∃ w9 : Int32, w9 = (-1) - dQ := ⟨_, rfl⟩
    rw [<- ew59] at f58
    have key9 := hpost w59 bT aG jC bY jD mLn oF rP dQ aJ aB bU oX qG m_x gR pW qR nG oO qT qA (by omega) xJ vZ aA4 yG yM (by omega) aAR aA1 aAA aAb aAJ aAZ xU xV aAW xK yR zM xT yF aAe aAf aAg aAh aAx aAN (by omega)
    subst ew59
    exact key9
  · skip
    have c57 := (zJ _ _).mp c57
    refine And.intro (fun _ => ?_) (fun h9 => absurd h9 (by decide))
    have f60 := aAT oX
    exact ⟨18, tb_X10_orchard_105 qO qQ zG zI hc0 hpost _ 0 bT aG jC bY jD mLn oF rP dQ aJ aB bU oX qG m_x gR pW qR nG oO qT qA (by omega) xJ vZ aA4 yG yM zE aAR aA1 (by omega) aAb aAJ aAZ xU xV aAW xK yR zM xT yF aAe aAf aAg aAh aAx aAN (by omega) hx1 hx2 (by omega)⟩
set_option maxHeartbeats 8000000 in
set_option maxRecDepth 200000 in
theorem ts_X10_orchard_70 {post : Int32 -> Int32 -> Int32 -> Int32 -> Int32 -> Nat -> Int32 -> Int32 -> Int32 -> Int32 -> Int32 -> Int32 -> Int32 -> Int32 -> (Nat -> Int32) -> (Nat -> Int32) -> (Nat -> Int32) -> (Nat -> Int32) -> (Nat -> Int32) -> (Nat -> Int32) -> (Nat -> Int32) -> (Nat -> Int32) -> (Nat -> Int32) -> Prop} {SB : Int} {aJ1 : Int32} (qO qQ : Nat -> Int32) (zG : ∀ k : Nat, -128 <= Int32.toInt (qO k) /\ Int32.toInt (qO k) <= 127) (zI : ∀ k : Nat, -128 <= Int32.toInt (qQ k) /\ Int32.toInt (qQ k) <= 127) (hc0 : -1 <= SB /\ SB <= 7) (hpost : ∀ (r : Int32) (aLD : Int32) (aEx : Int32) (aBT : Int32) (xG : Int32) (aAP : Nat) (zS : Int32) (aAz : Int32) (aAm : Int32) (zH : Int32) (aCP : Int32) (aB2 : Int32) (aBI : Int32) (m_came' : Int32) (aBf : Nat -> Int32) (m_x' : Nat -> Int32) (aLE : Nat -> Int32) (aF6 : Nat -> Int32) (aUr : Nat -> Int32) (aUp : Nat -> Int32) (aUq : Nat -> Int32) (aAy : Nat -> Int32) (aCh : Nat -> Int32), (-100 <= Int32.toInt r /\ Int32.toInt r <= 24) -> (0 <= Int32.toInt aLD /\ Int32.toInt aLD <= 16) -> (0 <= Int32.toInt aEx /\ Int32.toInt aEx <= 8) -> (0 <= Int32.toInt aBT /\ Int32.toInt aBT <= 0) -> (0 <= Int32.toInt xG /\ Int32.toInt xG <= 0) -> (aAP = 1) -> (0 <= Int32.toInt zS /\ Int32.toInt zS <= 80) -> (76 <= Int32.toInt aAz /\ Int32.toInt aAz <= 76) -> (0 <= Int32.toInt aAm /\ Int32.toInt aAm <= 80) -> (-1 <= Int32.toInt zH /\ Int32.toInt zH <= 80) -> (0 <= Int32.toInt aCP /\ Int32.toInt aCP <= 16) -> (0 <= Int32.toInt aB2 /\ Int32.toInt aB2 <= 8) -> (0 <= Int32.toInt aBI /\ Int32.toInt aBI <= 12) -> (∀ k : Nat, k = 17 -> -1 <= Int32.toInt (aBf k) /\ Int32.toInt (aBf k) <= SB) -> (∀ k : Nat, k = 19 -> 0 <= Int32.toInt (aBf k) /\ Int32.toInt (aBf k) <= 9) -> (∀ k : Nat, 0 <= Int32.toInt (m_x' k) /\ Int32.toInt (m_x' k) <= 99) -> (∀ k : Nat, 0 <= Int32.toInt (aLE k) /\ Int32.toInt (aLE k) <= 99) -> (∀ k : Nat, 0 <= Int32.toInt (aF6 k) /\ Int32.toInt (aF6 k) <= 9) -> (∀ k : Nat, 0 <= Int32.toInt (aUr k) /\ Int32.toInt (aUr k) <= 9) -> (∀ k : Nat, 0 <= Int32.toInt (aUp k) /\ Int32.toInt (aUp k) <= 99) -> (∀ k : Nat, 0 <= Int32.toInt (aUq k) /\ Int32.toInt (aUq k) <= 99) -> (∀ k : Nat, k % 4 = 0 -> 0 <= Int32.toInt (aAy k) /\ Int32.toInt (aAy k) <= 99) -> (∀ k : Nat, k % 4 = 1 -> 0 <= Int32.toInt (aAy k) /\ Int32.toInt (aAy k) <= 99) -> (∀ k : Nat, k % 4 = 2 -> 0 <= Int32.toInt (aAy k) /\ Int32.toInt (aAy k) <= 9) -> (∀ k : Nat, k % 4 = 3 -> 0 <= Int32.toInt (aAy k) /\ Int32.toInt (aAy k) <= 9) -> (∀ k : Nat, 0 <= Int32.toInt (aAy k) /\ Int32.toInt (aAy k) <= 99) -> (∀ k : Nat, 0 <= Int32.toInt (aCh k) /\ Int32.toInt (aCh k) <= 99) -> (Int32.toInt aJ1 <= Int32.toInt aEx) -> post r aLD aEx aBT xG aAP zS aAz aAm zH aCP aB2 aBI m_came' aBf m_x' aLE aF6 aUr aUp aUq aAy aCh) (bT aG jC bY : Int32) (jD : Nat) (mLn oF rP dQ aJ aB bU oX : Int32) (qG m_x gR pW qR nG oO qT qA : Nat -> Int32) (xJ : 0 <= Int32.toInt bT /\ Int32.toInt bT <= 16) (vZ : 0 <= Int32.toInt aG /\ Int32.toInt aG <= 8) (aA4 : 0 <= Int32.toInt jC /\ Int32.toInt jC <= 0) (yG : 0 <= Int32.toInt bY /\ Int32.toInt bY <= 0) (yM : jD = 1) (zE : 1 <= Int32.toInt mLn /\ Int32.toInt mLn <= 80) (aAR : 76 <= Int32.toInt oF /\ Int32.toInt oF <= 76) (aA1 : 0 <= Int32.toInt rP /\ Int32.toInt rP <= 80) (aAA : -1 <= Int32.toInt dQ /\ Int32.toInt dQ <= 80) (aAb : 0 <= Int32.toInt aJ /\ Int32.toInt aJ <= 16) (aAJ : 0 <= Int32.toInt aB /\ Int32.toInt aB <= 8) (aAZ : 0 <= Int32.toInt bU /\ Int32.toInt bU <= 12) (xU : ∀ k : Nat, k = 17 -> -1 <= Int32.toInt (qG k) /\ Int32.toInt (qG k) <= SB) (xV : ∀ k : Nat, k = 19 -> 0 <= Int32.toInt (qG k) /\ Int32.toInt (qG k) <= 9) (aAW : ∀ k : Nat, 0 <= Int32.toInt (m_x k) /\ Int32.toInt (m_x k) <= 99) (xK : ∀ k : Nat, 0 <= Int32.toInt (gR k) /\ Int32.toInt (gR k) <= 99) (yR : ∀ k : Nat, 0 <= Int32.toInt (pW k) /\ Int32.toInt (pW k) <= 9) (zM : ∀ k : Nat, 0 <= Int32.toInt (qR k) /\ Int32.toInt (qR k) <= 9) (xT : ∀ k : Nat, 0 <= Int32.toInt (nG k) /\ Int32.toInt (nG k) <= 99) (yF : ∀ k : Nat, 0 <= Int32.toInt (oO k) /\ Int32.toInt (oO k) <= 99) (aAe : ∀ k : Nat, k % 4 = 0 -> 0 <= Int32.toInt (qT k) /\ Int32.toInt (qT k) <= 99) (aAf : ∀ k : Nat, k % 4 = 1 -> 0 <= Int32.toInt (qT k) /\ Int32.toInt (qT k) <= 99) (aAg : ∀ k : Nat, k % 4 = 2 -> 0 <= Int32.toInt (qT k) /\ Int32.toInt (qT k) <= 9) (aAh : ∀ k : Nat, k % 4 = 3 -> 0 <= Int32.toInt (qT k) /\ Int32.toInt (qT k) <= 9) (aAx : ∀ k : Nat, 0 <= Int32.toInt (qT k) /\ Int32.toInt (qT k) <= 99) (aAN : ∀ k : Nat, 0 <= Int32.toInt (qA k) /\ Int32.toInt (qA k) <= 99) (hx0 : Int32.toInt bT + Int32.toInt aJ <= 16) (hx1 : Int32.toInt aG + Int32.toInt aB <= 8) (hx2 : Int32.toInt aJ1 <= Int32.toInt aG) : ws_X10_orchard_70 post qO qQ bT aG jC bY jD mLn oF rP dQ aJ aB bU oX qG m_x gR pW qR nG oO qT qA := by
  have l0 := aI2
  refine And.intro (fun c61 => ?_) (fun c61 => ?_)
  · skip
    have c61 := (aAO _ _).mp c61
    have f62 := aAT oX
    exact ts_X10_orchard_89 qO qQ zG zI hc0 hpost bT aG jC bY jD mLn oF rP dQ aJ aB bU oX qG m_x gR pW qR nG oO qT qA xJ vZ aA4 yG yM zE aAR aA1 aAA aAb aAJ aAZ xU xV aAW xK yR zM xT yF aAe aAf aAg aAh aAx aAN hx0 hx1 hx2
  · skip
    have c61 := mt (aAO _ _).mpr c61
    refine And.intro (fun c63 => ?_) (fun c63 => ?_)
    · skip
      have c63 := mt (zJ _ _).mpr c63
      refine And.intro (fun _ => ?_) (fun h9 => absurd h9 (by decide))
      have f64 := aAT oX
      exact ts_X10_orchard_89 qO qQ zG zI hc0 hpost bT aG jC bY jD mLn oF rP dQ aJ aB bU oX qG m_x gR pW qR nG oO qT qA xJ vZ aA4 yG yM zE aAR aA1 aAA aAb aAJ aAZ xU xV aAW xK yR zM xT yF aAe aAf aAg aAh aAx aAN hx0 hx1 hx2
    · skip
      have c63 := (zJ _ _).mp c63
      refine And.intro (fun h9 => absurd h9 (by decide)) (fun _ => ?_)
      have f65 := aAT oX
      exact ts_X10_orchard_89 qO qQ zG zI hc0 hpost bT aG jC bY jD mLn oF rP rP aJ aB bU oX qG m_x gR pW qR nG oO qT qA xJ vZ aA4 yG yM zE aAR aA1 (by omega) aAb aAJ aAZ xU xV aAW xK yR zM xT yF aAe aAf aAg aAh aAx aAN hx0 hx1 hx2
set_option maxHeartbeats 8000000 in
set_option maxRecDepth 200000 in
theorem ts_X10_orchard_45 {post : Int32 -> Int32 -> Int32 -> Int32 -> Int32 -> Nat -> Int32 -> Int32 -> Int32 -> Int32 -> Int32 -> Int32 -> Int32 -> Int32 -> (Nat -> Int32) -> (Nat -> Int32) -> (Nat -> Int32) -> (Nat -> Int32) -> (Nat -> Int32) -> (Nat -> Int32) -> (Nat -> Int32) -> (Nat -> Int32) -> (Nat -> Int32) -> Prop} {SB : Int} {aJ1 : Int32} {next : Int32 -> Int32 -> Int32 -> Int32 -> Int32 -> Nat -> Int32 -> Int32 -> Int32 -> Int32 -> Int32 -> Int32 -> Int32 -> Int32 -> (Nat -> Int32) -> (Nat -> Int32) -> (Nat -> Int32) -> (Nat -> Int32) -> (Nat -> Int32) -> (Nat -> Int32) -> (Nat -> Int32) -> (Nat -> Int32) -> (Nat -> Int32) -> Prop} {n45 : Int} (qO qQ : Nat -> Int32) (zG : ∀ k : Nat, -128 <= Int32.toInt (qO k) /\ Int32.toInt (qO k) <= 127) (zI : ∀ k : Nat, -128 <= Int32.toInt (qQ k) /\ Int32.toInt (qQ k) <= 127) (hc0 : -1 <= SB /\ SB <= 7) (hpost : ∀ (r : Int32) (aLD : Int32) (aEx : Int32) (aBT : Int32) (xG : Int32) (aAP : Nat) (zS : Int32) (aAz : Int32) (aAm : Int32) (zH : Int32) (aCP : Int32) (aB2 : Int32) (aBI : Int32) (m_came' : Int32) (aBf : Nat -> Int32) (m_x' : Nat -> Int32) (aLE : Nat -> Int32) (aF6 : Nat -> Int32) (aUr : Nat -> Int32) (aUp : Nat -> Int32) (aUq : Nat -> Int32) (aAy : Nat -> Int32) (aCh : Nat -> Int32), (-100 <= Int32.toInt r /\ Int32.toInt r <= 24) -> (0 <= Int32.toInt aLD /\ Int32.toInt aLD <= 16) -> (0 <= Int32.toInt aEx /\ Int32.toInt aEx <= 8) -> (0 <= Int32.toInt aBT /\ Int32.toInt aBT <= 0) -> (0 <= Int32.toInt xG /\ Int32.toInt xG <= 0) -> (aAP = 1) -> (0 <= Int32.toInt zS /\ Int32.toInt zS <= 80) -> (76 <= Int32.toInt aAz /\ Int32.toInt aAz <= 76) -> (0 <= Int32.toInt aAm /\ Int32.toInt aAm <= 80) -> (-1 <= Int32.toInt zH /\ Int32.toInt zH <= 80) -> (0 <= Int32.toInt aCP /\ Int32.toInt aCP <= 16) -> (0 <= Int32.toInt aB2 /\ Int32.toInt aB2 <= 8) -> (0 <= Int32.toInt aBI /\ Int32.toInt aBI <= 12) -> (∀ k : Nat, k = 17 -> -1 <= Int32.toInt (aBf k) /\ Int32.toInt (aBf k) <= SB) -> (∀ k : Nat, k = 19 -> 0 <= Int32.toInt (aBf k) /\ Int32.toInt (aBf k) <= 9) -> (∀ k : Nat, 0 <= Int32.toInt (m_x' k) /\ Int32.toInt (m_x' k) <= 99) -> (∀ k : Nat, 0 <= Int32.toInt (aLE k) /\ Int32.toInt (aLE k) <= 99) -> (∀ k : Nat, 0 <= Int32.toInt (aF6 k) /\ Int32.toInt (aF6 k) <= 9) -> (∀ k : Nat, 0 <= Int32.toInt (aUr k) /\ Int32.toInt (aUr k) <= 9) -> (∀ k : Nat, 0 <= Int32.toInt (aUp k) /\ Int32.toInt (aUp k) <= 99) -> (∀ k : Nat, 0 <= Int32.toInt (aUq k) /\ Int32.toInt (aUq k) <= 99) -> (∀ k : Nat, k % 4 = 0 -> 0 <= Int32.toInt (aAy k) /\ Int32.toInt (aAy k) <= 99) -> (∀ k : Nat, k % 4 = 1 -> 0 <= Int32.toInt (aAy k) /\ Int32.toInt (aAy k) <= 99) -> (∀ k : Nat, k % 4 = 2 -> 0 <= Int32.toInt (aAy k) /\ Int32.toInt (aAy k) <= 9) -> (∀ k : Nat, k % 4 = 3 -> 0 <= Int32.toInt (aAy k) /\ Int32.toInt (aAy k) <= 9) -> (∀ k : Nat, 0 <= Int32.toInt (aAy k) /\ Int32.toInt (aAy k) <= 99) -> (∀ k : Nat, 0 <= Int32.toInt (aCh k) /\ Int32.toInt (aCh k) <= 99) -> (Int32.toInt aJ1 <= Int32.toInt aEx) -> post r aLD aEx aBT xG aAP zS aAz aAm zH aCP aB2 aBI m_came' aBf m_x' aLE aF6 aUr aUp aUq aAy aCh) (hKn : ∀ (x1 : Int32) (bT : Int32) (aG : Int32) (jC : Int32) (bY : Int32) (jD : Nat) (mLn : Int32) (oF : Int32) (rP : Int32) (dQ : Int32) (aJ : Int32) (aB : Int32) (bU : Int32) (oX : Int32) (qG : Nat -> Int32) (m_x : Nat -> Int32) (gR : Nat -> Int32) (pW : Nat -> Int32) (qR : Nat -> Int32) (nG : Nat -> Int32) (oO : Nat -> Int32) (qT : Nat -> Int32) (qA : Nat -> Int32), (0 <= Int32.toInt x1 /\ Int32.toInt x1 <= 1) -> (0 <= Int32.toInt bT /\ Int32.toInt bT <= 16) -> (0 <= Int32.toInt aG /\ Int32.toInt aG <= 8) -> (0 <= Int32.toInt jC /\ Int32.toInt jC <= 0) -> (0 <= Int32.toInt bY /\ Int32.toInt bY <= 0) -> (jD = 1) -> (1 <= Int32.toInt mLn /\ Int32.toInt mLn <= 80) -> (76 <= Int32.toInt oF /\ Int32.toInt oF <= 76) -> (0 <= Int32.toInt rP /\ Int32.toInt rP <= 80) -> (-1 <= Int32.toInt dQ /\ Int32.toInt dQ <= 80) -> (0 <= Int32.toInt aJ /\ Int32.toInt aJ <= 16) -> (0 <= Int32.toInt aB /\ Int32.toInt aB <= 8) -> (0 <= Int32.toInt bU /\ Int32.toInt bU <= 12) -> (∀ k : Nat, k = 17 -> -1 <= Int32.toInt (qG k) /\ Int32.toInt (qG k) <= SB) -> (∀ k : Nat, k = 19 -> 0 <= Int32.toInt (qG k) /\ Int32.toInt (qG k) <= 9) -> (∀ k : Nat, 0 <= Int32.toInt (m_x k) /\ Int32.toInt (m_x k) <= 99) -> (∀ k : Nat, 0 <= Int32.toInt (gR k) /\ Int32.toInt (gR k) <= 99) -> (∀ k : Nat, 0 <= Int32.toInt (pW k) /\ Int32.toInt (pW k) <= 9) -> (∀ k : Nat, 0 <= Int32.toInt (qR k) /\ Int32.toInt (qR k) <= 9) -> (∀ k : Nat, 0 <= Int32.toInt (nG k) /\ Int32.toInt (nG k) <= 99) -> (∀ k : Nat, 0 <= Int32.toInt (oO k) /\ Int32.toInt (oO k) <= 99) -> (∀ k : Nat, k % 4 = 0 -> 0 <= Int32.toInt (qT k) /\ Int32.toInt (qT k) <= 99) -> (∀ k : Nat, k % 4 = 1 -> 0 <= Int32.toInt (qT k) /\ Int32.toInt (qT k) <= 99) -> (∀ k : Nat, k % 4 = 2 -> 0 <= Int32.toInt (qT k) /\ Int32.toInt (qT k) <= 9) -> (∀ k : Nat, k % 4 = 3 -> 0 <= Int32.toInt (qT k) /\ Int32.toInt (qT k) <= 9) -> (∀ k : Nat, 0 <= Int32.toInt (qT k) /\ Int32.toInt (qT k) <= 99) -> (∀ k : Nat, 0 <= Int32.toInt (qA k) /\ Int32.toInt (qA k) <= 99) -> (Int32.toInt bT + Int32.toInt aJ <= 16) -> (Int32.toInt aG + Int32.toInt aB <= 8) -> (Int32.toInt aJ1 <= Int32.toInt aG) -> (80 - Int32.toInt rP + Int32.toInt x1 < n45) -> next x1 bT aG jC bY jD mLn oF rP dQ aJ aB bU oX qG m_x gR pW qR nG oO qT qA) (x1 bT aG jC bY : Int32) (jD : Nat) (mLn oF rP dQ aJ aB bU oX : Int32) (qG m_x gR pW qR nG oO qT qA : Nat -> Int32) (aBK : 0 <= Int32.toInt x1 /\ Int32.toInt x1 <= 1) (xJ : 0 <= Int32.toInt bT /\ Int32.toInt bT <= 16) (vZ : 0 <= Int32.toInt aG /\ Int32.toInt aG <= 8) (aA4 : 0 <= Int32.toInt jC /\ Int32.toInt jC <= 0) (yG : 0 <= Int32.toInt bY /\ Int32.toInt bY <= 0) (yM : jD = 1) (zE : 1 <= Int32.toInt mLn /\ Int32.toInt mLn <= 80) (aAR : 76 <= Int32.toInt oF /\ Int32.toInt oF <= 76) (aA1 : 0 <= Int32.toInt rP /\ Int32.toInt rP <= 80) (aAA : -1 <= Int32.toInt dQ /\ Int32.toInt dQ <= 80) (aAb : 0 <= Int32.toInt aJ /\ Int32.toInt aJ <= 16) (aAJ : 0 <= Int32.toInt aB /\ Int32.toInt aB <= 8) (aAZ : 0 <= Int32.toInt bU /\ Int32.toInt bU <= 12) (xU : ∀ k : Nat, k = 17 -> -1 <= Int32.toInt (qG k) /\ Int32.toInt (qG k) <= SB) (xV : ∀ k : Nat, k = 19 -> 0 <= Int32.toInt (qG k) /\ Int32.toInt (qG k) <= 9) (aAW : ∀ k : Nat, 0 <= Int32.toInt (m_x k) /\ Int32.toInt (m_x k) <= 99) (xK : ∀ k : Nat, 0 <= Int32.toInt (gR k) /\ Int32.toInt (gR k) <= 99) (yR : ∀ k : Nat, 0 <= Int32.toInt (pW k) /\ Int32.toInt (pW k) <= 9) (zM : ∀ k : Nat, 0 <= Int32.toInt (qR k) /\ Int32.toInt (qR k) <= 9) (xT : ∀ k : Nat, 0 <= Int32.toInt (nG k) /\ Int32.toInt (nG k) <= 99) (yF : ∀ k : Nat, 0 <= Int32.toInt (oO k) /\ Int32.toInt (oO k) <= 99) (aAe : ∀ k : Nat, k % 4 = 0 -> 0 <= Int32.toInt (qT k) /\ Int32.toInt (qT k) <= 99) (aAf : ∀ k : Nat, k % 4 = 1 -> 0 <= Int32.toInt (qT k) /\ Int32.toInt (qT k) <= 99) (aAg : ∀ k : Nat, k % 4 = 2 -> 0 <= Int32.toInt (qT k) /\ Int32.toInt (qT k) <= 9) (aAh : ∀ k : Nat, k % 4 = 3 -> 0 <= Int32.toInt (qT k) /\ Int32.toInt (qT k) <= 9) (aAx : ∀ k : Nat, 0 <= Int32.toInt (qT k) /\ Int32.toInt (qT k) <= 99) (aAN : ∀ k : Nat, 0 <= Int32.toInt (qA k) /\ Int32.toInt (qA k) <= 99) (hx0 : Int32.toInt bT + Int32.toInt aJ <= 16) (hx1 : Int32.toInt aG + Int32.toInt aB <= 8) (hx2 : Int32.toInt aJ1 <= Int32.toInt aG) (hn45 : 80 - Int32.toInt rP + Int32.toInt x1 <= n45) : ws_X10_orchard_45 post next qO qQ x1 bT aG jC bY jD mLn oF rP dQ aJ aB bU oX qG m_x gR pW qR nG oO qT qA := by
  have l0 := aI2
  have l1 := aE0
  have l2 := aEc
  have l3 := li_59
  refine And.intro (fun c66 => ?_) (fun c66 => ?_)
  · skip
    have c66 := (zJ _ _).mp c66
    have f67 := aAT oX
    exact ts_X10_orchard_70 qO qQ zG zI hc0 hpost bT aG jC bY jD mLn oF rP dQ aJ aB bU oX qG m_x gR pW qR nG oO qT qA xJ vZ aA4 yG yM zE aAR aA1 aAA aAb aAJ aAZ xU xV aAW xK yR zM xT yF aAe aAf aAg aAh aAx aAN hx0 hx1 hx2
  · skip
    have c66 := mt (zJ _ _).mpr c66
    refine And.intro (fun c68 => ?_) (fun c68 => ?_)
    · skip
      have c68 := mt (zJ _ _).mpr c68
      refine And.intro (fun _ => ?_) (fun h9 => absurd h9 (by decide))
      have f69 := aAT oX
      exact ts_X10_orchard_70 qO qQ zG zI hc0 hpost bT aG jC bY jD mLn oF rP dQ aJ aB bU oX qG m_x gR pW qR nG oO qT qA xJ vZ aA4 yG yM zE aAR aA1 aAA aAb aAJ aAZ xU xV aAW xK yR zM xT yF aAe aAf aAg aAh aAx aAN hx0 hx1 hx2
    · skip
      have c68 := (zJ _ _).mp c68
      refine And.intro (fun h9 => absurd h9 (by decide)) (fun _ => ?_)
      refine t_X10_readLine xJ vZ yM zE aAR aA1 (by omega) aAb aAJ zG aAe aAf aAg aAh aAx aAN zI (by omega) (by omega) (fun m_at_70 m_wrong_71 m_newFruitMany_72 m_newStandingMany_73 m_newFruits_74 m_newStandings_75 h_m_at_70 h_m_wrong_71 h_m_newFruitMany_72 h_m_newStandingMany_73 e0_m_newFruits_74 e1_m_newFruits_74 e2_m_newFruits_74 e3_m_newFruits_74 h_m_newFruits_74 h_m_newStandings_75 ox76 ox77 ox78 => ?_)
      refine And.intro (fun c79 => ?_) (fun c79 => ?_)
      · skip
        have c79 := mt (zJ _ _).mpr c79
        refine And.intro (fun _ => ?_) (fun h9 => absurd h9 (by decide))
        have f80 := aAT oX
        exact hKn 0 bT aG jC bY jD mLn oF m_at_70 m_wrong_71 m_newFruitMany_72 m_newStandingMany_73 bU oX qG m_x gR pW qR nG oO m_newFruits_74 m_newStandings_75 (by omega) xJ vZ aA4 yG yM zE aAR h_m_at_70 h_m_wrong_71 h_m_newFruitMany_72 h_m_newStandingMany_73 aAZ xU xV aAW xK yR zM xT yF e0_m_newFruits_74 e1_m_newFruits_74 e2_m_newFruits_74 e3_m_newFruits_74 h_m_newFruits_74 h_m_newStandings_75 (by omega) (by omega) hx2 (by omega)
      · skip
        have c79 := (zJ _ _).mp c79
        refine And.intro (fun h9 => absurd h9 (by decide)) (fun _ => ?_)
        refine aOq (by first | exact yM | exact Or.inl rfl | exact Or.inr rfl | omega) (by omega) (by omega) h_m_at_70 zG zI (by omega) (fun r81 h_r81 ox82 ox83 => ?_)
        refine And.intro (fun c84 => ?_) (fun c84 => ?_)
        · skip
          have c84 := (zJ _ _).mp c84
          intro v85 ev85
          have f86 : Int32.toInt (m_at_70 + 1) = Int32.toInt m_at_70 + Int32.toInt (1 : Int32) := aAD _ _ (by omega)
          rw [<- ev85] at f86
          have f87 := aAT oX
          exact hKn 1 bT aG jC bY jD mLn oF v85 m_wrong_71 m_newFruitMany_72 m_newStandingMany_73 bU oX qG m_x gR pW qR nG oO m_newFruits_74 m_newStandings_75 (by omega) xJ vZ aA4 yG yM zE aAR (by omega) h_m_wrong_71 h_m_newFruitMany_72 h_m_newStandingMany_73 aAZ xU xV aAW xK yR zM xT yF e0_m_newFruits_74 e1_m_newFruits_74 e2_m_newFruits_74 e3_m_newFruits_74 h_m_newFruits_74 h_m_newStandings_75 (by omega) (by omega) hx2 (by omega)
        · skip
          have c84 := mt (zJ _ _).mpr c84
          have f88 := aAT oX
          exact hKn 0 bT aG jC bY jD mLn oF m_at_70 m_wrong_71 m_newFruitMany_72 m_newStandingMany_73 bU oX qG m_x gR pW qR nG oO m_newFruits_74 m_newStandings_75 (by omega) xJ vZ aA4 yG yM zE aAR h_m_at_70 h_m_wrong_71 h_m_newFruitMany_72 h_m_newStandingMany_73 aAZ xU xV aAW xK yR zM xT yF e0_m_newFruits_74 e1_m_newFruits_74 e2_m_newFruits_74 e3_m_newFruits_74 h_m_newFruits_74 h_m_newStandings_75 (by omega) (by omega) hx2 (by omega)
set_option maxHeartbeats 8000000 in
set_option maxRecDepth 200000 in
theorem tb_X10_orchard_45 {post : Int32 -> Int32 -> Int32 -> Int32 -> Int32 -> Nat -> Int32 -> Int32 -> Int32 -> Int32 -> Int32 -> Int32 -> Int32 -> Int32 -> (Nat -> Int32) -> (Nat -> Int32) -> (Nat -> Int32) -> (Nat -> Int32) -> (Nat -> Int32) -> (Nat -> Int32) -> (Nat -> Int32) -> (Nat -> Int32) -> (Nat -> Int32) -> Prop} {SB : Int} {aJ1 : Int32} (qO qQ : Nat -> Int32) (zG : ∀ k : Nat, -128 <= Int32.toInt (qO k) /\ Int32.toInt (qO k) <= 127) (zI : ∀ k : Nat, -128 <= Int32.toInt (qQ k) /\ Int32.toInt (qQ k) <= 127) (hc0 : -1 <= SB /\ SB <= 7) (hpost : ∀ (r : Int32) (aLD : Int32) (aEx : Int32) (aBT : Int32) (xG : Int32) (aAP : Nat) (zS : Int32) (aAz : Int32) (aAm : Int32) (zH : Int32) (aCP : Int32) (aB2 : Int32) (aBI : Int32) (m_came' : Int32) (aBf : Nat -> Int32) (m_x' : Nat -> Int32) (aLE : Nat -> Int32) (aF6 : Nat -> Int32) (aUr : Nat -> Int32) (aUp : Nat -> Int32) (aUq : Nat -> Int32) (aAy : Nat -> Int32) (aCh : Nat -> Int32), (-100 <= Int32.toInt r /\ Int32.toInt r <= 24) -> (0 <= Int32.toInt aLD /\ Int32.toInt aLD <= 16) -> (0 <= Int32.toInt aEx /\ Int32.toInt aEx <= 8) -> (0 <= Int32.toInt aBT /\ Int32.toInt aBT <= 0) -> (0 <= Int32.toInt xG /\ Int32.toInt xG <= 0) -> (aAP = 1) -> (0 <= Int32.toInt zS /\ Int32.toInt zS <= 80) -> (76 <= Int32.toInt aAz /\ Int32.toInt aAz <= 76) -> (0 <= Int32.toInt aAm /\ Int32.toInt aAm <= 80) -> (-1 <= Int32.toInt zH /\ Int32.toInt zH <= 80) -> (0 <= Int32.toInt aCP /\ Int32.toInt aCP <= 16) -> (0 <= Int32.toInt aB2 /\ Int32.toInt aB2 <= 8) -> (0 <= Int32.toInt aBI /\ Int32.toInt aBI <= 12) -> (∀ k : Nat, k = 17 -> -1 <= Int32.toInt (aBf k) /\ Int32.toInt (aBf k) <= SB) -> (∀ k : Nat, k = 19 -> 0 <= Int32.toInt (aBf k) /\ Int32.toInt (aBf k) <= 9) -> (∀ k : Nat, 0 <= Int32.toInt (m_x' k) /\ Int32.toInt (m_x' k) <= 99) -> (∀ k : Nat, 0 <= Int32.toInt (aLE k) /\ Int32.toInt (aLE k) <= 99) -> (∀ k : Nat, 0 <= Int32.toInt (aF6 k) /\ Int32.toInt (aF6 k) <= 9) -> (∀ k : Nat, 0 <= Int32.toInt (aUr k) /\ Int32.toInt (aUr k) <= 9) -> (∀ k : Nat, 0 <= Int32.toInt (aUp k) /\ Int32.toInt (aUp k) <= 99) -> (∀ k : Nat, 0 <= Int32.toInt (aUq k) /\ Int32.toInt (aUq k) <= 99) -> (∀ k : Nat, k % 4 = 0 -> 0 <= Int32.toInt (aAy k) /\ Int32.toInt (aAy k) <= 99) -> (∀ k : Nat, k % 4 = 1 -> 0 <= Int32.toInt (aAy k) /\ Int32.toInt (aAy k) <= 99) -> (∀ k : Nat, k % 4 = 2 -> 0 <= Int32.toInt (aAy k) /\ Int32.toInt (aAy k) <= 9) -> (∀ k : Nat, k % 4 = 3 -> 0 <= Int32.toInt (aAy k) /\ Int32.toInt (aAy k) <= 9) -> (∀ k : Nat, 0 <= Int32.toInt (aAy k) /\ Int32.toInt (aAy k) <= 99) -> (∀ k : Nat, 0 <= Int32.toInt (aCh k) /\ Int32.toInt (aCh k) <= 99) -> (Int32.toInt aJ1 <= Int32.toInt aEx) -> post r aLD aEx aBT xG aAP zS aAz aAm zH aCP aB2 aBI m_came' aBf m_x' aLE aF6 aUr aUp aUq aAy aCh) : ∀ (n : Nat) (x1 bT aG jC bY : Int32) (jD : Nat) (mLn oF rP dQ aJ aB bU oX : Int32) (qG m_x gR pW qR nG oO qT qA : Nat -> Int32), (0 <= Int32.toInt x1 /\ Int32.toInt x1 <= 1) -> (0 <= Int32.toInt bT /\ Int32.toInt bT <= 16) -> (0 <= Int32.toInt aG /\ Int32.toInt aG <= 8) -> (0 <= Int32.toInt jC /\ Int32.toInt jC <= 0) -> (0 <= Int32.toInt bY /\ Int32.toInt bY <= 0) -> (jD = 1) -> (1 <= Int32.toInt mLn /\ Int32.toInt mLn <= 80) -> (76 <= Int32.toInt oF /\ Int32.toInt oF <= 76) -> (0 <= Int32.toInt rP /\ Int32.toInt rP <= 80) -> (-1 <= Int32.toInt dQ /\ Int32.toInt dQ <= 80) -> (0 <= Int32.toInt aJ /\ Int32.toInt aJ <= 16) -> (0 <= Int32.toInt aB /\ Int32.toInt aB <= 8) -> (0 <= Int32.toInt bU /\ Int32.toInt bU <= 12) -> (∀ k : Nat, k = 17 -> -1 <= Int32.toInt (qG k) /\ Int32.toInt (qG k) <= SB) -> (∀ k : Nat, k = 19 -> 0 <= Int32.toInt (qG k) /\ Int32.toInt (qG k) <= 9) -> (∀ k : Nat, 0 <= Int32.toInt (m_x k) /\ Int32.toInt (m_x k) <= 99) -> (∀ k : Nat, 0 <= Int32.toInt (gR k) /\ Int32.toInt (gR k) <= 99) -> (∀ k : Nat, 0 <= Int32.toInt (pW k) /\ Int32.toInt (pW k) <= 9) -> (∀ k : Nat, 0 <= Int32.toInt (qR k) /\ Int32.toInt (qR k) <= 9) -> (∀ k : Nat, 0 <= Int32.toInt (nG k) /\ Int32.toInt (nG k) <= 99) -> (∀ k : Nat, 0 <= Int32.toInt (oO k) /\ Int32.toInt (oO k) <= 99) -> (∀ k : Nat, k % 4 = 0 -> 0 <= Int32.toInt (qT k) /\ Int32.toInt (qT k) <= 99) -> (∀ k : Nat, k % 4 = 1 -> 0 <= Int32.toInt (qT k) /\ Int32.toInt (qT k) <= 99) -> (∀ k : Nat, k % 4 = 2 -> 0 <= Int32.toInt (qT k) /\ Int32.toInt (qT k) <= 9) -> (∀ k : Nat, k % 4 = 3 -> 0 <= Int32.toInt (qT k) /\ Int32.toInt (qT k) <= 9) -> (∀ k : Nat, 0 <= Int32.toInt (qT k) /\ Int32.toInt (qT k) <= 99) -> (∀ k : Nat, 0 <= Int32.toInt (qA k) /\ Int32.toInt (qA k) <= 99) -> (Int32.toInt bT + Int32.toInt aJ <= 16) -> (Int32.toInt aG + Int32.toInt aB <= 8) -> (Int32.toInt aJ1 <= Int32.toInt aG) -> (80 - Int32.toInt rP + Int32.toInt x1 < (n : Int)) -> aU1 post qO qQ n x1 bT aG jC bY jD mLn oF rP dQ aJ aB bU oX qG m_x gR pW qR nG oO qT qA := by
  intro n
  induction n with
  | zero =>
    intro x1 bT aG jC bY jD mLn oF rP dQ aJ aB bU oX qG m_x gR pW qR nG oO qT qA aBK xJ vZ aA4 yG yM zE aAR aA1 aAA aAb aAJ aAZ xU xV aAW xK yR zM xT yF aAe aAf aAg aAh aAx aAN hx0 hx1 hx2 hm
    exfalso; omega
  | succ n ih =>
    intro x1 bT aG jC bY jD mLn oF rP dQ aJ aB bU oX qG m_x gR pW qR nG oO qT qA aBK xJ vZ aA4 yG yM zE aAR aA1 aAA aAb aAJ aAZ xU xV aAW xK yR zM xT yF aAe aAf aAg aAh aAx aAN hx0 hx1 hx2 hm
    exact ts_X10_orchard_45 qO qQ zG zI hc0 hpost ih x1 bT aG jC bY jD mLn oF rP dQ aJ aB bU oX qG m_x gR pW qR nG oO qT qA aBK xJ vZ aA4 yG yM zE aAR aA1 aAA aAb aAJ aAZ xU xV aAW xK yR zM xT yF aAe aAf aAg aAh aAx aAN hx0 hx1 hx2 (by omega)
set_option maxHeartbeats 8000000 in
set_option maxRecDepth 200000 in
theorem t_X10_orchard {post : Int32 -> Int32 -> Int32 -> Int32 -> Int32 -> Nat -> Int32 -> Int32 -> Int32 -> Int32 -> Int32 -> Int32 -> Int32 -> Int32 -> (Nat -> Int32) -> (Nat -> Int32) -> (Nat -> Int32) -> (Nat -> Int32) -> (Nat -> Int32) -> (Nat -> Int32) -> (Nat -> Int32) -> (Nat -> Int32) -> (Nat -> Int32) -> Prop} {SB : Int} {bT aG jC bY : Int32} {jD : Nat} {mLn oF rP dQ aJ aB bU oX : Int32} {qG m_x gR pW qR nG oO qO qT qA qQ : Nat -> Int32} (xJ : 0 <= Int32.toInt bT /\ Int32.toInt bT <= 16) (vZ : 0 <= Int32.toInt aG /\ Int32.toInt aG <= 8) (aA4 : 0 <= Int32.toInt jC /\ Int32.toInt jC <= 80) (yG : 0 <= Int32.toInt bY /\ Int32.toInt bY <= 1) (yM : jD = 0 \/ jD = 1 \/ jD = 2) (zE : 0 <= Int32.toInt mLn /\ Int32.toInt mLn <= 80) (aAR : 0 <= Int32.toInt oF /\ Int32.toInt oF <= 80) (aA1 : 0 <= Int32.toInt rP /\ Int32.toInt rP <= 80) (aAA : -1 <= Int32.toInt dQ /\ Int32.toInt dQ <= 80) (aAb : 0 <= Int32.toInt aJ /\ Int32.toInt aJ <= 16) (aAJ : 0 <= Int32.toInt aB /\ Int32.toInt aB <= 8) (aAZ : 0 <= Int32.toInt bU /\ Int32.toInt bU <= 12) (xU : ∀ k : Nat, k = 17 -> -1 <= Int32.toInt (qG k) /\ Int32.toInt (qG k) <= SB) (xV : ∀ k : Nat, k = 19 -> 0 <= Int32.toInt (qG k) /\ Int32.toInt (qG k) <= 9) (aAW : ∀ k : Nat, 0 <= Int32.toInt (m_x k) /\ Int32.toInt (m_x k) <= 99) (xK : ∀ k : Nat, 0 <= Int32.toInt (gR k) /\ Int32.toInt (gR k) <= 99) (yR : ∀ k : Nat, 0 <= Int32.toInt (pW k) /\ Int32.toInt (pW k) <= 9) (zM : ∀ k : Nat, 0 <= Int32.toInt (qR k) /\ Int32.toInt (qR k) <= 9) (xT : ∀ k : Nat, 0 <= Int32.toInt (nG k) /\ Int32.toInt (nG k) <= 99) (yF : ∀ k : Nat, 0 <= Int32.toInt (oO k) /\ Int32.toInt (oO k) <= 99) (zG : ∀ k : Nat, -128 <= Int32.toInt (qO k) /\ Int32.toInt (qO k) <= 127) (aAe : ∀ k : Nat, k % 4 = 0 -> 0 <= Int32.toInt (qT k) /\ Int32.toInt (qT k) <= 99) (aAf : ∀ k : Nat, k % 4 = 1 -> 0 <= Int32.toInt (qT k) /\ Int32.toInt (qT k) <= 99) (aAg : ∀ k : Nat, k % 4 = 2 -> 0 <= Int32.toInt (qT k) /\ Int32.toInt (qT k) <= 9) (aAh : ∀ k : Nat, k % 4 = 3 -> 0 <= Int32.toInt (qT k) /\ Int32.toInt (qT k) <= 9) (aAx : ∀ k : Nat, 0 <= Int32.toInt (qT k) /\ Int32.toInt (qT k) <= 99) (aAN : ∀ k : Nat, 0 <= Int32.toInt (qA k) /\ Int32.toInt (qA k) <= 99) (zI : ∀ k : Nat, -128 <= Int32.toInt (qQ k) /\ Int32.toInt (qQ k) <= 127) (hc0 : -1 <= SB /\ SB <= 7) (hpost : ∀ (r : Int32) (aLD : Int32) (aEx : Int32) (aBT : Int32) (xG : Int32) (aAP : Nat) (zS : Int32) (aAz : Int32) (aAm : Int32) (zH : Int32) (aCP : Int32) (aB2 : Int32) (aBI : Int32) (m_came' : Int32) (aBf : Nat -> Int32) (m_x' : Nat -> Int32) (aLE : Nat -> Int32) (aF6 : Nat -> Int32) (aUr : Nat -> Int32) (aUp : Nat -> Int32) (aUq : Nat -> Int32) (aAy : Nat -> Int32) (aCh : Nat -> Int32), (-100 <= Int32.toInt r /\ Int32.toInt r <= 24) -> (0 <= Int32.toInt aLD /\ Int32.toInt aLD <= 16) -> (0 <= Int32.toInt aEx /\ Int32.toInt aEx <= 8) -> (0 <= Int32.toInt aBT /\ Int32.toInt aBT <= 0) -> (0 <= Int32.toInt xG /\ Int32.toInt xG <= 0) -> (aAP = 1) -> (0 <= Int32.toInt zS /\ Int32.toInt zS <= 80) -> (76 <= Int32.toInt aAz /\ Int32.toInt aAz <= 76) -> (0 <= Int32.toInt aAm /\ Int32.toInt aAm <= 80) -> (-1 <= Int32.toInt zH /\ Int32.toInt zH <= 80) -> (0 <= Int32.toInt aCP /\ Int32.toInt aCP <= 16) -> (0 <= Int32.toInt aB2 /\ Int32.toInt aB2 <= 8) -> (0 <= Int32.toInt aBI /\ Int32.toInt aBI <= 12) -> (∀ k : Nat, k = 17 -> -1 <= Int32.toInt (aBf k) /\ Int32.toInt (aBf k) <= SB) -> (∀ k : Nat, k = 19 -> 0 <= Int32.toInt (aBf k) /\ Int32.toInt (aBf k) <= 9) -> (∀ k : Nat, 0 <= Int32.toInt (m_x' k) /\ Int32.toInt (m_x' k) <= 99) -> (∀ k : Nat, 0 <= Int32.toInt (aLE k) /\ Int32.toInt (aLE k) <= 99) -> (∀ k : Nat, 0 <= Int32.toInt (aF6 k) /\ Int32.toInt (aF6 k) <= 9) -> (∀ k : Nat, 0 <= Int32.toInt (aUr k) /\ Int32.toInt (aUr k) <= 9) -> (∀ k : Nat, 0 <= Int32.toInt (aUp k) /\ Int32.toInt (aUp k) <= 99) -> (∀ k : Nat, 0 <= Int32.toInt (aUq k) /\ Int32.toInt (aUq k) <= 99) -> (∀ k : Nat, k % 4 = 0 -> 0 <= Int32.toInt (aAy k) /\ Int32.toInt (aAy k) <= 99) -> (∀ k : Nat, k % 4 = 1 -> 0 <= Int32.toInt (aAy k) /\ Int32.toInt (aAy k) <= 99) -> (∀ k : Nat, k % 4 = 2 -> 0 <= Int32.toInt (aAy k) /\ Int32.toInt (aAy k) <= 9) -> (∀ k : Nat, k % 4 = 3 -> 0 <= Int32.toInt (aAy k) /\ Int32.toInt (aAy k) <= 9) -> (∀ k : Nat, 0 <= Int32.toInt (aAy k) /\ Int32.toInt (aAy k) <= 99) -> (∀ k : Nat, 0 <= Int32.toInt (aCh k) /\ Int32.toInt (aCh k) <= 99) -> (Int32.toInt aG <= Int32.toInt aEx) -> post r aLD aEx aBT xG aAP zS aAz aAm zH aCP aB2 aBI m_came' aBf m_x' aLE aF6 aUr aUp aUq aAy aCh) : wp_X10_orchard post bT aG jC bY jD mLn oF rP dQ aJ aB bU oX qG m_x gR pW qR nG oO qO qT qA qQ := by
  have l0 := aI2
  have l1 := aE0
  have l2 := aEc
  have l3 := li_76
  refine And.intro (fun c89 => ?_) (fun c89 => ?_)
  · skip
    have c89 := mt (zJ _ _).mpr c89
    have f90 := aAT oX
    exact ⟨83, tb_X10_orchard_45 qO qQ zG zI hc0 hpost _ 1 bT aG 0 0 1 jC 76 0 (-1) 0 0 bU oX qG m_x gR pW qR nG oO qT qA (by omega) xJ vZ (by omega) (by omega) (by first | exact yM | exact Or.inl rfl | exact Or.inr rfl | omega) (by omega) (by omega) (by omega) (by omega) (by omega) (by omega) aAZ xU xV aAW xK yR zM xT yF aAe aAf aAg aAh aAx aAN (by omega) (by omega) (by omega) (by omega)⟩
  · skip
    have c89 := (zJ _ _).mp c89
    exact hpost _ _ _ _ _ _ _ _ _ _ _ _ _ _ _ _ _ _ _ _ _ _ _ (by omega) xJ vZ (by omega) (by omega) (by first | exact yM | exact Or.inl rfl | exact Or.inr rfl | omega) aA4 (by omega) (by omega) (by omega) aAb aAJ aAZ xU xV aAW xK yR zM xT yF aAe aAf aAg aAh aAx aAN (by omega)
def aUg (W : aOw) (rn : Int) : Prop := ∀ {post : Int32 -> Int32 -> Int32 -> Prop} {p0 : Int32} {jD : Nat} {mLn oF rP dQ bZ aR aE bI aW : Int32} {m_x gR pW nG oO qO qQ : Nat -> Int32} (h_p0 : 0 <= Int32.toInt p0 /\ Int32.toInt p0 <= 4) (yM : jD = 1 \/ jD = 2) (zE : 1 <= Int32.toInt mLn /\ Int32.toInt mLn <= 80) (aAR : 40 <= Int32.toInt oF /\ Int32.toInt oF <= 40) (aA1 : 0 <= Int32.toInt rP /\ Int32.toInt rP <= 80) (aAA : -1 <= Int32.toInt dQ /\ Int32.toInt dQ <= -1) (zT : 0 <= Int32.toInt bZ /\ Int32.toInt bZ <= 1) (yL : 0 <= Int32.toInt aR /\ Int32.toInt aR <= 15) (xQ : 0 <= Int32.toInt aE /\ Int32.toInt aE <= 7) (yY : 0 <= Int32.toInt bI /\ Int32.toInt bI <= 1) (yK : 0 <= Int32.toInt aW /\ Int32.toInt aW <= 63) (aAW : ∀ k : Nat, 0 <= Int32.toInt (m_x k) /\ Int32.toInt (m_x k) <= 99) (xK : ∀ k : Nat, 0 <= Int32.toInt (gR k) /\ Int32.toInt (gR k) <= 99) (yR : ∀ k : Nat, 0 <= Int32.toInt (pW k) /\ Int32.toInt (pW k) <= 9) (xT : ∀ k : Nat, 0 <= Int32.toInt (nG k) /\ Int32.toInt (nG k) <= 99) (yF : ∀ k : Nat, 0 <= Int32.toInt (oO k) /\ Int32.toInt (oO k) <= 99) (zG : ∀ k : Nat, -128 <= Int32.toInt (qO k) /\ Int32.toInt (qO k) <= 127) (zI : ∀ k : Nat, -128 <= Int32.toInt (qQ k) /\ Int32.toInt (qQ k) <= 127) (hc0 : jD = 2 -> Int32.toInt oF <= 40) (hx0 : Int32.toInt rP <= Int32.toInt oF) (hx1 : Int32.toInt oF - Int32.toInt rP < rn) (hpost : ∀ (r : Int32) (aAm : Int32) (zH : Int32), (0 <= Int32.toInt aAm /\ Int32.toInt aAm <= 80) -> (-1 <= Int32.toInt zH /\ Int32.toInt zH <= 80) -> (Int32.toInt rP <= Int32.toInt aAm) -> (Int32.toInt aAm <= Int32.toInt oF) -> post r aAm zH), W post p0 jD mLn oF rP dQ bZ aR aE bI aW m_x gR pW nG oO qO qQ
def aYK (W : aOw) (rn : Int) : Prop := ∀ {post : Int32 -> Int32 -> Int32 -> Prop} {p0 : Int32} {jD : Nat} {mLn oF rP dQ bZ aR aE bI aW : Int32} {m_x gR pW nG oO qO qQ : Nat -> Int32} (h_p0 : 0 <= Int32.toInt p0 /\ Int32.toInt p0 <= 4) (yM : jD = 1 \/ jD = 2) (zE : 1 <= Int32.toInt mLn /\ Int32.toInt mLn <= 80) (aAR : 40 <= Int32.toInt oF /\ Int32.toInt oF <= 40) (aA1 : 0 <= Int32.toInt rP /\ Int32.toInt rP <= 80) (aAA : -1 <= Int32.toInt dQ /\ Int32.toInt dQ <= -1) (zT : 0 <= Int32.toInt bZ /\ Int32.toInt bZ <= 1) (yL : 0 <= Int32.toInt aR /\ Int32.toInt aR <= 15) (xQ : 0 <= Int32.toInt aE /\ Int32.toInt aE <= 7) (yY : 0 <= Int32.toInt bI /\ Int32.toInt bI <= 1) (yK : 0 <= Int32.toInt aW /\ Int32.toInt aW <= 63) (aAW : ∀ k : Nat, 0 <= Int32.toInt (m_x k) /\ Int32.toInt (m_x k) <= 99) (xK : ∀ k : Nat, 0 <= Int32.toInt (gR k) /\ Int32.toInt (gR k) <= 99) (yR : ∀ k : Nat, 0 <= Int32.toInt (pW k) /\ Int32.toInt (pW k) <= 9) (xT : ∀ k : Nat, 0 <= Int32.toInt (nG k) /\ Int32.toInt (nG k) <= 99) (yF : ∀ k : Nat, 0 <= Int32.toInt (oO k) /\ Int32.toInt (oO k) <= 99) (zG : ∀ k : Nat, -128 <= Int32.toInt (qO k) /\ Int32.toInt (qO k) <= 127) (zI : ∀ k : Nat, -128 <= Int32.toInt (qQ k) /\ Int32.toInt (qQ k) <= 127) (hc0 : jD = 2 -> Int32.toInt oF <= 40) (hx0 : Int32.toInt rP <= Int32.toInt oF) (hx1 : Int32.toInt oF - Int32.toInt rP < rn) (hpost : ∀ (r : Int32) (aAm : Int32) (zH : Int32), (0 <= Int32.toInt aAm /\ Int32.toInt aAm <= 80) -> (-1 <= Int32.toInt zH /\ Int32.toInt zH <= 80) -> (Int32.toInt rP <= Int32.toInt aAm) -> (Int32.toInt aAm <= Int32.toInt oF) -> post r aAm zH), W post p0 jD mLn oF rP dQ bZ aR aE bI aW m_x gR pW nG oO qO qQ
set_option maxHeartbeats 8000000 in
set_option maxRecDepth 200000 in
theorem ts_X10_thing_136 {post : Int32 -> Int32 -> Int32 -> Prop} {WT WH : aOw} {rn : Int} (hT : aUg WT rn) (hH : aYK WH rn) {aLe : Int32} (jD : Nat) (mLn oF bZ aR aE bI aW : Int32) (m_x gR pW nG oO qO qQ : Nat -> Int32) (yM : jD = 1 \/ jD = 2) (zE : 1 <= Int32.toInt mLn /\ Int32.toInt mLn <= 80) (aAR : 40 <= Int32.toInt oF /\ Int32.toInt oF <= 40) (zT : 0 <= Int32.toInt bZ /\ Int32.toInt bZ <= 1) (yL : 0 <= Int32.toInt aR /\ Int32.toInt aR <= 15) (xQ : 0 <= Int32.toInt aE /\ Int32.toInt aE <= 7) (yY : 0 <= Int32.toInt bI /\ Int32.toInt bI <= 1) (yK : 0 <= Int32.toInt aW /\ Int32.toInt aW <= 63) (aAW : ∀ k : Nat, 0 <= Int32.toInt (m_x k) /\ Int32.toInt (m_x k) <= 99) (xK : ∀ k : Nat, 0 <= Int32.toInt (gR k) /\ Int32.toInt (gR k) <= 99) (yR : ∀ k : Nat, 0 <= Int32.toInt (pW k) /\ Int32.toInt (pW k) <= 9) (xT : ∀ k : Nat, 0 <= Int32.toInt (nG k) /\ Int32.toInt (nG k) <= 99) (yF : ∀ k : Nat, 0 <= Int32.toInt (oO k) /\ Int32.toInt (oO k) <= 99) (zG : ∀ k : Nat, -128 <= Int32.toInt (qO k) /\ Int32.toInt (qO k) <= 127) (zI : ∀ k : Nat, -128 <= Int32.toInt (qQ k) /\ Int32.toInt (qQ k) <= 127) (hc0 : jD = 2 -> Int32.toInt oF <= 40) (hpost : ∀ (r : Int32) (aAm : Int32) (zH : Int32), (0 <= Int32.toInt aAm /\ Int32.toInt aAm <= 80) -> (-1 <= Int32.toInt zH /\ Int32.toInt zH <= 80) -> (Int32.toInt aLe <= Int32.toInt aAm) -> (Int32.toInt aAm <= Int32.toInt oF) -> post r aAm zH) (x2 rP dQ : Int32) (aBN : 100 <= Int32.toInt x2 /\ Int32.toInt x2 <= 121) (aA1 : 0 <= Int32.toInt rP /\ Int32.toInt rP <= 80) (aAA : -1 <= Int32.toInt dQ /\ Int32.toInt dQ <= -1) (hx0 : Int32.toInt rP <= Int32.toInt oF) (hx1 : Int32.toInt oF - Int32.toInt rP < rn + 1) (hx2 : Int32.toInt aLe <= Int32.toInt rP) (hx3 : Int32.toInt rP < Int32.toInt oF) : aJK WT WH post jD mLn oF bZ aR aE bI aW m_x gR pW nG oO qO qQ x2 rP dQ := by
  have l0 := aE0
  have l1 := aEc
  have l2 := li_100
  have l3 := li_107
  have l4 := li_115
  have l5 := li_117
  have l6 := li_119
  have l7 := li_121
  intro v1 ev1
  have f2 : Int32.toInt (rP + 1) = Int32.toInt rP + Int32.toInt (1 : Int32) := aAD _ _ (by omega)
  rw [<- ev1] at f2
  refine And.intro (fun c3 => ?_) (fun c3 => ?_)
  · skip
    have c3 := (zJ _ _).mp c3
    exact hpost _ _ _ (by omega) (by omega) (by omega) (by omega)
  · skip
    have c3 := mt (zJ _ _).mpr c3
    refine And.intro (fun c4 => ?_) ?_
    · skip
      have c4 := (zJ _ _).mp c4
      refine And.intro (aBZ (by omega)) ?_
      intro v5 ev5
      have f6 := aAW aR.toNatClampNeg
      have hv5 := congrArg Int32.toInt ev5
      refine And.intro (aBZ (by omega)) ?_
      intro v7 ev7
      have f9 := xT aE.toNatClampNeg
      have f8 : Int32.toInt (v5 - (nG aE.toNatClampNeg)) = Int32.toInt v5 - Int32.toInt (nG aE.toNatClampNeg) := aCA _ _ (by omega)
      rw [<- ev7] at f8
      intro v10 ev10
      have f11 := ti_abs v7 (by omega)
      have hv10 := congrArg Int32.toInt ev10
      exact hpost _ _ _ (by omega) (by omega) (by omega) (by omega)
    refine And.intro (fun c12 => ?_) ?_
    · skip
      have c12 := (zJ _ _).mp c12
      exact hpost _ _ _ (by omega) (by omega) (by omega) (by omega)
    refine And.intro (fun c13 => ?_) ?_
    · skip
      have c13 := (zJ _ _).mp c13
      exact hpost _ _ _ (by omega) (by omega) (by omega) (by omega)
    refine And.intro (fun c14 => ?_) ?_
    · skip
      have c14 := (zJ _ _).mp c14
      refine And.intro (aBZ (by omega)) ?_
      intro v15 ev15
      have f16 := xK aR.toNatClampNeg
      have hv15 := congrArg Int32.toInt ev15
      refine And.intro (aBZ (by omega)) ?_
      intro v17 ev17
      have f19 := yF aE.toNatClampNeg
      have f18 : Int32.toInt (v15 - (oO aE.toNatClampNeg)) = Int32.toInt v15 - Int32.toInt (oO aE.toNatClampNeg) := aCA _ _ (by omega)
      rw [<- ev17] at f18
      intro v20 ev20
      have f21 := ti_max (0 : Int32) v17
      have hv20 := congrArg Int32.toInt ev20
      exact hpost _ _ _ (by omega) (by omega) (by omega) (by omega)
    refine And.intro (fun c22 => ?_) ?_
    · skip
      have c22 := (zJ _ _).mp c22
      refine And.intro (aBZ (by omega)) ?_
      exact hpost _ _ _ (by omega) (by omega) (by omega) (by omega)
    refine And.intro (fun c23 => ?_) ?_
    · skip
      have c23 := (zJ _ _).mp c23
      refine And.intro (aBZ (by omega)) ?_
      exact hpost _ _ _ (by omega) (by omega) (by omega) (by omega)
    intro c24 c25 c26 c27 c28 c29
    have c24 := mt (zJ _ _).mpr c24
    have c25 := mt (zJ _ _).mpr c25
    have c26 := mt (zJ _ _).mpr c26
    have c27 := mt (zJ _ _).mpr c27
    have c28 := mt (zJ _ _).mpr c28
    have c29 := mt (zJ _ _).mpr c29
    exact hpost _ _ _ (by omega) (by omega) (by omega) (by omega)
set_option maxHeartbeats 8000000 in
set_option maxRecDepth 200000 in
theorem ts_X10_thing_67 {post : Int32 -> Int32 -> Int32 -> Prop} {WT WH : aOw} {rn : Int} (hT : aUg WT rn) (hH : aYK WH rn) {aLe : Int32} (jD : Nat) (mLn oF bZ aR aE bI aW : Int32) (m_x gR pW nG oO qO qQ : Nat -> Int32) (yM : jD = 1 \/ jD = 2) (zE : 1 <= Int32.toInt mLn /\ Int32.toInt mLn <= 80) (aAR : 40 <= Int32.toInt oF /\ Int32.toInt oF <= 40) (zT : 0 <= Int32.toInt bZ /\ Int32.toInt bZ <= 1) (yL : 0 <= Int32.toInt aR /\ Int32.toInt aR <= 15) (xQ : 0 <= Int32.toInt aE /\ Int32.toInt aE <= 7) (yY : 0 <= Int32.toInt bI /\ Int32.toInt bI <= 1) (yK : 0 <= Int32.toInt aW /\ Int32.toInt aW <= 63) (aAW : ∀ k : Nat, 0 <= Int32.toInt (m_x k) /\ Int32.toInt (m_x k) <= 99) (xK : ∀ k : Nat, 0 <= Int32.toInt (gR k) /\ Int32.toInt (gR k) <= 99) (yR : ∀ k : Nat, 0 <= Int32.toInt (pW k) /\ Int32.toInt (pW k) <= 9) (xT : ∀ k : Nat, 0 <= Int32.toInt (nG k) /\ Int32.toInt (nG k) <= 99) (yF : ∀ k : Nat, 0 <= Int32.toInt (oO k) /\ Int32.toInt (oO k) <= 99) (zG : ∀ k : Nat, -128 <= Int32.toInt (qO k) /\ Int32.toInt (qO k) <= 127) (zI : ∀ k : Nat, -128 <= Int32.toInt (qQ k) /\ Int32.toInt (qQ k) <= 127) (hc0 : jD = 2 -> Int32.toInt oF <= 40) (hpost : ∀ (r : Int32) (aAm : Int32) (zH : Int32), (0 <= Int32.toInt aAm /\ Int32.toInt aAm <= 80) -> (-1 <= Int32.toInt zH /\ Int32.toInt zH <= 80) -> (Int32.toInt aLe <= Int32.toInt aAm) -> (Int32.toInt aAm <= Int32.toInt oF) -> post r aAm zH) (x2 rP dQ : Int32) (aBN : -1 <= Int32.toInt x2 /\ Int32.toInt x2 <= 255) (aA1 : 0 <= Int32.toInt rP /\ Int32.toInt rP <= 80) (aAA : -1 <= Int32.toInt dQ /\ Int32.toInt dQ <= -1) (hx0 : Int32.toInt rP <= Int32.toInt oF) (hx1 : Int32.toInt oF - Int32.toInt rP < rn + 1) (hx2 : Int32.toInt aLe <= Int32.toInt rP) (hx3 : Int32.toInt x2 = -1 \/ Int32.toInt rP < Int32.toInt oF) : ws_X10_thing_67 WT WH post jD mLn oF bZ aR aE bI aW m_x gR pW nG oO qO qQ x2 rP dQ := by
  have l0 := aI2
  have l1 := li_100
  have l2 := li_107
  have l3 := li_111
  have l4 := li_115
  have l5 := li_117
  have l6 := li_119
  have l7 := li_121
  have l8 := li_3
  have l9 := li_48
  have l10 := li_57
  refine And.intro (fun c30 => ?_) (fun c30 => ?_)
  · skip
    have c30 := (aAd _ _).mp c30
    refine And.intro (fun _ => ?_) (fun h9 => absurd h9 (by decide))
    refine And.intro (fun c31 => ?_) (fun c31 => ?_)
    · skip
      have c31 := (zJ _ _).mp c31
      exfalso; omega
    · skip
      have c31 := mt (zJ _ _).mpr c31
      refine And.intro (fun c32 => ?_) (fun c32 => ?_)
      · skip
        have c32 := (zJ _ _).mp c32
        exfalso; omega
      · skip
        have c32 := mt (zJ _ _).mpr c32
        refine And.intro (fun c33 => ?_) (fun c33 => ?_)
        · skip
          have c33 := (zJ _ _).mp c33
          exfalso; omega
        · skip
          have c33 := mt (zJ _ _).mpr c33
          refine And.intro (fun c34 => ?_) (fun c34 => ?_)
          · skip
            have c34 := (zJ _ _).mp c34
            exfalso; omega
          · skip
            have c34 := mt (zJ _ _).mpr c34
            refine And.intro (fun c35 => ?_) (fun c35 => ?_)
            · skip
              have c35 := (zJ _ _).mp c35
              exfalso; omega
            · skip
              have c35 := mt (zJ _ _).mpr c35
              refine And.intro (fun c36 => ?_) (fun c36 => ?_)
              · skip
                have c36 := (zJ _ _).mp c36
                exfalso; omega
              · skip
                have c36 := mt (zJ _ _).mpr c36
                refine And.intro (fun c37 => ?_) (fun c37 => ?_)
                · skip
                  have c37 := (zJ _ _).mp c37
                  exfalso; omega
                · skip
                  have c37 := mt (zJ _ _).mpr c37
                  refine And.intro (fun c38 => ?_) (fun c38 => ?_)
                  · skip
                    have c38 := mt (zJ _ _).mpr c38
                    exfalso; omega
                  · skip
                    have c38 := (zJ _ _).mp c38
                    refine And.intro (fun h9 => absurd h9 (by decide)) (fun _ => ?_)
                    exact hpost _ _ _ aA1 (by omega) (by omega) (by omega)
  · skip
    have c30 := mt (aAd _ _).mpr c30
    refine And.intro (fun c39 => ?_) (fun c39 => ?_)
    · skip
      have c39 := (aAd _ _).mp c39
      refine And.intro (fun _ => ?_) (fun h9 => absurd h9 (by decide))
      refine And.intro (fun c40 => ?_) (fun c40 => ?_)
      · skip
        have c40 := (zJ _ _).mp c40
        exact ts_X10_thing_136 hT hH jD mLn oF bZ aR aE bI aW m_x gR pW nG oO qO qQ yM zE aAR zT yL xQ yY yK aAW xK yR xT yF zG zI hc0 hpost x2 rP dQ (by omega) aA1 aAA hx0 hx1 hx2 (by omega)
      · skip
        have c40 := mt (zJ _ _).mpr c40
        refine And.intro (fun c41 => ?_) (fun c41 => ?_)
        · skip
          have c41 := (zJ _ _).mp c41
          exact ts_X10_thing_136 hT hH jD mLn oF bZ aR aE bI aW m_x gR pW nG oO qO qQ yM zE aAR zT yL xQ yY yK aAW xK yR xT yF zG zI hc0 hpost x2 rP dQ (by omega) aA1 aAA hx0 hx1 hx2 (by omega)
        · skip
          have c41 := mt (zJ _ _).mpr c41
          refine And.intro (fun c42 => ?_) (fun c42 => ?_)
          · skip
            have c42 := (zJ _ _).mp c42
            exact ts_X10_thing_136 hT hH jD mLn oF bZ aR aE bI aW m_x gR pW nG oO qO qQ yM zE aAR zT yL xQ yY yK aAW xK yR xT yF zG zI hc0 hpost x2 rP dQ (by omega) aA1 aAA hx0 hx1 hx2 (by omega)
          · skip
            have c42 := mt (zJ _ _).mpr c42
            refine And.intro (fun c43 => ?_) (fun c43 => ?_)
            · skip
              have c43 := (zJ _ _).mp c43
              exact ts_X10_thing_136 hT hH jD mLn oF bZ aR aE bI aW m_x gR pW nG oO qO qQ yM zE aAR zT yL xQ yY yK aAW xK yR xT yF zG zI hc0 hpost x2 rP dQ (by omega) aA1 aAA hx0 hx1 hx2 (by omega)
            · skip
              have c43 := mt (zJ _ _).mpr c43
              refine And.intro (fun c44 => ?_) (fun c44 => ?_)
              · skip
                have c44 := (zJ _ _).mp c44
                exact ts_X10_thing_136 hT hH jD mLn oF bZ aR aE bI aW m_x gR pW nG oO qO qQ yM zE aAR zT yL xQ yY yK aAW xK yR xT yF zG zI hc0 hpost x2 rP dQ (by omega) aA1 aAA hx0 hx1 hx2 (by omega)
              · skip
                have c44 := mt (zJ _ _).mpr c44
                refine And.intro (fun c45 => ?_) (fun c45 => ?_)
                · skip
                  have c45 := (zJ _ _).mp c45
                  exact ts_X10_thing_136 hT hH jD mLn oF bZ aR aE bI aW m_x gR pW nG oO qO qQ yM zE aAR zT yL xQ yY yK aAW xK yR xT yF zG zI hc0 hpost x2 rP dQ (by omega) aA1 aAA hx0 hx1 hx2 (by omega)
                · skip
                  have c45 := mt (zJ _ _).mpr c45
                  refine And.intro (fun c46 => ?_) (fun c46 => ?_)
                  · skip
                    have c46 := (zJ _ _).mp c46
                    exact ts_X10_thing_136 hT hH jD mLn oF bZ aR aE bI aW m_x gR pW nG oO qO qQ yM zE aAR zT yL xQ yY yK aAW xK yR xT yF zG zI hc0 hpost x2 rP dQ (by omega) aA1 aAA hx0 hx1 hx2 (by omega)
                  · skip
                    have c46 := mt (zJ _ _).mpr c46
                    refine And.intro (fun c47 => ?_) (fun c47 => ?_)
                    · skip
                      have c47 := mt (zJ _ _).mpr c47
                      exfalso; omega
                    · skip
                      have c47 := (zJ _ _).mp c47
                      refine And.intro (fun h9 => absurd h9 (by decide)) (fun _ => ?_)
                      exact hpost _ _ _ aA1 (by omega) (by omega) (by omega)
    · skip
      have c39 := mt (aAd _ _).mpr c39
      refine And.intro (fun h9 => absurd h9 (by decide)) (fun _ => ?_)
      refine aXA (by omega) yM (by omega) (by omega) aA1 (by omega) zG zI (by omega) (fun r50 m_at_48 m_wrong_49 h_r50 h_m_at_48 h_m_wrong_49 ox51 ox52 ox53 ox54 => ?_)
      exact hpost _ _ _ h_m_at_48 h_m_wrong_49 (by omega) (by omega)
set_option maxHeartbeats 8000000 in
set_option maxRecDepth 200000 in
theorem t_X10_thing {post : Int32 -> Int32 -> Int32 -> Prop} {WT WH : aOw} {rn : Int} (hT : aUg WT rn) (hH : aYK WH rn) {p0 : Int32} {jD : Nat} {mLn oF rP dQ bZ aR aE bI aW : Int32} {m_x gR pW nG oO qO qQ : Nat -> Int32} (h_p0 : 0 <= Int32.toInt p0 /\ Int32.toInt p0 <= 4) (yM : jD = 1 \/ jD = 2) (zE : 1 <= Int32.toInt mLn /\ Int32.toInt mLn <= 80) (aAR : 40 <= Int32.toInt oF /\ Int32.toInt oF <= 40) (aA1 : 0 <= Int32.toInt rP /\ Int32.toInt rP <= 80) (aAA : -1 <= Int32.toInt dQ /\ Int32.toInt dQ <= -1) (zT : 0 <= Int32.toInt bZ /\ Int32.toInt bZ <= 1) (yL : 0 <= Int32.toInt aR /\ Int32.toInt aR <= 15) (xQ : 0 <= Int32.toInt aE /\ Int32.toInt aE <= 7) (yY : 0 <= Int32.toInt bI /\ Int32.toInt bI <= 1) (yK : 0 <= Int32.toInt aW /\ Int32.toInt aW <= 63) (aAW : ∀ k : Nat, 0 <= Int32.toInt (m_x k) /\ Int32.toInt (m_x k) <= 99) (xK : ∀ k : Nat, 0 <= Int32.toInt (gR k) /\ Int32.toInt (gR k) <= 99) (yR : ∀ k : Nat, 0 <= Int32.toInt (pW k) /\ Int32.toInt (pW k) <= 9) (xT : ∀ k : Nat, 0 <= Int32.toInt (nG k) /\ Int32.toInt (nG k) <= 99) (yF : ∀ k : Nat, 0 <= Int32.toInt (oO k) /\ Int32.toInt (oO k) <= 99) (zG : ∀ k : Nat, -128 <= Int32.toInt (qO k) /\ Int32.toInt (qO k) <= 127) (zI : ∀ k : Nat, -128 <= Int32.toInt (qQ k) /\ Int32.toInt (qQ k) <= 127) (hc0 : jD = 2 -> Int32.toInt oF <= 40) (hx0 : Int32.toInt rP <= Int32.toInt oF) (hx1 : Int32.toInt oF - Int32.toInt rP < rn + 1) (hpost : ∀ (r : Int32) (aAm : Int32) (zH : Int32), (0 <= Int32.toInt aAm /\ Int32.toInt aAm <= 80) -> (-1 <= Int32.toInt zH /\ Int32.toInt zH <= 80) -> (Int32.toInt rP <= Int32.toInt aAm) -> (Int32.toInt aAm <= Int32.toInt oF) -> post r aAm zH) : wp_X10_thing WT WH post p0 jD mLn oF rP dQ bZ aR aE bI aW m_x gR pW nG oO qO qQ := by
  have l0 := aI2
  have l1 := aEc
  have l2 := li_4
  have l3 := li_40
  have l4 := li_41
  have l5 := li_45
  refine And.intro (fun c55 => ?_) (fun c55 => ?_)
  · skip
    have c55 := mt (zJ _ _).mpr c55
    exfalso; omega
  · skip
    have c55 := (zJ _ _).mp c55
    refine And.intro (fun h9 => absurd h9 (by decide)) (fun _ => ?_)
    refine aOq yM (by omega) (by omega) aA1 zG zI (by omega) (fun r56 h_r56 ox57 ox58 => ?_)
    refine And.intro (fun c59 => ?_) (fun c59 => ?_)
    · skip
      have c59 := (zJ _ _).mp c59
      intro v60 ev60
      have f61 : Int32.toInt (rP + 1) = Int32.toInt rP + Int32.toInt (1 : Int32) := aAD _ _ (by omega)
      rw [<- ev60] at f61
      refine And.intro (fun h9 => absurd h9 (by decide)) (fun _ => ?_)
      refine hT h_p0 yM zE aAR (by omega) aAA zT yL xQ yY yK aAW xK yR xT yF zG zI (by omega) (by omega) (by omega) (fun r64 m_at_62 m_wrong_63 h_m_at_62 h_m_wrong_63 ox65 ox66 => ?_)
      exact hpost _ _ _ h_m_at_62 h_m_wrong_63 (by omega) (by omega)
    · skip
      have c59 := mt (zJ _ _).mpr c59
      refine And.intro (fun _ => ?_) (fun h9 => absurd h9 (by decide))
      refine And.intro (fun c67 => ?_) (fun c67 => ?_)
      · skip
        have c67 := mt (zJ _ _).mpr c67
        exfalso; omega
      · skip
        have c67 := (zJ _ _).mp c67
        refine And.intro (fun _ => ?_) (fun h9 => absurd h9 (by decide))
        refine aOq yM (by omega) (by omega) aA1 zG zI (by omega) (fun r68 h_r68 ox69 ox70 => ?_)
        refine And.intro (fun c71 => ?_) (fun c71 => ?_)
        · skip
          have c71 := mt (zJ _ _).mpr c71
          exact ts_X10_thing_67 hT hH jD mLn oF bZ aR aE bI aW m_x gR pW nG oO qO qQ yM zE aAR zT yL xQ yY yK aAW xK yR xT yF zG zI hc0 hpost r68 rP dQ h_r68 aA1 aAA (by omega) (by omega) (by omega) (by omega)
        · skip
          have c71 := (zJ _ _).mp c71
          refine And.intro (fun c72 => ?_) (fun c72 => ?_)
          · skip
            have c72 := (aAO _ _).mp c72
            exact ts_X10_thing_67 hT hH jD mLn oF bZ aR aE bI aW m_x gR pW nG oO qO qQ yM zE aAR zT yL xQ yY yK aAW xK yR xT yF zG zI hc0 hpost r68 rP dQ h_r68 aA1 aAA (by omega) (by omega) (by omega) (by omega)
          · skip
            have c72 := mt (aAO _ _).mpr c72
            intro v73 ev73
            have f74 : Int32.toInt (rP + 1) = Int32.toInt rP + Int32.toInt (1 : Int32) := aAD _ _ (by omega)
            rw [<- ev73] at f74
            intro v75 ev75
            have f76 : Int32.toInt (p0 + 1) = Int32.toInt p0 + Int32.toInt (1 : Int32) := aAD _ _ (by omega)
            rw [<- ev75] at f76
            refine hH (by omega) yM zE aAR (by omega) aAA zT yL xQ yY yK aAW xK yR xT yF zG zI (by omega) (by omega) (by omega) (fun r79 m_at_77 m_wrong_78 h_m_at_77 h_m_wrong_78 ox80 ox81 => ?_)
            refine And.intro (fun c82 => ?_) (fun c82 => ?_)
            · skip
              have c82 := mt (zJ _ _).mpr c82
              refine And.intro (fun _ => ?_) (fun h9 => absurd h9 (by decide))
              refine And.intro (fun h9 => absurd h9 (by decide)) (fun _ => ?_)
              refine And.intro (fun c83 => ?_) (fun c83 => ?_)
              · skip
                have c83 := mt (zJ _ _).mpr c83
                refine And.intro (fun _ => ?_) (fun h9 => absurd h9 (by decide))
                exact hpost _ _ _ h_m_at_77 h_m_wrong_78 (by omega) (by omega)
              · skip
                have c83 := (zJ _ _).mp c83
                exfalso; omega
            · skip
              have c82 := (zJ _ _).mp c82
              refine And.intro (fun h9 => absurd h9 (by decide)) (fun _ => ?_)
              refine aOq yM (by omega) (by omega) h_m_at_77 zG zI (by omega) (fun r84 h_r84 ox85 ox86 => ?_)
              refine And.intro (fun c87 => ?_) (fun c87 => ?_)
              · skip
                have c87 := (zJ _ _).mp c87
                intro v88 ev88
                have f89 : Int32.toInt (m_at_77 + 1) = Int32.toInt m_at_77 + Int32.toInt (1 : Int32) := aAD _ _ (by omega)
                rw [<- ev88] at f89
                refine And.intro (fun _ => ?_) (fun h9 => absurd h9 (by decide))
                exact hpost _ _ _ (by omega) h_m_wrong_78 (by omega) (by omega)
              · skip
                have c87 := mt (zJ _ _).mpr c87
                refine And.intro (fun h9 => absurd h9 (by decide)) (fun _ => ?_)
                refine And.intro (fun c90 => ?_) (fun c90 => ?_)
                · skip
                  have c90 := mt (zJ _ _).mpr c90
                  exfalso; omega
                · skip
                  have c90 := (zJ _ _).mp c90
                  refine And.intro (fun h9 => absurd h9 (by decide)) (fun _ => ?_)
                  exact hpost _ _ _ h_m_at_77 (by omega) (by omega) (by omega)
set_option maxHeartbeats 8000000 in
set_option maxRecDepth 200000 in
theorem ts_X10_product_87 {post : Int32 -> Int32 -> Int32 -> Prop} {WT WH : aOw} {rn : Int} (hT : aUg WT rn) (hH : aYK WH rn) {aLe : Int32} {K6 : Int32 -> Int32 -> Int32 -> Int32 -> Prop} {n6 : Int} (jD : Nat) (mLn oF bZ aR aE bI aW : Int32) (m_x gR pW nG oO qO qQ : Nat -> Int32) (yM : jD = 1 \/ jD = 2) (zE : 1 <= Int32.toInt mLn /\ Int32.toInt mLn <= 80) (aAR : 40 <= Int32.toInt oF /\ Int32.toInt oF <= 40) (zT : 0 <= Int32.toInt bZ /\ Int32.toInt bZ <= 1) (yL : 0 <= Int32.toInt aR /\ Int32.toInt aR <= 15) (xQ : 0 <= Int32.toInt aE /\ Int32.toInt aE <= 7) (yY : 0 <= Int32.toInt bI /\ Int32.toInt bI <= 1) (yK : 0 <= Int32.toInt aW /\ Int32.toInt aW <= 63) (aAW : ∀ k : Nat, 0 <= Int32.toInt (m_x k) /\ Int32.toInt (m_x k) <= 99) (xK : ∀ k : Nat, 0 <= Int32.toInt (gR k) /\ Int32.toInt (gR k) <= 99) (yR : ∀ k : Nat, 0 <= Int32.toInt (pW k) /\ Int32.toInt (pW k) <= 9) (xT : ∀ k : Nat, 0 <= Int32.toInt (nG k) /\ Int32.toInt (nG k) <= 99) (yF : ∀ k : Nat, 0 <= Int32.toInt (oO k) /\ Int32.toInt (oO k) <= 99) (zG : ∀ k : Nat, -128 <= Int32.toInt (qO k) /\ Int32.toInt (qO k) <= 127) (zI : ∀ k : Nat, -128 <= Int32.toInt (qQ k) /\ Int32.toInt (qQ k) <= 127) (hc0 : jD = 2 -> Int32.toInt oF <= 40) (hpost : ∀ (r : Int32) (aAm : Int32) (zH : Int32), (0 <= Int32.toInt aAm /\ Int32.toInt aAm <= 80) -> (-1 <= Int32.toInt zH /\ Int32.toInt zH <= 80) -> (Int32.toInt aLe <= Int32.toInt aAm) -> (Int32.toInt aAm <= Int32.toInt oF) -> post r aAm zH) (hK6 : ∀ (x1 : Int32) (x2 : Int32) (rP : Int32) (dQ : Int32), (0 <= Int32.toInt x1 /\ Int32.toInt x1 <= 4) -> (0 <= Int32.toInt rP /\ Int32.toInt rP <= 80) -> (-1 <= Int32.toInt dQ /\ Int32.toInt dQ <= 80) -> (Int32.toInt rP <= Int32.toInt oF) -> (Int32.toInt oF - Int32.toInt rP < rn + 1) -> (Int32.toInt aLe <= Int32.toInt rP) -> (Int32.toInt oF - Int32.toInt rP < n6) -> K6 x1 x2 rP dQ) (x1 k0 rP dQ : Int32) (aBK : 0 <= Int32.toInt x1 /\ Int32.toInt x1 <= 4) (aA1 : 0 <= Int32.toInt rP /\ Int32.toInt rP <= 80) (aAA : -1 <= Int32.toInt dQ /\ Int32.toInt dQ <= 80) (hx0 : Int32.toInt rP <= Int32.toInt oF) (hx1 : Int32.toInt oF - Int32.toInt rP < rn + 1) (hx2 : Int32.toInt aLe <= Int32.toInt rP) (hx3 : Int32.toInt oF - Int32.toInt rP < n6) (hn6 : Int32.toInt oF - Int32.toInt rP <= n6) : aNM WT WH post K6 jD mLn oF bZ aR aE bI aW m_x gR pW nG oO qO qQ x1 k0 rP dQ := by
  have f1 := aAT k0
  exact hK6 x1 k0 rP dQ aBK aA1 aAA hx0 hx1 hx2 (by omega)
set_option maxHeartbeats 8000000 in
set_option maxRecDepth 200000 in
theorem ts_X10_product_45 {post : Int32 -> Int32 -> Int32 -> Prop} {WT WH : aOw} {rn : Int} (hT : aUg WT rn) (hH : aYK WH rn) {aLe : Int32} {K6 : Int32 -> Int32 -> Int32 -> Int32 -> Prop} {n6 : Int} (jD : Nat) (mLn oF bZ aR aE bI aW : Int32) (m_x gR pW nG oO qO qQ : Nat -> Int32) (yM : jD = 1 \/ jD = 2) (zE : 1 <= Int32.toInt mLn /\ Int32.toInt mLn <= 80) (aAR : 40 <= Int32.toInt oF /\ Int32.toInt oF <= 40) (zT : 0 <= Int32.toInt bZ /\ Int32.toInt bZ <= 1) (yL : 0 <= Int32.toInt aR /\ Int32.toInt aR <= 15) (xQ : 0 <= Int32.toInt aE /\ Int32.toInt aE <= 7) (yY : 0 <= Int32.toInt bI /\ Int32.toInt bI <= 1) (yK : 0 <= Int32.toInt aW /\ Int32.toInt aW <= 63) (aAW : ∀ k : Nat, 0 <= Int32.toInt (m_x k) /\ Int32.toInt (m_x k) <= 99) (xK : ∀ k : Nat, 0 <= Int32.toInt (gR k) /\ Int32.toInt (gR k) <= 99) (yR : ∀ k : Nat, 0 <= Int32.toInt (pW k) /\ Int32.toInt (pW k) <= 9) (xT : ∀ k : Nat, 0 <= Int32.toInt (nG k) /\ Int32.toInt (nG k) <= 99) (yF : ∀ k : Nat, 0 <= Int32.toInt (oO k) /\ Int32.toInt (oO k) <= 99) (zG : ∀ k : Nat, -128 <= Int32.toInt (qO k) /\ Int32.toInt (qO k) <= 127) (zI : ∀ k : Nat, -128 <= Int32.toInt (qQ k) /\ Int32.toInt (qQ k) <= 127) (hc0 : jD = 2 -> Int32.toInt oF <= 40) (hpost : ∀ (r : Int32) (aAm : Int32) (zH : Int32), (0 <= Int32.toInt aAm /\ Int32.toInt aAm <= 80) -> (-1 <= Int32.toInt zH /\ Int32.toInt zH <= 80) -> (Int32.toInt aLe <= Int32.toInt aAm) -> (Int32.toInt aAm <= Int32.toInt oF) -> post r aAm zH) (hK6 : ∀ (x1 : Int32) (x2 : Int32) (rP : Int32) (dQ : Int32), (0 <= Int32.toInt x1 /\ Int32.toInt x1 <= 4) -> (0 <= Int32.toInt rP /\ Int32.toInt rP <= 80) -> (-1 <= Int32.toInt dQ /\ Int32.toInt dQ <= 80) -> (Int32.toInt rP <= Int32.toInt oF) -> (Int32.toInt oF - Int32.toInt rP < rn + 1) -> (Int32.toInt aLe <= Int32.toInt rP) -> (Int32.toInt oF - Int32.toInt rP < n6) -> K6 x1 x2 rP dQ) (x1 x2 k0 rP dQ : Int32) (aBK : 0 <= Int32.toInt x1 /\ Int32.toInt x1 <= 4) (h_k0 : 0 <= Int32.toInt k0 /\ Int32.toInt k0 <= 1) (aA1 : 0 <= Int32.toInt rP /\ Int32.toInt rP <= 80) (aAA : -1 <= Int32.toInt dQ /\ Int32.toInt dQ <= -1) (hx0 : Int32.toInt rP <= Int32.toInt oF) (hx1 : Int32.toInt oF - Int32.toInt rP < rn + 1) (hx2 : Int32.toInt aLe <= Int32.toInt rP) (hx3 : Int32.toInt rP < Int32.toInt oF) (hn6 : Int32.toInt oF - Int32.toInt rP <= n6) : ws_X10_product_45 WT WH post K6 jD mLn oF bZ aR aE bI aW m_x gR pW nG oO qO qQ x1 x2 k0 rP dQ := by
  have l0 := aE0
  have l1 := aEc
  intro v2 ev2
  have f3 : Int32.toInt (rP + 1) = Int32.toInt rP + Int32.toInt (1 : Int32) := aAD _ _ (by omega)
  rw [<- ev2] at f3
  refine t_X10_thing hT hH aBK yM zE aAR (by omega) aAA zT yL xQ yY yK aAW xK yR xT yF zG zI (by omega) (by omega) (by omega) (fun r6 aQ5 aGh h_m_at_4 h_m_wrong_5 ox7 ox8 => ?_)
  refine And.intro (fun c9 => ?_) (fun c9 => ?_)
  · skip
    have c9 := (zJ _ _).mp c9
    have f11 := aAT r6
    refine And.intro (fun c10 => ?_) (fun c10 => ?_)
    · skip
      have c10 := mt (zJ _ _).mpr c10
      refine And.intro (mt (zJ _ _).mp (by omega)) ?_
      intro v12 ev12
      have f13 := aAT v12
      exact ts_X10_product_87 hT hH jD mLn oF bZ aR aE bI aW m_x gR pW nG oO qO qQ yM zE aAR zT yL xQ yY yK aAW xK yR xT yF zG zI hc0 hpost hK6 x1 v12 aQ5 aGh aBK h_m_at_4 h_m_wrong_5 (by omega) (by omega) (by omega) (by omega) (by omega)
    · skip
      have c10 := (zJ _ _).mp c10
      exact ts_X10_product_87 hT hH jD mLn oF bZ aR aE bI aW m_x gR pW nG oO qO qQ yM zE aAR zT yL xQ yY yK aAW xK yR xT yF zG zI hc0 hpost hK6 x1 0 aQ5 aGh aBK h_m_at_4 h_m_wrong_5 (by omega) (by omega) (by omega) (by omega) (by omega)
  · skip
    have c9 := mt (zJ _ _).mpr c9
    intro v14 ev14
    have hv14 := congrArg Int32.toInt ev14
    have f16 := aAT v14
    exact ts_X10_product_87 hT hH jD mLn oF bZ aR aE bI aW m_x gR pW nG oO qO qQ yM zE aAR zT yL xQ yY yK aAW xK yR xT yF zG zI hc0 hpost hK6 x1 v14 aQ5 aGh aBK h_m_at_4 h_m_wrong_5 (by omega) (by omega) (by omega) (by omega) (by omega)
set_option maxHeartbeats 8000000 in
set_option maxRecDepth 200000 in
theorem ts_X10_product_31 {post : Int32 -> Int32 -> Int32 -> Prop} {WT WH : aOw} {rn : Int} (hT : aUg WT rn) (hH : aYK WH rn) {aLe : Int32} {K6 : Int32 -> Int32 -> Int32 -> Int32 -> Prop} {n6 : Int} (jD : Nat) (mLn oF bZ aR aE bI aW : Int32) (m_x gR pW nG oO qO qQ : Nat -> Int32) (yM : jD = 1 \/ jD = 2) (zE : 1 <= Int32.toInt mLn /\ Int32.toInt mLn <= 80) (aAR : 40 <= Int32.toInt oF /\ Int32.toInt oF <= 40) (zT : 0 <= Int32.toInt bZ /\ Int32.toInt bZ <= 1) (yL : 0 <= Int32.toInt aR /\ Int32.toInt aR <= 15) (xQ : 0 <= Int32.toInt aE /\ Int32.toInt aE <= 7) (yY : 0 <= Int32.toInt bI /\ Int32.toInt bI <= 1) (yK : 0 <= Int32.toInt aW /\ Int32.toInt aW <= 63) (aAW : ∀ k : Nat, 0 <= Int32.toInt (m_x k) /\ Int32.toInt (m_x k) <= 99) (xK : ∀ k : Nat, 0 <= Int32.toInt (gR k) /\ Int32.toInt (gR k) <= 99) (yR : ∀ k : Nat, 0 <= Int32.toInt (pW k) /\ Int32.toInt (pW k) <= 9) (xT : ∀ k : Nat, 0 <= Int32.toInt (nG k) /\ Int32.toInt (nG k) <= 99) (yF : ∀ k : Nat, 0 <= Int32.toInt (oO k) /\ Int32.toInt (oO k) <= 99) (zG : ∀ k : Nat, -128 <= Int32.toInt (qO k) /\ Int32.toInt (qO k) <= 127) (zI : ∀ k : Nat, -128 <= Int32.toInt (qQ k) /\ Int32.toInt (qQ k) <= 127) (hc0 : jD = 2 -> Int32.toInt oF <= 40) (hpost : ∀ (r : Int32) (aAm : Int32) (zH : Int32), (0 <= Int32.toInt aAm /\ Int32.toInt aAm <= 80) -> (-1 <= Int32.toInt zH /\ Int32.toInt zH <= 80) -> (Int32.toInt aLe <= Int32.toInt aAm) -> (Int32.toInt aAm <= Int32.toInt oF) -> post r aAm zH) (hK6 : ∀ (x1 : Int32) (x2 : Int32) (rP : Int32) (dQ : Int32), (0 <= Int32.toInt x1 /\ Int32.toInt x1 <= 4) -> (0 <= Int32.toInt rP /\ Int32.toInt rP <= 80) -> (-1 <= Int32.toInt dQ /\ Int32.toInt dQ <= 80) -> (Int32.toInt rP <= Int32.toInt oF) -> (Int32.toInt oF - Int32.toInt rP < rn + 1) -> (Int32.toInt aLe <= Int32.toInt rP) -> (Int32.toInt oF - Int32.toInt rP < n6) -> K6 x1 x2 rP dQ) (x1 x2 rP dQ : Int32) (aBK : 0 <= Int32.toInt x1 /\ Int32.toInt x1 <= 4) (aA1 : 0 <= Int32.toInt rP /\ Int32.toInt rP <= 80) (aAA : -1 <= Int32.toInt dQ /\ Int32.toInt dQ <= -1) (hx0 : Int32.toInt rP <= Int32.toInt oF) (hx1 : Int32.toInt oF - Int32.toInt rP < rn + 1) (hx2 : Int32.toInt aLe <= Int32.toInt rP) (hx3 : Int32.toInt rP < Int32.toInt oF) (hn6 : Int32.toInt oF - Int32.toInt rP <= n6) : ws_X10_product_31 WT WH post K6 jD mLn oF bZ aR aE bI aW m_x gR pW nG oO qO qQ x1 x2 rP dQ := by
  have l0 := aE0
  have l1 := aEc
  have l2 := li_42
  refine aOq yM (by omega) (by omega) aA1 zG zI (by omega) (fun r17 h_r17 ox18 ox19 => ?_)
  refine And.intro (fun c20 => ?_) (fun c20 => ?_)
  · skip
    have c20 := mt (zJ _ _).mpr c20
    have f21 := aAT x2
    exact ts_X10_product_45 hT hH jD mLn oF bZ aR aE bI aW m_x gR pW nG oO qO qQ yM zE aAR zT yL xQ yY yK aAW xK yR xT yF zG zI hc0 hpost hK6 x1 x2 0 rP dQ aBK (by omega) aA1 aAA hx0 hx1 hx2 hx3 hn6
  · skip
    have c20 := (zJ _ _).mp c20
    have f22 := aAT x2
    exact ts_X10_product_45 hT hH jD mLn oF bZ aR aE bI aW m_x gR pW nG oO qO qQ yM zE aAR zT yL xQ yY yK aAW xK yR xT yF zG zI hc0 hpost hK6 x1 x2 1 rP dQ aBK (by omega) aA1 aAA hx0 hx1 hx2 hx3 hn6
set_option maxHeartbeats 8000000 in
set_option maxRecDepth 200000 in
theorem ts_X10_product_6 {post : Int32 -> Int32 -> Int32 -> Prop} {WT WH : aOw} {rn : Int} (hT : aUg WT rn) (hH : aYK WH rn) {aLe : Int32} {next : Int32 -> Int32 -> Int32 -> Int32 -> Prop} {n6 : Int} (jD : Nat) (mLn oF bZ aR aE bI aW : Int32) (m_x gR pW nG oO qO qQ : Nat -> Int32) (yM : jD = 1 \/ jD = 2) (zE : 1 <= Int32.toInt mLn /\ Int32.toInt mLn <= 80) (aAR : 40 <= Int32.toInt oF /\ Int32.toInt oF <= 40) (zT : 0 <= Int32.toInt bZ /\ Int32.toInt bZ <= 1) (yL : 0 <= Int32.toInt aR /\ Int32.toInt aR <= 15) (xQ : 0 <= Int32.toInt aE /\ Int32.toInt aE <= 7) (yY : 0 <= Int32.toInt bI /\ Int32.toInt bI <= 1) (yK : 0 <= Int32.toInt aW /\ Int32.toInt aW <= 63) (aAW : ∀ k : Nat, 0 <= Int32.toInt (m_x k) /\ Int32.toInt (m_x k) <= 99) (xK : ∀ k : Nat, 0 <= Int32.toInt (gR k) /\ Int32.toInt (gR k) <= 99) (yR : ∀ k : Nat, 0 <= Int32.toInt (pW k) /\ Int32.toInt (pW k) <= 9) (xT : ∀ k : Nat, 0 <= Int32.toInt (nG k) /\ Int32.toInt (nG k) <= 99) (yF : ∀ k : Nat, 0 <= Int32.toInt (oO k) /\ Int32.toInt (oO k) <= 99) (zG : ∀ k : Nat, -128 <= Int32.toInt (qO k) /\ Int32.toInt (qO k) <= 127) (zI : ∀ k : Nat, -128 <= Int32.toInt (qQ k) /\ Int32.toInt (qQ k) <= 127) (hc0 : jD = 2 -> Int32.toInt oF <= 40) (hpost : ∀ (r : Int32) (aAm : Int32) (zH : Int32), (0 <= Int32.toInt aAm /\ Int32.toInt aAm <= 80) -> (-1 <= Int32.toInt zH /\ Int32.toInt zH <= 80) -> (Int32.toInt aLe <= Int32.toInt aAm) -> (Int32.toInt aAm <= Int32.toInt oF) -> post r aAm zH) (hKn : ∀ (x1 : Int32) (x2 : Int32) (rP : Int32) (dQ : Int32), (0 <= Int32.toInt x1 /\ Int32.toInt x1 <= 4) -> (0 <= Int32.toInt rP /\ Int32.toInt rP <= 80) -> (-1 <= Int32.toInt dQ /\ Int32.toInt dQ <= 80) -> (Int32.toInt rP <= Int32.toInt oF) -> (Int32.toInt oF - Int32.toInt rP < rn + 1) -> (Int32.toInt aLe <= Int32.toInt rP) -> (Int32.toInt oF - Int32.toInt rP < n6) -> next x1 x2 rP dQ) (x1 x2 rP dQ : Int32) (aBK : 0 <= Int32.toInt x1 /\ Int32.toInt x1 <= 4) (aA1 : 0 <= Int32.toInt rP /\ Int32.toInt rP <= 80) (aAA : -1 <= Int32.toInt dQ /\ Int32.toInt dQ <= 80) (hx0 : Int32.toInt rP <= Int32.toInt oF) (hx1 : Int32.toInt oF - Int32.toInt rP < rn + 1) (hx2 : Int32.toInt aLe <= Int32.toInt rP) (hn6 : Int32.toInt oF - Int32.toInt rP <= n6) : ws_X10_product_6 WT WH post next jD mLn oF bZ aR aE bI aW m_x gR pW nG oO qO qQ x1 x2 rP dQ := by
  have l0 := aI2
  have l1 := li_42
  have l2 := li_47
  refine And.intro (fun c23 => ?_) (fun c23 => ?_)
  · skip
    have c23 := mt (zJ _ _).mpr c23
    refine And.intro (fun _ => ?_) (fun h9 => absurd h9 (by decide))
    exact hpost _ _ _ aA1 aAA (by omega) (by omega)
  · skip
    have c23 := (zJ _ _).mp c23
    refine And.intro (fun h9 => absurd h9 (by decide)) (fun _ => ?_)
    refine aOq yM (by omega) (by omega) aA1 zG zI (by omega) (fun r24 h_r24 ox25 ox26 => ?_)
    refine And.intro (fun c27 => ?_) (fun c27 => ?_)
    · skip
      have c27 := (zJ _ _).mp c27
      have f28 := aAT x2
      exact ts_X10_product_31 hT hH jD mLn oF bZ aR aE bI aW m_x gR pW nG oO qO qQ yM zE aAR zT yL xQ yY yK aAW xK yR xT yF zG zI hc0 hpost hKn x1 x2 rP dQ aBK aA1 (by omega) hx0 hx1 hx2 (by omega) hn6
    · skip
      have c27 := mt (zJ _ _).mpr c27
      refine aOq yM (by omega) (by omega) aA1 zG zI (by omega) (fun r29 h_r29 ox30 ox31 => ?_)
      refine And.intro (fun c32 => ?_) (fun c32 => ?_)
      · skip
        have c32 := mt (zJ _ _).mpr c32
        exact hpost _ _ _ aA1 aAA (by omega) (by omega)
      · skip
        have c32 := (zJ _ _).mp c32
        have f33 := aAT x2
        exact ts_X10_product_31 hT hH jD mLn oF bZ aR aE bI aW m_x gR pW nG oO qO qQ yM zE aAR zT yL xQ yY yK aAW xK yR xT yF zG zI hc0 hpost hKn x1 x2 rP dQ aBK aA1 (by omega) hx0 hx1 hx2 (by omega) hn6
set_option maxHeartbeats 8000000 in
set_option maxRecDepth 200000 in
theorem tb_X10_product_6 {post : Int32 -> Int32 -> Int32 -> Prop} {WT WH : aOw} {rn : Int} (hT : aUg WT rn) (hH : aYK WH rn) {aLe : Int32} (jD : Nat) (mLn oF bZ aR aE bI aW : Int32) (m_x gR pW nG oO qO qQ : Nat -> Int32) (yM : jD = 1 \/ jD = 2) (zE : 1 <= Int32.toInt mLn /\ Int32.toInt mLn <= 80) (aAR : 40 <= Int32.toInt oF /\ Int32.toInt oF <= 40) (zT : 0 <= Int32.toInt bZ /\ Int32.toInt bZ <= 1) (yL : 0 <= Int32.toInt aR /\ Int32.toInt aR <= 15) (xQ : 0 <= Int32.toInt aE /\ Int32.toInt aE <= 7) (yY : 0 <= Int32.toInt bI /\ Int32.toInt bI <= 1) (yK : 0 <= Int32.toInt aW /\ Int32.toInt aW <= 63) (aAW : ∀ k : Nat, 0 <= Int32.toInt (m_x k) /\ Int32.toInt (m_x k) <= 99) (xK : ∀ k : Nat, 0 <= Int32.toInt (gR k) /\ Int32.toInt (gR k) <= 99) (yR : ∀ k : Nat, 0 <= Int32.toInt (pW k) /\ Int32.toInt (pW k) <= 9) (xT : ∀ k : Nat, 0 <= Int32.toInt (nG k) /\ Int32.toInt (nG k) <= 99) (yF : ∀ k : Nat, 0 <= Int32.toInt (oO k) /\ Int32.toInt (oO k) <= 99) (zG : ∀ k : Nat, -128 <= Int32.toInt (qO k) /\ Int32.toInt (qO k) <= 127) (zI : ∀ k : Nat, -128 <= Int32.toInt (qQ k) /\ Int32.toInt (qQ k) <= 127) (hc0 : jD = 2 -> Int32.toInt oF <= 40) (hpost : ∀ (r : Int32) (aAm : Int32) (zH : Int32), (0 <= Int32.toInt aAm /\ Int32.toInt aAm <= 80) -> (-1 <= Int32.toInt zH /\ Int32.toInt zH <= 80) -> (Int32.toInt aLe <= Int32.toInt aAm) -> (Int32.toInt aAm <= Int32.toInt oF) -> post r aAm zH) : ∀ (n : Nat) (x1 x2 rP dQ : Int32), (0 <= Int32.toInt x1 /\ Int32.toInt x1 <= 4) -> (0 <= Int32.toInt rP /\ Int32.toInt rP <= 80) -> (-1 <= Int32.toInt dQ /\ Int32.toInt dQ <= 80) -> (Int32.toInt rP <= Int32.toInt oF) -> (Int32.toInt oF - Int32.toInt rP < rn + 1) -> (Int32.toInt aLe <= Int32.toInt rP) -> (Int32.toInt oF - Int32.toInt rP < (n : Int)) -> wb_X10_product_6 WT WH post jD mLn oF bZ aR aE bI aW m_x gR pW nG oO qO qQ n x1 x2 rP dQ := by
  intro n
  induction n with
  | zero =>
    intro x1 x2 rP dQ aBK aA1 aAA hx0 hx1 hx2 hm
    exfalso; omega
  | succ n ih =>
    intro x1 x2 rP dQ aBK aA1 aAA hx0 hx1 hx2 hm
    exact ts_X10_product_6 hT hH jD mLn oF bZ aR aE bI aW m_x gR pW nG oO qO qQ yM zE aAR zT yL xQ yY yK aAW xK yR xT yF zG zI hc0 hpost ih x1 x2 rP dQ aBK aA1 aAA hx0 hx1 hx2 (by omega)
set_option maxHeartbeats 8000000 in
set_option maxRecDepth 200000 in
theorem t_X10_product {post : Int32 -> Int32 -> Int32 -> Prop} {WT WH : aOw} {rn : Int} (hT : aUg WT rn) (hH : aYK WH rn) {p0 : Int32} {jD : Nat} {mLn oF rP dQ bZ aR aE bI aW : Int32} {m_x gR pW nG oO qO qQ : Nat -> Int32} (h_p0 : 0 <= Int32.toInt p0 /\ Int32.toInt p0 <= 4) (yM : jD = 1 \/ jD = 2) (zE : 1 <= Int32.toInt mLn /\ Int32.toInt mLn <= 80) (aAR : 40 <= Int32.toInt oF /\ Int32.toInt oF <= 40) (aA1 : 0 <= Int32.toInt rP /\ Int32.toInt rP <= 80) (aAA : -1 <= Int32.toInt dQ /\ Int32.toInt dQ <= -1) (zT : 0 <= Int32.toInt bZ /\ Int32.toInt bZ <= 1) (yL : 0 <= Int32.toInt aR /\ Int32.toInt aR <= 15) (xQ : 0 <= Int32.toInt aE /\ Int32.toInt aE <= 7) (yY : 0 <= Int32.toInt bI /\ Int32.toInt bI <= 1) (yK : 0 <= Int32.toInt aW /\ Int32.toInt aW <= 63) (aAW : ∀ k : Nat, 0 <= Int32.toInt (m_x k) /\ Int32.toInt (m_x k) <= 99) (xK : ∀ k : Nat, 0 <= Int32.toInt (gR k) /\ Int32.toInt (gR k) <= 99) (yR : ∀ k : Nat, 0 <= Int32.toInt (pW k) /\ Int32.toInt (pW k) <= 9) (xT : ∀ k : Nat, 0 <= Int32.toInt (nG k) /\ Int32.toInt (nG k) <= 99) (yF : ∀ k : Nat, 0 <= Int32.toInt (oO k) /\ Int32.toInt (oO k) <= 99) (zG : ∀ k : Nat, -128 <= Int32.toInt (qO k) /\ Int32.toInt (qO k) <= 127) (zI : ∀ k : Nat, -128 <= Int32.toInt (qQ k) /\ Int32.toInt (qQ k) <= 127) (hc0 : jD = 2 -> Int32.toInt oF <= 40) (hx0 : Int32.toInt rP <= Int32.toInt oF) (hx1 : Int32.toInt oF - Int32.toInt rP < rn + 1) (hpost : ∀ (r : Int32) (aAm : Int32) (zH : Int32), (0 <= Int32.toInt aAm /\ Int32.toInt aAm <= 80) -> (-1 <= Int32.toInt zH /\ Int32.toInt zH <= 80) -> (Int32.toInt rP <= Int32.toInt aAm) -> (Int32.toInt aAm <= Int32.toInt oF) -> post r aAm zH) : wp_X10_product WT WH post p0 jD mLn oF rP dQ bZ aR aE bI aW m_x gR pW nG oO qO qQ := by
  refine t_X10_thing hT hH h_p0 yM zE aAR aA1 aAA zT yL xQ yY yK aAW xK yR xT yF zG zI (by omega) (by omega) (by omega) (fun r36 m_at_34 m_wrong_35 h_m_at_34 h_m_wrong_35 ox37 ox38 => ?_)
  have f39 := aAT r36
  exact ⟨82, tb_X10_product_6 hT hH jD mLn oF bZ aR aE bI aW m_x gR pW nG oO qO qQ yM zE aAR zT yL xQ yY yK aAW xK yR xT yF zG zI hc0 hpost _ p0 r36 m_at_34 m_wrong_35 h_p0 h_m_at_34 h_m_wrong_35 (by omega) (by omega) (by omega) (by omega)⟩
set_option maxHeartbeats 8000000 in
set_option maxRecDepth 200000 in
theorem ts_X10_sum_78 {post : Int32 -> Int32 -> Int32 -> Prop} {WT WH : aOw} {rn : Int} (hT : aUg WT rn) (hH : aYK WH rn) {aLe : Int32} {K6 : Int32 -> Int32 -> Int32 -> Int32 -> Prop} {n6 : Int} (jD : Nat) (mLn oF bZ aR aE bI aW : Int32) (m_x gR pW nG oO qO qQ : Nat -> Int32) (yM : jD = 1 \/ jD = 2) (zE : 1 <= Int32.toInt mLn /\ Int32.toInt mLn <= 80) (aAR : 40 <= Int32.toInt oF /\ Int32.toInt oF <= 40) (zT : 0 <= Int32.toInt bZ /\ Int32.toInt bZ <= 1) (yL : 0 <= Int32.toInt aR /\ Int32.toInt aR <= 15) (xQ : 0 <= Int32.toInt aE /\ Int32.toInt aE <= 7) (yY : 0 <= Int32.toInt bI /\ Int32.toInt bI <= 1) (yK : 0 <= Int32.toInt aW /\ Int32.toInt aW <= 63) (aAW : ∀ k : Nat, 0 <= Int32.toInt (m_x k) /\ Int32.toInt (m_x k) <= 99) (xK : ∀ k : Nat, 0 <= Int32.toInt (gR k) /\ Int32.toInt (gR k) <= 99) (yR : ∀ k : Nat, 0 <= Int32.toInt (pW k) /\ Int32.toInt (pW k) <= 9) (xT : ∀ k : Nat, 0 <= Int32.toInt (nG k) /\ Int32.toInt (nG k) <= 99) (yF : ∀ k : Nat, 0 <= Int32.toInt (oO k) /\ Int32.toInt (oO k) <= 99) (zG : ∀ k : Nat, -128 <= Int32.toInt (qO k) /\ Int32.toInt (qO k) <= 127) (zI : ∀ k : Nat, -128 <= Int32.toInt (qQ k) /\ Int32.toInt (qQ k) <= 127) (hc0 : jD = 2 -> Int32.toInt oF <= 40) (hpost : ∀ (r : Int32) (aAm : Int32) (zH : Int32), (0 <= Int32.toInt aAm /\ Int32.toInt aAm <= 80) -> (-1 <= Int32.toInt zH /\ Int32.toInt zH <= 80) -> (Int32.toInt aLe <= Int32.toInt aAm) -> (Int32.toInt aAm <= Int32.toInt oF) -> post r aAm zH) (hK6 : ∀ (x1 : Int32) (x2 : Int32) (rP : Int32) (dQ : Int32), (0 <= Int32.toInt x1 /\ Int32.toInt x1 <= 4) -> (0 <= Int32.toInt rP /\ Int32.toInt rP <= 80) -> (-1 <= Int32.toInt dQ /\ Int32.toInt dQ <= 80) -> (Int32.toInt rP <= Int32.toInt oF) -> (Int32.toInt oF - Int32.toInt rP < rn + 1) -> (Int32.toInt aLe <= Int32.toInt rP) -> (Int32.toInt oF - Int32.toInt rP < n6) -> K6 x1 x2 rP dQ) (x1 k0 rP dQ : Int32) (aBK : 0 <= Int32.toInt x1 /\ Int32.toInt x1 <= 4) (aA1 : 0 <= Int32.toInt rP /\ Int32.toInt rP <= 80) (aAA : -1 <= Int32.toInt dQ /\ Int32.toInt dQ <= 80) (hx0 : Int32.toInt rP <= Int32.toInt oF) (hx1 : Int32.toInt oF - Int32.toInt rP < rn + 1) (hx2 : Int32.toInt aLe <= Int32.toInt rP) (hx3 : Int32.toInt oF - Int32.toInt rP < n6) (hn6 : Int32.toInt oF - Int32.toInt rP <= n6) : ws_X10_sum_78 WT WH post K6 jD mLn oF bZ aR aE bI aW m_x gR pW nG oO qO qQ x1 k0 rP dQ := by
  have f1 := aAT k0
  exact hK6 x1 k0 rP dQ aBK aA1 aAA hx0 hx1 hx2 (by omega)
set_option maxHeartbeats 8000000 in
set_option maxRecDepth 200000 in
theorem ts_X10_sum_45 {post : Int32 -> Int32 -> Int32 -> Prop} {WT WH : aOw} {rn : Int} (hT : aUg WT rn) (hH : aYK WH rn) {aLe : Int32} {K6 : Int32 -> Int32 -> Int32 -> Int32 -> Prop} {n6 : Int} (jD : Nat) (mLn oF bZ aR aE bI aW : Int32) (m_x gR pW nG oO qO qQ : Nat -> Int32) (yM : jD = 1 \/ jD = 2) (zE : 1 <= Int32.toInt mLn /\ Int32.toInt mLn <= 80) (aAR : 40 <= Int32.toInt oF /\ Int32.toInt oF <= 40) (zT : 0 <= Int32.toInt bZ /\ Int32.toInt bZ <= 1) (yL : 0 <= Int32.toInt aR /\ Int32.toInt aR <= 15) (xQ : 0 <= Int32.toInt aE /\ Int32.toInt aE <= 7) (yY : 0 <= Int32.toInt bI /\ Int32.toInt bI <= 1) (yK : 0 <= Int32.toInt aW /\ Int32.toInt aW <= 63) (aAW : ∀ k : Nat, 0 <= Int32.toInt (m_x k) /\ Int32.toInt (m_x k) <= 99) (xK : ∀ k : Nat, 0 <= Int32.toInt (gR k) /\ Int32.toInt (gR k) <= 99) (yR : ∀ k : Nat, 0 <= Int32.toInt (pW k) /\ Int32.toInt (pW k) <= 9) (xT : ∀ k : Nat, 0 <= Int32.toInt (nG k) /\ Int32.toInt (nG k) <= 99) (yF : ∀ k : Nat, 0 <= Int32.toInt (oO k) /\ Int32.toInt (oO k) <= 99) (zG : ∀ k : Nat, -128 <= Int32.toInt (qO k) /\ Int32.toInt (qO k) <= 127) (zI : ∀ k : Nat, -128 <= Int32.toInt (qQ k) /\ Int32.toInt (qQ k) <= 127) (hc0 : jD = 2 -> Int32.toInt oF <= 40) (hpost : ∀ (r : Int32) (aAm : Int32) (zH : Int32), (0 <= Int32.toInt aAm /\ Int32.toInt aAm <= 80) -> (-1 <= Int32.toInt zH /\ Int32.toInt zH <= 80) -> (Int32.toInt aLe <= Int32.toInt aAm) -> (Int32.toInt aAm <= Int32.toInt oF) -> post r aAm zH) (hK6 : ∀ (x1 : Int32) (x2 : Int32) (rP : Int32) (dQ : Int32), (0 <= Int32.toInt x1 /\ Int32.toInt x1 <= 4) -> (0 <= Int32.toInt rP /\ Int32.toInt rP <= 80) -> (-1 <= Int32.toInt dQ /\ Int32.toInt dQ <= 80) -> (Int32.toInt rP <= Int32.toInt oF) -> (Int32.toInt oF - Int32.toInt rP < rn + 1) -> (Int32.toInt aLe <= Int32.toInt rP) -> (Int32.toInt oF - Int32.toInt rP < n6) -> K6 x1 x2 rP dQ) (x1 x2 k0 rP dQ : Int32) (aBK : 0 <= Int32.toInt x1 /\ Int32.toInt x1 <= 4) (h_k0 : 0 <= Int32.toInt k0 /\ Int32.toInt k0 <= 1) (aA1 : 0 <= Int32.toInt rP /\ Int32.toInt rP <= 80) (aAA : -1 <= Int32.toInt dQ /\ Int32.toInt dQ <= -1) (hx0 : Int32.toInt rP <= Int32.toInt oF) (hx1 : Int32.toInt oF - Int32.toInt rP < rn + 1) (hx2 : Int32.toInt aLe <= Int32.toInt rP) (hx3 : Int32.toInt rP < Int32.toInt oF) (hn6 : Int32.toInt oF - Int32.toInt rP <= n6) : ws_X10_sum_45 WT WH post K6 jD mLn oF bZ aR aE bI aW m_x gR pW nG oO qO qQ x1 x2 k0 rP dQ := by
  have l0 := aE0
  have l1 := aEc
  intro v2 ev2
  have f3 : Int32.toInt (rP + 1) = Int32.toInt rP + Int32.toInt (1 : Int32) := aAD _ _ (by omega)
  rw [<- ev2] at f3
  refine t_X10_product hT hH aBK yM zE aAR (by omega) aAA zT yL xQ yY yK aAW xK yR xT yF zG zI (by omega) (by omega) (by omega) (fun r6 aQ5 aGh h_m_at_4 h_m_wrong_5 ox7 ox8 => ?_)
  refine And.intro (fun c9 => ?_) (fun c9 => ?_)
  · skip
    have c9 := (zJ _ _).mp c9
    intro v10 ev10
    have hv10 := congrArg Int32.toInt ev10
    have f12 := aAT v10
    exact ts_X10_sum_78 hT hH jD mLn oF bZ aR aE bI aW m_x gR pW nG oO qO qQ yM zE aAR zT yL xQ yY yK aAW xK yR xT yF zG zI hc0 hpost hK6 x1 v10 aQ5 aGh aBK h_m_at_4 h_m_wrong_5 (by omega) (by omega) (by omega) (by omega) (by omega)
  · skip
    have c9 := mt (zJ _ _).mpr c9
    intro v13 ev13
    have hv13 := congrArg Int32.toInt ev13
    have f15 := aAT v13
    exact ts_X10_sum_78 hT hH jD mLn oF bZ aR aE bI aW m_x gR pW nG oO qO qQ yM zE aAR zT yL xQ yY yK aAW xK yR xT yF zG zI hc0 hpost hK6 x1 v13 aQ5 aGh aBK h_m_at_4 h_m_wrong_5 (by omega) (by omega) (by omega) (by omega) (by omega)
set_option maxHeartbeats 8000000 in
set_option maxRecDepth 200000 in
theorem ts_X10_sum_31 {post : Int32 -> Int32 -> Int32 -> Prop} {WT WH : aOw} {rn : Int} (hT : aUg WT rn) (hH : aYK WH rn) {aLe : Int32} {K6 : Int32 -> Int32 -> Int32 -> Int32 -> Prop} {n6 : Int} (jD : Nat) (mLn oF bZ aR aE bI aW : Int32) (m_x gR pW nG oO qO qQ : Nat -> Int32) (yM : jD = 1 \/ jD = 2) (zE : 1 <= Int32.toInt mLn /\ Int32.toInt mLn <= 80) (aAR : 40 <= Int32.toInt oF /\ Int32.toInt oF <= 40) (zT : 0 <= Int32.toInt bZ /\ Int32.toInt bZ <= 1) (yL : 0 <= Int32.toInt aR /\ Int32.toInt aR <= 15) (xQ : 0 <= Int32.toInt aE /\ Int32.toInt aE <= 7) (yY : 0 <= Int32.toInt bI /\ Int32.toInt bI <= 1) (yK : 0 <= Int32.toInt aW /\ Int32.toInt aW <= 63) (aAW : ∀ k : Nat, 0 <= Int32.toInt (m_x k) /\ Int32.toInt (m_x k) <= 99) (xK : ∀ k : Nat, 0 <= Int32.toInt (gR k) /\ Int32.toInt (gR k) <= 99) (yR : ∀ k : Nat, 0 <= Int32.toInt (pW k) /\ Int32.toInt (pW k) <= 9) (xT : ∀ k : Nat, 0 <= Int32.toInt (nG k) /\ Int32.toInt (nG k) <= 99) (yF : ∀ k : Nat, 0 <= Int32.toInt (oO k) /\ Int32.toInt (oO k) <= 99) (zG : ∀ k : Nat, -128 <= Int32.toInt (qO k) /\ Int32.toInt (qO k) <= 127) (zI : ∀ k : Nat, -128 <= Int32.toInt (qQ k) /\ Int32.toInt (qQ k) <= 127) (hc0 : jD = 2 -> Int32.toInt oF <= 40) (hpost : ∀ (r : Int32) (aAm : Int32) (zH : Int32), (0 <= Int32.toInt aAm /\ Int32.toInt aAm <= 80) -> (-1 <= Int32.toInt zH /\ Int32.toInt zH <= 80) -> (Int32.toInt aLe <= Int32.toInt aAm) -> (Int32.toInt aAm <= Int32.toInt oF) -> post r aAm zH) (hK6 : ∀ (x1 : Int32) (x2 : Int32) (rP : Int32) (dQ : Int32), (0 <= Int32.toInt x1 /\ Int32.toInt x1 <= 4) -> (0 <= Int32.toInt rP /\ Int32.toInt rP <= 80) -> (-1 <= Int32.toInt dQ /\ Int32.toInt dQ <= 80) -> (Int32.toInt rP <= Int32.toInt oF) -> (Int32.toInt oF - Int32.toInt rP < rn + 1) -> (Int32.toInt aLe <= Int32.toInt rP) -> (Int32.toInt oF - Int32.toInt rP < n6) -> K6 x1 x2 rP dQ) (x1 x2 rP dQ : Int32) (aBK : 0 <= Int32.toInt x1 /\ Int32.toInt x1 <= 4) (aA1 : 0 <= Int32.toInt rP /\ Int32.toInt rP <= 80) (aAA : -1 <= Int32.toInt dQ /\ Int32.toInt dQ <= -1) (hx0 : Int32.toInt rP <= Int32.toInt oF) (hx1 : Int32.toInt oF - Int32.toInt rP < rn + 1) (hx2 : Int32.toInt aLe <= Int32.toInt rP) (hx3 : Int32.toInt rP < Int32.toInt oF) (hn6 : Int32.toInt oF - Int32.toInt rP <= n6) : ws_X10_sum_31 WT WH post K6 jD mLn oF bZ aR aE bI aW m_x gR pW nG oO qO qQ x1 x2 rP dQ := by
  have l0 := aE0
  have l1 := aEc
  have l2 := li_43
  refine aOq yM (by omega) (by omega) aA1 zG zI (by omega) (fun r16 h_r16 ox17 ox18 => ?_)
  refine And.intro (fun c19 => ?_) (fun c19 => ?_)
  · skip
    have c19 := mt (zJ _ _).mpr c19
    have f20 := aAT x2
    exact ts_X10_sum_45 hT hH jD mLn oF bZ aR aE bI aW m_x gR pW nG oO qO qQ yM zE aAR zT yL xQ yY yK aAW xK yR xT yF zG zI hc0 hpost hK6 x1 x2 0 rP dQ aBK (by omega) aA1 aAA hx0 hx1 hx2 hx3 hn6
  · skip
    have c19 := (zJ _ _).mp c19
    have f21 := aAT x2
    exact ts_X10_sum_45 hT hH jD mLn oF bZ aR aE bI aW m_x gR pW nG oO qO qQ yM zE aAR zT yL xQ yY yK aAW xK yR xT yF zG zI hc0 hpost hK6 x1 x2 1 rP dQ aBK (by omega) aA1 aAA hx0 hx1 hx2 hx3 hn6
set_option maxHeartbeats 8000000 in
set_option maxRecDepth 200000 in
theorem ts_X10_sum_6 {post : Int32 -> Int32 -> Int32 -> Prop} {WT WH : aOw} {rn : Int} (hT : aUg WT rn) (hH : aYK WH rn) {aLe : Int32} {next : Int32 -> Int32 -> Int32 -> Int32 -> Prop} {n6 : Int} (jD : Nat) (mLn oF bZ aR aE bI aW : Int32) (m_x gR pW nG oO qO qQ : Nat -> Int32) (yM : jD = 1 \/ jD = 2) (zE : 1 <= Int32.toInt mLn /\ Int32.toInt mLn <= 80) (aAR : 40 <= Int32.toInt oF /\ Int32.toInt oF <= 40) (zT : 0 <= Int32.toInt bZ /\ Int32.toInt bZ <= 1) (yL : 0 <= Int32.toInt aR /\ Int32.toInt aR <= 15) (xQ : 0 <= Int32.toInt aE /\ Int32.toInt aE <= 7) (yY : 0 <= Int32.toInt bI /\ Int32.toInt bI <= 1) (yK : 0 <= Int32.toInt aW /\ Int32.toInt aW <= 63) (aAW : ∀ k : Nat, 0 <= Int32.toInt (m_x k) /\ Int32.toInt (m_x k) <= 99) (xK : ∀ k : Nat, 0 <= Int32.toInt (gR k) /\ Int32.toInt (gR k) <= 99) (yR : ∀ k : Nat, 0 <= Int32.toInt (pW k) /\ Int32.toInt (pW k) <= 9) (xT : ∀ k : Nat, 0 <= Int32.toInt (nG k) /\ Int32.toInt (nG k) <= 99) (yF : ∀ k : Nat, 0 <= Int32.toInt (oO k) /\ Int32.toInt (oO k) <= 99) (zG : ∀ k : Nat, -128 <= Int32.toInt (qO k) /\ Int32.toInt (qO k) <= 127) (zI : ∀ k : Nat, -128 <= Int32.toInt (qQ k) /\ Int32.toInt (qQ k) <= 127) (hc0 : jD = 2 -> Int32.toInt oF <= 40) (hpost : ∀ (r : Int32) (aAm : Int32) (zH : Int32), (0 <= Int32.toInt aAm /\ Int32.toInt aAm <= 80) -> (-1 <= Int32.toInt zH /\ Int32.toInt zH <= 80) -> (Int32.toInt aLe <= Int32.toInt aAm) -> (Int32.toInt aAm <= Int32.toInt oF) -> post r aAm zH) (hKn : ∀ (x1 : Int32) (x2 : Int32) (rP : Int32) (dQ : Int32), (0 <= Int32.toInt x1 /\ Int32.toInt x1 <= 4) -> (0 <= Int32.toInt rP /\ Int32.toInt rP <= 80) -> (-1 <= Int32.toInt dQ /\ Int32.toInt dQ <= 80) -> (Int32.toInt rP <= Int32.toInt oF) -> (Int32.toInt oF - Int32.toInt rP < rn + 1) -> (Int32.toInt aLe <= Int32.toInt rP) -> (Int32.toInt oF - Int32.toInt rP < n6) -> next x1 x2 rP dQ) (x1 x2 rP dQ : Int32) (aBK : 0 <= Int32.toInt x1 /\ Int32.toInt x1 <= 4) (aA1 : 0 <= Int32.toInt rP /\ Int32.toInt rP <= 80) (aAA : -1 <= Int32.toInt dQ /\ Int32.toInt dQ <= 80) (hx0 : Int32.toInt rP <= Int32.toInt oF) (hx1 : Int32.toInt oF - Int32.toInt rP < rn + 1) (hx2 : Int32.toInt aLe <= Int32.toInt rP) (hn6 : Int32.toInt oF - Int32.toInt rP <= n6) : ws_X10_sum_6 WT WH post next jD mLn oF bZ aR aE bI aW m_x gR pW nG oO qO qQ x1 x2 rP dQ := by
  have l0 := aI2
  have l1 := li_43
  have l2 := li_45
  refine And.intro (fun c22 => ?_) (fun c22 => ?_)
  · skip
    have c22 := mt (zJ _ _).mpr c22
    refine And.intro (fun _ => ?_) (fun h9 => absurd h9 (by decide))
    exact hpost _ _ _ aA1 aAA (by omega) (by omega)
  · skip
    have c22 := (zJ _ _).mp c22
    refine And.intro (fun h9 => absurd h9 (by decide)) (fun _ => ?_)
    refine aOq yM (by omega) (by omega) aA1 zG zI (by omega) (fun r23 h_r23 ox24 ox25 => ?_)
    refine And.intro (fun c26 => ?_) (fun c26 => ?_)
    · skip
      have c26 := (zJ _ _).mp c26
      have f27 := aAT x2
      exact ts_X10_sum_31 hT hH jD mLn oF bZ aR aE bI aW m_x gR pW nG oO qO qQ yM zE aAR zT yL xQ yY yK aAW xK yR xT yF zG zI hc0 hpost hKn x1 x2 rP dQ aBK aA1 (by omega) hx0 hx1 hx2 (by omega) hn6
    · skip
      have c26 := mt (zJ _ _).mpr c26
      refine aOq yM (by omega) (by omega) aA1 zG zI (by omega) (fun r28 h_r28 ox29 ox30 => ?_)
      refine And.intro (fun c31 => ?_) (fun c31 => ?_)
      · skip
        have c31 := mt (zJ _ _).mpr c31
        exact hpost _ _ _ aA1 aAA (by omega) (by omega)
      · skip
        have c31 := (zJ _ _).mp c31
        have f32 := aAT x2
        exact ts_X10_sum_31 hT hH jD mLn oF bZ aR aE bI aW m_x gR pW nG oO qO qQ yM zE aAR zT yL xQ yY yK aAW xK yR xT yF zG zI hc0 hpost hKn x1 x2 rP dQ aBK aA1 (by omega) hx0 hx1 hx2 (by omega) hn6
set_option maxHeartbeats 8000000 in
set_option maxRecDepth 200000 in
theorem tb_X10_sum_6 {post : Int32 -> Int32 -> Int32 -> Prop} {WT WH : aOw} {rn : Int} (hT : aUg WT rn) (hH : aYK WH rn) {aLe : Int32} (jD : Nat) (mLn oF bZ aR aE bI aW : Int32) (m_x gR pW nG oO qO qQ : Nat -> Int32) (yM : jD = 1 \/ jD = 2) (zE : 1 <= Int32.toInt mLn /\ Int32.toInt mLn <= 80) (aAR : 40 <= Int32.toInt oF /\ Int32.toInt oF <= 40) (zT : 0 <= Int32.toInt bZ /\ Int32.toInt bZ <= 1) (yL : 0 <= Int32.toInt aR /\ Int32.toInt aR <= 15) (xQ : 0 <= Int32.toInt aE /\ Int32.toInt aE <= 7) (yY : 0 <= Int32.toInt bI /\ Int32.toInt bI <= 1) (yK : 0 <= Int32.toInt aW /\ Int32.toInt aW <= 63) (aAW : ∀ k : Nat, 0 <= Int32.toInt (m_x k) /\ Int32.toInt (m_x k) <= 99) (xK : ∀ k : Nat, 0 <= Int32.toInt (gR k) /\ Int32.toInt (gR k) <= 99) (yR : ∀ k : Nat, 0 <= Int32.toInt (pW k) /\ Int32.toInt (pW k) <= 9) (xT : ∀ k : Nat, 0 <= Int32.toInt (nG k) /\ Int32.toInt (nG k) <= 99) (yF : ∀ k : Nat, 0 <= Int32.toInt (oO k) /\ Int32.toInt (oO k) <= 99) (zG : ∀ k : Nat, -128 <= Int32.toInt (qO k) /\ Int32.toInt (qO k) <= 127) (zI : ∀ k : Nat, -128 <= Int32.toInt (qQ k) /\ Int32.toInt (qQ k) <= 127) (hc0 : jD = 2 -> Int32.toInt oF <= 40) (hpost : ∀ (r : Int32) (aAm : Int32) (zH : Int32), (0 <= Int32.toInt aAm /\ Int32.toInt aAm <= 80) -> (-1 <= Int32.toInt zH /\ Int32.toInt zH <= 80) -> (Int32.toInt aLe <= Int32.toInt aAm) -> (Int32.toInt aAm <= Int32.toInt oF) -> post r aAm zH) : ∀ (n : Nat) (x1 x2 rP dQ : Int32), (0 <= Int32.toInt x1 /\ Int32.toInt x1 <= 4) -> (0 <= Int32.toInt rP /\ Int32.toInt rP <= 80) -> (-1 <= Int32.toInt dQ /\ Int32.toInt dQ <= 80) -> (Int32.toInt rP <= Int32.toInt oF) -> (Int32.toInt oF - Int32.toInt rP < rn + 1) -> (Int32.toInt aLe <= Int32.toInt rP) -> (Int32.toInt oF - Int32.toInt rP < (n : Int)) -> wb_X10_sum_6 WT WH post jD mLn oF bZ aR aE bI aW m_x gR pW nG oO qO qQ n x1 x2 rP dQ := by
  intro n
  induction n with
  | zero =>
    intro x1 x2 rP dQ aBK aA1 aAA hx0 hx1 hx2 hm
    exfalso; omega
  | succ n ih =>
    intro x1 x2 rP dQ aBK aA1 aAA hx0 hx1 hx2 hm
    exact ts_X10_sum_6 hT hH jD mLn oF bZ aR aE bI aW m_x gR pW nG oO qO qQ yM zE aAR zT yL xQ yY yK aAW xK yR xT yF zG zI hc0 hpost ih x1 x2 rP dQ aBK aA1 aAA hx0 hx1 hx2 (by omega)
set_option maxHeartbeats 8000000 in
set_option maxRecDepth 200000 in
theorem t_X10_sum {post : Int32 -> Int32 -> Int32 -> Prop} {WT WH : aOw} {rn : Int} (hT : aUg WT rn) (hH : aYK WH rn) {p0 : Int32} {jD : Nat} {mLn oF rP dQ bZ aR aE bI aW : Int32} {m_x gR pW nG oO qO qQ : Nat -> Int32} (h_p0 : 0 <= Int32.toInt p0 /\ Int32.toInt p0 <= 4) (yM : jD = 1 \/ jD = 2) (zE : 1 <= Int32.toInt mLn /\ Int32.toInt mLn <= 80) (aAR : 40 <= Int32.toInt oF /\ Int32.toInt oF <= 40) (aA1 : 0 <= Int32.toInt rP /\ Int32.toInt rP <= 80) (aAA : -1 <= Int32.toInt dQ /\ Int32.toInt dQ <= -1) (zT : 0 <= Int32.toInt bZ /\ Int32.toInt bZ <= 1) (yL : 0 <= Int32.toInt aR /\ Int32.toInt aR <= 15) (xQ : 0 <= Int32.toInt aE /\ Int32.toInt aE <= 7) (yY : 0 <= Int32.toInt bI /\ Int32.toInt bI <= 1) (yK : 0 <= Int32.toInt aW /\ Int32.toInt aW <= 63) (aAW : ∀ k : Nat, 0 <= Int32.toInt (m_x k) /\ Int32.toInt (m_x k) <= 99) (xK : ∀ k : Nat, 0 <= Int32.toInt (gR k) /\ Int32.toInt (gR k) <= 99) (yR : ∀ k : Nat, 0 <= Int32.toInt (pW k) /\ Int32.toInt (pW k) <= 9) (xT : ∀ k : Nat, 0 <= Int32.toInt (nG k) /\ Int32.toInt (nG k) <= 99) (yF : ∀ k : Nat, 0 <= Int32.toInt (oO k) /\ Int32.toInt (oO k) <= 99) (zG : ∀ k : Nat, -128 <= Int32.toInt (qO k) /\ Int32.toInt (qO k) <= 127) (zI : ∀ k : Nat, -128 <= Int32.toInt (qQ k) /\ Int32.toInt (qQ k) <= 127) (hc0 : jD = 2 -> Int32.toInt oF <= 40) (hx0 : Int32.toInt rP <= Int32.toInt oF) (hx1 : Int32.toInt oF - Int32.toInt rP < rn + 1) (hpost : ∀ (r : Int32) (aAm : Int32) (zH : Int32), (0 <= Int32.toInt aAm /\ Int32.toInt aAm <= 80) -> (-1 <= Int32.toInt zH /\ Int32.toInt zH <= 80) -> (Int32.toInt rP <= Int32.toInt aAm) -> (Int32.toInt aAm <= Int32.toInt oF) -> post r aAm zH) : wp_X10_sum WT WH post p0 jD mLn oF rP dQ bZ aR aE bI aW m_x gR pW nG oO qO qQ := by
  refine t_X10_product hT hH h_p0 yM zE aAR aA1 aAA zT yL xQ yY yK aAW xK yR xT yF zG zI (by omega) (by omega) (by omega) (fun r35 m_at_33 m_wrong_34 h_m_at_33 h_m_wrong_34 ox36 ox37 => ?_)
  have f38 := aAT r35
  exact ⟨82, tb_X10_sum_6 hT hH jD mLn oF bZ aR aE bI aW m_x gR pW nG oO qO qQ yM zE aAR zT yL xQ yY yK aAW xK yR xT yF zG zI hc0 hpost _ p0 r35 m_at_33 m_wrong_34 h_p0 h_m_at_33 h_m_wrong_34 (by omega) (by omega) (by omega) (by omega)⟩
set_option maxHeartbeats 8000000 in
set_option maxRecDepth 200000 in
theorem t_X10_held {post : Int32 -> Int32 -> Int32 -> Prop} {WT WH : aOw} {rn : Int} (hT : aUg WT rn) (hH : aYK WH rn) {p0 : Int32} {jD : Nat} {mLn oF rP dQ bZ aR aE bI aW : Int32} {m_x gR pW nG oO qO qQ : Nat -> Int32} (h_p0 : 0 <= Int32.toInt p0 /\ Int32.toInt p0 <= 4) (yM : jD = 1 \/ jD = 2) (zE : 1 <= Int32.toInt mLn /\ Int32.toInt mLn <= 80) (aAR : 40 <= Int32.toInt oF /\ Int32.toInt oF <= 40) (aA1 : 0 <= Int32.toInt rP /\ Int32.toInt rP <= 80) (aAA : -1 <= Int32.toInt dQ /\ Int32.toInt dQ <= -1) (zT : 0 <= Int32.toInt bZ /\ Int32.toInt bZ <= 1) (yL : 0 <= Int32.toInt aR /\ Int32.toInt aR <= 15) (xQ : 0 <= Int32.toInt aE /\ Int32.toInt aE <= 7) (yY : 0 <= Int32.toInt bI /\ Int32.toInt bI <= 1) (yK : 0 <= Int32.toInt aW /\ Int32.toInt aW <= 63) (aAW : ∀ k : Nat, 0 <= Int32.toInt (m_x k) /\ Int32.toInt (m_x k) <= 99) (xK : ∀ k : Nat, 0 <= Int32.toInt (gR k) /\ Int32.toInt (gR k) <= 99) (yR : ∀ k : Nat, 0 <= Int32.toInt (pW k) /\ Int32.toInt (pW k) <= 9) (xT : ∀ k : Nat, 0 <= Int32.toInt (nG k) /\ Int32.toInt (nG k) <= 99) (yF : ∀ k : Nat, 0 <= Int32.toInt (oO k) /\ Int32.toInt (oO k) <= 99) (zG : ∀ k : Nat, -128 <= Int32.toInt (qO k) /\ Int32.toInt (qO k) <= 127) (zI : ∀ k : Nat, -128 <= Int32.toInt (qQ k) /\ Int32.toInt (qQ k) <= 127) (hc0 : jD = 2 -> Int32.toInt oF <= 40) (hx0 : Int32.toInt rP <= Int32.toInt oF) (hx1 : Int32.toInt oF - Int32.toInt rP < rn + 1) (hpost : ∀ (r : Int32) (aAm : Int32) (zH : Int32), (0 <= Int32.toInt aAm /\ Int32.toInt aAm <= 80) -> (-1 <= Int32.toInt zH /\ Int32.toInt zH <= 80) -> (Int32.toInt rP <= Int32.toInt aAm) -> (Int32.toInt aAm <= Int32.toInt oF) -> post r aAm zH) : wp_X10_held WT WH post p0 jD mLn oF rP dQ bZ aR aE bI aW m_x gR pW nG oO qO qQ := by
  have l0 := aI2
  have l1 := aEc
  have l2 := li_60
  have l3 := li_61
  have l4 := li_62
  refine t_X10_sum hT hH h_p0 yM zE aAR aA1 aAA zT yL xQ yY yK aAW xK yR xT yF zG zI (by omega) (by omega) (by omega) (fun r3 m_at_1 m_wrong_2 h_m_at_1 h_m_wrong_2 ox4 ox5 => ?_)
  refine And.intro (fun c6 => ?_) (fun c6 => ?_)
  · skip
    have c6 := mt (zJ _ _).mpr c6
    refine And.intro (fun _ => ?_) (fun h9 => absurd h9 (by decide))
    refine And.intro (fun _ => ?_) (fun h9 => absurd h9 (by decide))
    refine And.intro (fun c7 => ?_) (fun c7 => ?_)
    · skip
      have c7 := mt (zJ _ _).mpr c7
      refine And.intro (fun _ => ?_) (fun h9 => absurd h9 (by decide))
      refine And.intro (fun _ => ?_) (fun h9 => absurd h9 (by decide))
      refine And.intro (fun c8 => ?_) (fun c8 => ?_)
      · skip
        have c8 := mt (zJ _ _).mpr c8
        refine And.intro (fun _ => ?_) (fun h9 => absurd h9 (by decide))
        refine And.intro (fun _ => ?_) (fun h9 => absurd h9 (by decide))
        exact hpost _ _ _ h_m_at_1 h_m_wrong_2 (by omega) (by omega)
      · skip
        have c8 := (zJ _ _).mp c8
        exfalso; omega
    · skip
      have c7 := (zJ _ _).mp c7
      exfalso; omega
  · skip
    have c6 := (zJ _ _).mp c6
    refine And.intro (fun h9 => absurd h9 (by decide)) (fun _ => ?_)
    refine aOq yM (by omega) (by omega) h_m_at_1 zG zI (by omega) (fun r9 h_r9 ox10 ox11 => ?_)
    refine And.intro (fun c12 => ?_) (fun c12 => ?_)
    · skip
      have c12 := (zJ _ _).mp c12
      intro v13 ev13
      have f14 : Int32.toInt (m_at_1 + 1) = Int32.toInt m_at_1 + Int32.toInt (1 : Int32) := aAD _ _ (by omega)
      rw [<- ev13] at f14
      refine And.intro (fun h9 => absurd h9 (by decide)) (fun _ => ?_)
      refine t_X10_sum hT hH h_p0 yM zE aAR (by omega) (by omega) zT yL xQ yY yK aAW xK yR xT yF zG zI (by omega) (by omega) (by omega) (fun r17 m_at_15 m_wrong_16 h_m_at_15 h_m_wrong_16 ox18 ox19 => ?_)
      have f21 := aAT r3
      have f22 := aAT r17
      refine And.intro (fun c20 => ?_) (fun c20 => ?_)
      · skip
        have c20 := (aAO _ _).mp c20
        exact hpost _ _ _ h_m_at_15 h_m_wrong_16 (by omega) (by omega)
      · skip
        have c20 := mt (aAO _ _).mpr c20
        exact hpost _ _ _ h_m_at_15 h_m_wrong_16 (by omega) (by omega)
    · skip
      have c12 := mt (zJ _ _).mpr c12
      refine And.intro (fun _ => ?_) (fun h9 => absurd h9 (by decide))
      refine And.intro (fun c23 => ?_) (fun c23 => ?_)
      · skip
        have c23 := mt (zJ _ _).mpr c23
        exfalso; omega
      · skip
        have c23 := (zJ _ _).mp c23
        refine And.intro (fun h9 => absurd h9 (by decide)) (fun _ => ?_)
        refine aOq yM (by omega) (by omega) h_m_at_1 zG zI (by omega) (fun r24 h_r24 ox25 ox26 => ?_)
        refine And.intro (fun c27 => ?_) (fun c27 => ?_)
        · skip
          have c27 := (zJ _ _).mp c27
          intro v28 ev28
          have f29 : Int32.toInt (m_at_1 + 1) = Int32.toInt m_at_1 + Int32.toInt (1 : Int32) := aAD _ _ (by omega)
          rw [<- ev28] at f29
          refine And.intro (fun h9 => absurd h9 (by decide)) (fun _ => ?_)
          refine t_X10_sum hT hH h_p0 yM zE aAR (by omega) (by omega) zT yL xQ yY yK aAW xK yR xT yF zG zI (by omega) (by omega) (by omega) (fun r32 m_at_30 m_wrong_31 h_m_at_30 h_m_wrong_31 ox33 ox34 => ?_)
          have f36 := aAT r3
          have f37 := aAT r32
          refine And.intro (fun c35 => ?_) (fun c35 => ?_)
          · skip
            have c35 := (aAO _ _).mp c35
            exact hpost _ _ _ h_m_at_30 h_m_wrong_31 (by omega) (by omega)
          · skip
            have c35 := mt (aAO _ _).mpr c35
            exact hpost _ _ _ h_m_at_30 h_m_wrong_31 (by omega) (by omega)
        · skip
          have c27 := mt (zJ _ _).mpr c27
          refine And.intro (fun _ => ?_) (fun h9 => absurd h9 (by decide))
          refine And.intro (fun c38 => ?_) (fun c38 => ?_)
          · skip
            have c38 := mt (zJ _ _).mpr c38
            exfalso; omega
          · skip
            have c38 := (zJ _ _).mp c38
            refine And.intro (fun h9 => absurd h9 (by decide)) (fun _ => ?_)
            refine aOq yM (by omega) (by omega) h_m_at_1 zG zI (by omega) (fun r39 h_r39 ox40 ox41 => ?_)
            refine And.intro (fun c42 => ?_) (fun c42 => ?_)
            · skip
              have c42 := (zJ _ _).mp c42
              intro v43 ev43
              have f44 : Int32.toInt (m_at_1 + 1) = Int32.toInt m_at_1 + Int32.toInt (1 : Int32) := aAD _ _ (by omega)
              rw [<- ev43] at f44
              refine And.intro (fun h9 => absurd h9 (by decide)) (fun _ => ?_)
              refine t_X10_sum hT hH h_p0 yM zE aAR (by omega) (by omega) zT yL xQ yY yK aAW xK yR xT yF zG zI (by omega) (by omega) (by omega) (fun r47 m_at_45 m_wrong_46 h_m_at_45 h_m_wrong_46 ox48 ox49 => ?_)
              have f51 := aAT r3
              have f52 := aAT r47
              refine And.intro (fun c50 => ?_) (fun c50 => ?_)
              · skip
                have c50 := mt (zJ _ _).mpr c50
                exact hpost _ _ _ h_m_at_45 h_m_wrong_46 (by omega) (by omega)
              · skip
                have c50 := (zJ _ _).mp c50
                exact hpost _ _ _ h_m_at_45 h_m_wrong_46 (by omega) (by omega)
            · skip
              have c42 := mt (zJ _ _).mpr c42
              refine And.intro (fun _ => ?_) (fun h9 => absurd h9 (by decide))
              exact hpost _ _ _ h_m_at_1 h_m_wrong_2 (by omega) (by omega)
set_option maxHeartbeats 4000000 in
theorem rr_X10_t : ∀ n : Nat, aUg (rr_X10 n).1 (n : Int) /\ aYK (rr_X10 n).2 (n : Int) := by
  intro n
  induction n with
  | zero =>
    refine ⟨?_, ?_⟩
    · intro post p0 jD mLn oF rP dQ bZ aR aE bI aW m_x gR pW nG oO qO qQ h_p0 yM zE aAR aA1 aAA zT yL xQ yY yK aAW xK yR xT yF zG zI hc0 hx0 hx1 hpost
      exfalso; omega
    · intro post p0 jD mLn oF rP dQ bZ aR aE bI aW m_x gR pW nG oO qO qQ h_p0 yM zE aAR aA1 aAA zT yL xQ yY yK aAW xK yR xT yF zG zI hc0 hx0 hx1 hpost
      exfalso; omega
  | succ n ih =>
    refine ⟨?_, ?_⟩
    · intro post p0 jD mLn oF rP dQ bZ aR aE bI aW m_x gR pW nG oO qO qQ h_p0 yM zE aAR aA1 aAA zT yL xQ yY yK aAW xK yR xT yF zG zI hc0 hx0 hx1 hpost
      exact t_X10_thing ih.1 ih.2 h_p0 yM zE aAR aA1 aAA zT yL xQ yY yK aAW xK yR xT yF zG zI hc0 (by omega) (by omega) hpost
    · intro post p0 jD mLn oF rP dQ bZ aR aE bI aW m_x gR pW nG oO qO qQ h_p0 yM zE aAR aA1 aAA zT yL xQ yY yK aAW xK yR xT yF zG zI hc0 hx0 hx1 hpost
      exact t_X10_held ih.1 ih.2 h_p0 yM zE aAR aA1 aAA zT yL xQ yY yK aAW xK yR xT yF zG zI hc0 (by omega) (by omega) hpost
theorem t_X10_heldR {post : Int32 -> Int32 -> Int32 -> Prop} {p0 : Int32} {jD : Nat} {mLn oF rP dQ bZ aR aE bI aW : Int32} {m_x gR pW nG oO qO qQ : Nat -> Int32} (h_p0 : 0 <= Int32.toInt p0 /\ Int32.toInt p0 <= 4) (yM : jD = 1 \/ jD = 2) (zE : 1 <= Int32.toInt mLn /\ Int32.toInt mLn <= 80) (aAR : 40 <= Int32.toInt oF /\ Int32.toInt oF <= 40) (aA1 : 0 <= Int32.toInt rP /\ Int32.toInt rP <= 80) (aAA : -1 <= Int32.toInt dQ /\ Int32.toInt dQ <= -1) (zT : 0 <= Int32.toInt bZ /\ Int32.toInt bZ <= 1) (yL : 0 <= Int32.toInt aR /\ Int32.toInt aR <= 15) (xQ : 0 <= Int32.toInt aE /\ Int32.toInt aE <= 7) (yY : 0 <= Int32.toInt bI /\ Int32.toInt bI <= 1) (yK : 0 <= Int32.toInt aW /\ Int32.toInt aW <= 63) (aAW : ∀ k : Nat, 0 <= Int32.toInt (m_x k) /\ Int32.toInt (m_x k) <= 99) (xK : ∀ k : Nat, 0 <= Int32.toInt (gR k) /\ Int32.toInt (gR k) <= 99) (yR : ∀ k : Nat, 0 <= Int32.toInt (pW k) /\ Int32.toInt (pW k) <= 9) (xT : ∀ k : Nat, 0 <= Int32.toInt (nG k) /\ Int32.toInt (nG k) <= 99) (yF : ∀ k : Nat, 0 <= Int32.toInt (oO k) /\ Int32.toInt (oO k) <= 99) (zG : ∀ k : Nat, -128 <= Int32.toInt (qO k) /\ Int32.toInt (qO k) <= 127) (zI : ∀ k : Nat, -128 <= Int32.toInt (qQ k) /\ Int32.toInt (qQ k) <= 127) (hx0 : Int32.toInt rP <= Int32.toInt oF) (hx1 : jD = 2 -> Int32.toInt oF <= 40) (hx2 : Int32.toInt oF <= 42) (hpost : ∀ (r : Int32) (aAm : Int32) (zH : Int32), (0 <= Int32.toInt aAm /\ Int32.toInt aAm <= 80) -> (-1 <= Int32.toInt zH /\ Int32.toInt zH <= 80) -> (Int32.toInt rP <= Int32.toInt aAm) -> (Int32.toInt aAm <= Int32.toInt oF) -> post r aAm zH) : wp_X10_heldR post p0 jD mLn oF rP dQ bZ aR aE bI aW m_x gR pW nG oO qO qQ := t_X10_held (rr_X10_t 43).1 (rr_X10_t 43).2 h_p0 yM zE aAR aA1 aAA zT yL xQ yY yK aAW xK yR xT yF zG zI (by omega) (by omega) (by omega) hpost
set_option maxHeartbeats 8000000 in
set_option maxRecDepth 200000 in
theorem ts_X10_rule_73 {post : Int32 -> Int32 -> Int32 -> Nat -> Int32 -> Int32 -> Int32 -> Int32 -> Int32 -> Int32 -> (Nat -> Int32) -> Prop} {next : Int32 -> Int32 -> Int32 -> Int32 -> Nat -> Int32 -> Int32 -> Int32 -> Int32 -> Int32 -> Int32 -> (Nat -> Int32) -> Prop} {n73 : Int} (aR aE bI aW : Int32) (m_x gR pW nG oO qO : Nat -> Int32) (yL : 0 <= Int32.toInt aR /\ Int32.toInt aR <= 15) (xQ : 0 <= Int32.toInt aE /\ Int32.toInt aE <= 7) (yY : 0 <= Int32.toInt bI /\ Int32.toInt bI <= 1) (yK : 0 <= Int32.toInt aW /\ Int32.toInt aW <= 63) (aAW : ∀ k : Nat, 0 <= Int32.toInt (m_x k) /\ Int32.toInt (m_x k) <= 99) (xK : ∀ k : Nat, 0 <= Int32.toInt (gR k) /\ Int32.toInt (gR k) <= 99) (yR : ∀ k : Nat, 0 <= Int32.toInt (pW k) /\ Int32.toInt (pW k) <= 9) (xT : ∀ k : Nat, 0 <= Int32.toInt (nG k) /\ Int32.toInt (nG k) <= 99) (yF : ∀ k : Nat, 0 <= Int32.toInt (oO k) /\ Int32.toInt (oO k) <= 99) (zG : ∀ k : Nat, -128 <= Int32.toInt (qO k) /\ Int32.toInt (qO k) <= 127) (hpost : ∀ (r : Int32) (aBT : Int32) (xG : Int32) (aAP : Nat) (zS : Int32) (aAz : Int32) (aAm : Int32) (zH : Int32) (aUt : Int32) (aAM : Int32) (m_rule' : Nat -> Int32), (-100 <= Int32.toInt r /\ Int32.toInt r <= 0) -> (0 <= Int32.toInt aBT /\ Int32.toInt aBT <= 0) -> (0 <= Int32.toInt xG /\ Int32.toInt xG <= 0) -> (aAP = 1) -> (0 <= Int32.toInt zS /\ Int32.toInt zS <= 80) -> (40 <= Int32.toInt aAz /\ Int32.toInt aAz <= 40) -> (0 <= Int32.toInt aAm /\ Int32.toInt aAm <= 80) -> (-1 <= Int32.toInt zH /\ Int32.toInt zH <= 80) -> (0 <= Int32.toInt aUt /\ Int32.toInt aUt <= 40) -> (0 <= Int32.toInt aAM /\ Int32.toInt aAM <= 0) -> (∀ k : Nat, -128 <= Int32.toInt (m_rule' k) /\ Int32.toInt (m_rule' k) <= 127) -> post r aBT xG aAP zS aAz aAm zH aUt aAM m_rule') (hKn : ∀ (x1 : Int32) (x2 : Int32) (jC : Int32) (bY : Int32) (jD : Nat) (mLn : Int32) (oF : Int32) (rP : Int32) (dQ : Int32) (bW : Int32) (bZ : Int32) (qQ : Nat -> Int32), (0 <= Int32.toInt x1 /\ Int32.toInt x1 <= 40) -> (0 <= Int32.toInt x2 /\ Int32.toInt x2 <= 40) -> (0 <= Int32.toInt jC /\ Int32.toInt jC <= 0) -> (0 <= Int32.toInt bY /\ Int32.toInt bY <= 0) -> (jD = 1) -> (0 <= Int32.toInt mLn /\ Int32.toInt mLn <= 80) -> (40 <= Int32.toInt oF /\ Int32.toInt oF <= 40) -> (0 <= Int32.toInt rP /\ Int32.toInt rP <= 80) -> (-1 <= Int32.toInt dQ /\ Int32.toInt dQ <= -1) -> (0 <= Int32.toInt bW /\ Int32.toInt bW <= 40) -> (0 <= Int32.toInt bZ /\ Int32.toInt bZ <= 0) -> (∀ k : Nat, -128 <= Int32.toInt (qQ k) /\ Int32.toInt (qQ k) <= 127) -> (40 - Int32.toInt x2 < n73) -> next x1 x2 jC bY jD mLn oF rP dQ bW bZ qQ) (x1 x2 jC bY : Int32) (jD : Nat) (mLn oF rP dQ bW bZ : Int32) (qQ : Nat -> Int32) (aBK : 0 <= Int32.toInt x1 /\ Int32.toInt x1 <= 40) (aBN : 0 <= Int32.toInt x2 /\ Int32.toInt x2 <= 40) (aA4 : 0 <= Int32.toInt jC /\ Int32.toInt jC <= 0) (yG : 0 <= Int32.toInt bY /\ Int32.toInt bY <= 0) (yM : jD = 1) (zE : 0 <= Int32.toInt mLn /\ Int32.toInt mLn <= 80) (aAR : 40 <= Int32.toInt oF /\ Int32.toInt oF <= 40) (aA1 : 0 <= Int32.toInt rP /\ Int32.toInt rP <= 80) (aAA : -1 <= Int32.toInt dQ /\ Int32.toInt dQ <= -1) (zQ : 0 <= Int32.toInt bW /\ Int32.toInt bW <= 40) (zT : 0 <= Int32.toInt bZ /\ Int32.toInt bZ <= 0) (zI : ∀ k : Nat, -128 <= Int32.toInt (qQ k) /\ Int32.toInt (qQ k) <= 127) (hn73 : 40 - Int32.toInt x2 <= n73) : ws_X10_rule_73 post next aR aE bI aW m_x gR pW nG oO qO x1 x2 jC bY jD mLn oF rP dQ bW bZ qQ := by
  have l0 := aE0
  have l1 := aEc
  refine And.intro (fun c1 => ?_) (fun c1 => ?_)
  · skip
    have c1 := (aAO _ _).mp c1
    exact hpost _ _ _ _ _ _ _ _ _ _ _ (by omega) aA4 yG yM zE aAR aA1 (by omega) aBK zT zI
  · skip
    have c1 := mt (aAO _ _).mpr c1
    refine And.intro (aBZ (by omega)) ?_
    intro v2 ev2
    have f3 := zG x2.toNatClampNeg
    have hv2 := congrArg Int32.toInt ev2
    refine And.intro (aBZ (by omega)) ?_
    have qa4 := ti_nar_byte v2
    have a4 : ∀ k : Nat, -128 <= Int32.toInt ((upd qQ x2.toNatClampNeg (vp_nar .byte v2)) k) /\ Int32.toInt ((upd qQ x2.toNatClampNeg (vp_nar .byte v2)) k) <= 127 := t_upd (fun k => by have q9 := zI k; omega) (by omega)
    intro v5 ev5
    have f6 : Int32.toInt (x2 + 1) = Int32.toInt x2 + Int32.toInt (1 : Int32) := aAD _ _ (by omega)
    rw [<- ev5] at f6
    exact hKn x1 v5 jC bY jD mLn oF rP dQ bW bZ (upd qQ x2.toNatClampNeg (vp_nar .byte v2)) aBK (by omega) aA4 yG yM zE aAR aA1 aAA zQ zT (fun k => by have q9 := a4 k; omega) (by omega)
set_option maxHeartbeats 8000000 in
set_option maxRecDepth 200000 in
theorem tb_X10_rule_73 {post : Int32 -> Int32 -> Int32 -> Nat -> Int32 -> Int32 -> Int32 -> Int32 -> Int32 -> Int32 -> (Nat -> Int32) -> Prop} (aR aE bI aW : Int32) (m_x gR pW nG oO qO : Nat -> Int32) (yL : 0 <= Int32.toInt aR /\ Int32.toInt aR <= 15) (xQ : 0 <= Int32.toInt aE /\ Int32.toInt aE <= 7) (yY : 0 <= Int32.toInt bI /\ Int32.toInt bI <= 1) (yK : 0 <= Int32.toInt aW /\ Int32.toInt aW <= 63) (aAW : ∀ k : Nat, 0 <= Int32.toInt (m_x k) /\ Int32.toInt (m_x k) <= 99) (xK : ∀ k : Nat, 0 <= Int32.toInt (gR k) /\ Int32.toInt (gR k) <= 99) (yR : ∀ k : Nat, 0 <= Int32.toInt (pW k) /\ Int32.toInt (pW k) <= 9) (xT : ∀ k : Nat, 0 <= Int32.toInt (nG k) /\ Int32.toInt (nG k) <= 99) (yF : ∀ k : Nat, 0 <= Int32.toInt (oO k) /\ Int32.toInt (oO k) <= 99) (zG : ∀ k : Nat, -128 <= Int32.toInt (qO k) /\ Int32.toInt (qO k) <= 127) (hpost : ∀ (r : Int32) (aBT : Int32) (xG : Int32) (aAP : Nat) (zS : Int32) (aAz : Int32) (aAm : Int32) (zH : Int32) (aUt : Int32) (aAM : Int32) (m_rule' : Nat -> Int32), (-100 <= Int32.toInt r /\ Int32.toInt r <= 0) -> (0 <= Int32.toInt aBT /\ Int32.toInt aBT <= 0) -> (0 <= Int32.toInt xG /\ Int32.toInt xG <= 0) -> (aAP = 1) -> (0 <= Int32.toInt zS /\ Int32.toInt zS <= 80) -> (40 <= Int32.toInt aAz /\ Int32.toInt aAz <= 40) -> (0 <= Int32.toInt aAm /\ Int32.toInt aAm <= 80) -> (-1 <= Int32.toInt zH /\ Int32.toInt zH <= 80) -> (0 <= Int32.toInt aUt /\ Int32.toInt aUt <= 40) -> (0 <= Int32.toInt aAM /\ Int32.toInt aAM <= 0) -> (∀ k : Nat, -128 <= Int32.toInt (m_rule' k) /\ Int32.toInt (m_rule' k) <= 127) -> post r aBT xG aAP zS aAz aAm zH aUt aAM m_rule') : ∀ (n : Nat) (x1 x2 jC bY : Int32) (jD : Nat) (mLn oF rP dQ bW bZ : Int32) (qQ : Nat -> Int32), (0 <= Int32.toInt x1 /\ Int32.toInt x1 <= 40) -> (0 <= Int32.toInt x2 /\ Int32.toInt x2 <= 40) -> (0 <= Int32.toInt jC /\ Int32.toInt jC <= 0) -> (0 <= Int32.toInt bY /\ Int32.toInt bY <= 0) -> (jD = 1) -> (0 <= Int32.toInt mLn /\ Int32.toInt mLn <= 80) -> (40 <= Int32.toInt oF /\ Int32.toInt oF <= 40) -> (0 <= Int32.toInt rP /\ Int32.toInt rP <= 80) -> (-1 <= Int32.toInt dQ /\ Int32.toInt dQ <= -1) -> (0 <= Int32.toInt bW /\ Int32.toInt bW <= 40) -> (0 <= Int32.toInt bZ /\ Int32.toInt bZ <= 0) -> (∀ k : Nat, -128 <= Int32.toInt (qQ k) /\ Int32.toInt (qQ k) <= 127) -> (40 - Int32.toInt x2 < (n : Int)) -> wb_X10_rule_73 post aR aE bI aW m_x gR pW nG oO qO n x1 x2 jC bY jD mLn oF rP dQ bW bZ qQ := by
  intro n
  induction n with
  | zero =>
    intro x1 x2 jC bY jD mLn oF rP dQ bW bZ qQ aBK aBN aA4 yG yM zE aAR aA1 aAA zQ zT zI hm
    exfalso; omega
  | succ n ih =>
    intro x1 x2 jC bY jD mLn oF rP dQ bW bZ qQ aBK aBN aA4 yG yM zE aAR aA1 aAA zQ zT zI hm
    exact ts_X10_rule_73 aR aE bI aW m_x gR pW nG oO qO yL xQ yY yK aAW xK yR xT yF zG hpost ih x1 x2 jC bY jD mLn oF rP dQ bW bZ qQ aBK aBN aA4 yG yM zE aAR aA1 aAA zQ zT zI (by omega)
set_option maxHeartbeats 8000000 in
set_option maxRecDepth 200000 in
theorem ts_X10_rule_71 {post : Int32 -> Int32 -> Int32 -> Nat -> Int32 -> Int32 -> Int32 -> Int32 -> Int32 -> Int32 -> (Nat -> Int32) -> Prop} (aR aE bI aW : Int32) (m_x gR pW nG oO qO : Nat -> Int32) (yL : 0 <= Int32.toInt aR /\ Int32.toInt aR <= 15) (xQ : 0 <= Int32.toInt aE /\ Int32.toInt aE <= 7) (yY : 0 <= Int32.toInt bI /\ Int32.toInt bI <= 1) (yK : 0 <= Int32.toInt aW /\ Int32.toInt aW <= 63) (aAW : ∀ k : Nat, 0 <= Int32.toInt (m_x k) /\ Int32.toInt (m_x k) <= 99) (xK : ∀ k : Nat, 0 <= Int32.toInt (gR k) /\ Int32.toInt (gR k) <= 99) (yR : ∀ k : Nat, 0 <= Int32.toInt (pW k) /\ Int32.toInt (pW k) <= 9) (xT : ∀ k : Nat, 0 <= Int32.toInt (nG k) /\ Int32.toInt (nG k) <= 99) (yF : ∀ k : Nat, 0 <= Int32.toInt (oO k) /\ Int32.toInt (oO k) <= 99) (zG : ∀ k : Nat, -128 <= Int32.toInt (qO k) /\ Int32.toInt (qO k) <= 127) (hpost : ∀ (r : Int32) (aBT : Int32) (xG : Int32) (aAP : Nat) (zS : Int32) (aAz : Int32) (aAm : Int32) (zH : Int32) (aUt : Int32) (aAM : Int32) (m_rule' : Nat -> Int32), (-100 <= Int32.toInt r /\ Int32.toInt r <= 0) -> (0 <= Int32.toInt aBT /\ Int32.toInt aBT <= 0) -> (0 <= Int32.toInt xG /\ Int32.toInt xG <= 0) -> (aAP = 1) -> (0 <= Int32.toInt zS /\ Int32.toInt zS <= 80) -> (40 <= Int32.toInt aAz /\ Int32.toInt aAz <= 40) -> (0 <= Int32.toInt aAm /\ Int32.toInt aAm <= 80) -> (-1 <= Int32.toInt zH /\ Int32.toInt zH <= 80) -> (0 <= Int32.toInt aUt /\ Int32.toInt aUt <= 40) -> (0 <= Int32.toInt aAM /\ Int32.toInt aAM <= 0) -> (∀ k : Nat, -128 <= Int32.toInt (m_rule' k) /\ Int32.toInt (m_rule' k) <= 127) -> post r aBT xG aAP zS aAz aAm zH aUt aAM m_rule') (x1 jC bY : Int32) (jD : Nat) (mLn oF rP dQ bW bZ : Int32) (qQ : Nat -> Int32) (aBK : 0 <= Int32.toInt x1 /\ Int32.toInt x1 <= 40) (aA4 : 0 <= Int32.toInt jC /\ Int32.toInt jC <= 0) (yG : 0 <= Int32.toInt bY /\ Int32.toInt bY <= 0) (yM : jD = 1) (zE : 0 <= Int32.toInt mLn /\ Int32.toInt mLn <= 80) (aAR : 40 <= Int32.toInt oF /\ Int32.toInt oF <= 40) (aA1 : 0 <= Int32.toInt rP /\ Int32.toInt rP <= 80) (aAA : -1 <= Int32.toInt dQ /\ Int32.toInt dQ <= -1) (zQ : 0 <= Int32.toInt bW /\ Int32.toInt bW <= 40) (zT : 0 <= Int32.toInt bZ /\ Int32.toInt bZ <= 0) (zI : ∀ k : Nat, -128 <= Int32.toInt (qQ k) /\ Int32.toInt (qQ k) <= 127) : ws_X10_rule_71 post aR aE bI aW m_x gR pW nG oO qO x1 jC bY jD mLn oF rP dQ bW bZ qQ := by
  have l0 := aE0
  exact ⟨42, tb_X10_rule_73 aR aE bI aW m_x gR pW nG oO qO yL xQ yY yK aAW xK yR xT yF zG hpost _ x1 0 jC bY jD mLn oF rP dQ bW bZ qQ aBK (by omega) aA4 yG yM zE aAR aA1 aAA zQ zT zI (by omega)⟩
set_option maxHeartbeats 8000000 in
set_option maxRecDepth 200000 in
theorem ts_X10_rule_57 {post : Int32 -> Int32 -> Int32 -> Nat -> Int32 -> Int32 -> Int32 -> Int32 -> Int32 -> Int32 -> (Nat -> Int32) -> Prop} (aR aE bI aW : Int32) (m_x gR pW nG oO qO : Nat -> Int32) (yL : 0 <= Int32.toInt aR /\ Int32.toInt aR <= 15) (xQ : 0 <= Int32.toInt aE /\ Int32.toInt aE <= 7) (yY : 0 <= Int32.toInt bI /\ Int32.toInt bI <= 1) (yK : 0 <= Int32.toInt aW /\ Int32.toInt aW <= 63) (aAW : ∀ k : Nat, 0 <= Int32.toInt (m_x k) /\ Int32.toInt (m_x k) <= 99) (xK : ∀ k : Nat, 0 <= Int32.toInt (gR k) /\ Int32.toInt (gR k) <= 99) (yR : ∀ k : Nat, 0 <= Int32.toInt (pW k) /\ Int32.toInt (pW k) <= 9) (xT : ∀ k : Nat, 0 <= Int32.toInt (nG k) /\ Int32.toInt (nG k) <= 99) (yF : ∀ k : Nat, 0 <= Int32.toInt (oO k) /\ Int32.toInt (oO k) <= 99) (zG : ∀ k : Nat, -128 <= Int32.toInt (qO k) /\ Int32.toInt (qO k) <= 127) (hpost : ∀ (r : Int32) (aBT : Int32) (xG : Int32) (aAP : Nat) (zS : Int32) (aAz : Int32) (aAm : Int32) (zH : Int32) (aUt : Int32) (aAM : Int32) (m_rule' : Nat -> Int32), (-100 <= Int32.toInt r /\ Int32.toInt r <= 0) -> (0 <= Int32.toInt aBT /\ Int32.toInt aBT <= 0) -> (0 <= Int32.toInt xG /\ Int32.toInt xG <= 0) -> (aAP = 1) -> (0 <= Int32.toInt zS /\ Int32.toInt zS <= 80) -> (40 <= Int32.toInt aAz /\ Int32.toInt aAz <= 40) -> (0 <= Int32.toInt aAm /\ Int32.toInt aAm <= 80) -> (-1 <= Int32.toInt zH /\ Int32.toInt zH <= 80) -> (0 <= Int32.toInt aUt /\ Int32.toInt aUt <= 40) -> (0 <= Int32.toInt aAM /\ Int32.toInt aAM <= 0) -> (∀ k : Nat, -128 <= Int32.toInt (m_rule' k) /\ Int32.toInt (m_rule' k) <= 127) -> post r aBT xG aAP zS aAz aAm zH aUt aAM m_rule') (x1 jC bY : Int32) (jD : Nat) (mLn oF rP dQ bW bZ : Int32) (qQ : Nat -> Int32) (aBK : 1 <= Int32.toInt x1 /\ Int32.toInt x1 <= 80) (aA4 : 0 <= Int32.toInt jC /\ Int32.toInt jC <= 0) (yG : 0 <= Int32.toInt bY /\ Int32.toInt bY <= 0) (yM : jD = 1) (zE : 1 <= Int32.toInt mLn /\ Int32.toInt mLn <= 80) (aAR : 40 <= Int32.toInt oF /\ Int32.toInt oF <= 40) (aA1 : 0 <= Int32.toInt rP /\ Int32.toInt rP <= 80) (aAA : -1 <= Int32.toInt dQ /\ Int32.toInt dQ <= 80) (zQ : 0 <= Int32.toInt bW /\ Int32.toInt bW <= 40) (zT : 0 <= Int32.toInt bZ /\ Int32.toInt bZ <= 0) (zI : ∀ k : Nat, -128 <= Int32.toInt (qQ k) /\ Int32.toInt (qQ k) <= 127) (hx0 : Int32.toInt dQ ≠ -1 \/ Int32.toInt x1 <= Int32.toInt rP) (hx1 : Int32.toInt rP <= 40) : ws_X10_rule_57 post aR aE bI aW m_x gR pW nG oO qO x1 jC bY jD mLn oF rP dQ bW bZ qQ := by
  have l0 := aI2
  refine And.intro (fun c7 => ?_) (fun c7 => ?_)
  · skip
    have c7 := mt (zJ _ _).mpr c7
    refine And.intro (fun h9 => absurd h9 (by decide)) (fun _ => ?_)
    have f8 : Int32.toInt ((-1) - dQ) = Int32.toInt ((-1) : Int32) - Int32.toInt dQ := aCA _ _ (by omega)
    obtain ⟨w9, ew9⟩ : ∃ w9 : Int32, w9 = (-1) - dQ := ⟨_, rfl⟩
    rw [<- ew9] at f8
    have key9 := hpost w9 jC bY jD mLn oF rP dQ bW bZ qQ (by omega) aA4 yG yM (by omega) aAR aA1 aAA zQ zT zI
    subst ew9
    exact key9
  · skip
    have c7 := (zJ _ _).mp c7
    refine And.intro (fun _ => ?_) (fun h9 => absurd h9 (by decide))
    exact ts_X10_rule_71 aR aE bI aW m_x gR pW nG oO qO yL xQ yY yK aAW xK yR xT yF zG hpost x1 jC bY jD mLn oF rP dQ bW bZ qQ (by omega) aA4 yG yM (by omega) aAR aA1 (by omega) zQ zT zI
set_option maxHeartbeats 8000000 in
set_option maxRecDepth 200000 in
theorem t_X10_rule {post : Int32 -> Int32 -> Int32 -> Nat -> Int32 -> Int32 -> Int32 -> Int32 -> Int32 -> Int32 -> (Nat -> Int32) -> Prop} {jC bY : Int32} {jD : Nat} {mLn oF rP dQ bW bZ aR aE bI aW : Int32} {m_x gR pW nG oO qO qQ : Nat -> Int32} (aA4 : 0 <= Int32.toInt jC /\ Int32.toInt jC <= 80) (yG : 0 <= Int32.toInt bY /\ Int32.toInt bY <= 1) (yM : jD = 0 \/ jD = 1 \/ jD = 2) (zE : 0 <= Int32.toInt mLn /\ Int32.toInt mLn <= 80) (aAR : 0 <= Int32.toInt oF /\ Int32.toInt oF <= 80) (aA1 : 0 <= Int32.toInt rP /\ Int32.toInt rP <= 80) (aAA : -1 <= Int32.toInt dQ /\ Int32.toInt dQ <= 80) (zQ : 0 <= Int32.toInt bW /\ Int32.toInt bW <= 40) (zT : 0 <= Int32.toInt bZ /\ Int32.toInt bZ <= 0) (yL : 0 <= Int32.toInt aR /\ Int32.toInt aR <= 15) (xQ : 0 <= Int32.toInt aE /\ Int32.toInt aE <= 7) (yY : 0 <= Int32.toInt bI /\ Int32.toInt bI <= 1) (yK : 0 <= Int32.toInt aW /\ Int32.toInt aW <= 63) (aAW : ∀ k : Nat, 0 <= Int32.toInt (m_x k) /\ Int32.toInt (m_x k) <= 99) (xK : ∀ k : Nat, 0 <= Int32.toInt (gR k) /\ Int32.toInt (gR k) <= 99) (yR : ∀ k : Nat, 0 <= Int32.toInt (pW k) /\ Int32.toInt (pW k) <= 9) (xT : ∀ k : Nat, 0 <= Int32.toInt (nG k) /\ Int32.toInt (nG k) <= 99) (yF : ∀ k : Nat, 0 <= Int32.toInt (oO k) /\ Int32.toInt (oO k) <= 99) (zG : ∀ k : Nat, -128 <= Int32.toInt (qO k) /\ Int32.toInt (qO k) <= 127) (zI : ∀ k : Nat, -128 <= Int32.toInt (qQ k) /\ Int32.toInt (qQ k) <= 127) (hpost : ∀ (r : Int32) (aBT : Int32) (xG : Int32) (aAP : Nat) (zS : Int32) (aAz : Int32) (aAm : Int32) (zH : Int32) (aUt : Int32) (aAM : Int32) (m_rule' : Nat -> Int32), (-100 <= Int32.toInt r /\ Int32.toInt r <= 0) -> (0 <= Int32.toInt aBT /\ Int32.toInt aBT <= 0) -> (0 <= Int32.toInt xG /\ Int32.toInt xG <= 0) -> (aAP = 1) -> (0 <= Int32.toInt zS /\ Int32.toInt zS <= 80) -> (40 <= Int32.toInt aAz /\ Int32.toInt aAz <= 40) -> (0 <= Int32.toInt aAm /\ Int32.toInt aAm <= 80) -> (-1 <= Int32.toInt zH /\ Int32.toInt zH <= 80) -> (0 <= Int32.toInt aUt /\ Int32.toInt aUt <= 40) -> (0 <= Int32.toInt aAM /\ Int32.toInt aAM <= 0) -> (∀ k : Nat, -128 <= Int32.toInt (m_rule' k) /\ Int32.toInt (m_rule' k) <= 127) -> post r aBT xG aAP zS aAz aAm zH aUt aAM m_rule') : wp_X10_rule post jC bY jD mLn oF rP dQ bW bZ aR aE bI aW m_x gR pW nG oO qO qQ := by
  have l0 := aI2
  have l1 := aE0
  have l2 := li_40
  refine And.intro (fun c10 => ?_) (fun c10 => ?_)
  · skip
    have c10 := (aAO _ _).mp c10
    exact ts_X10_rule_71 aR aE bI aW m_x gR pW nG oO qO yL xQ yY yK aAW xK yR xT yF zG hpost jC 0 0 1 jC 40 0 (-1) bW 0 qQ (by omega) (by omega) (by omega) (by first | exact yM | exact Or.inl rfl | exact Or.inr rfl | omega) aA4 (by omega) (by omega) (by omega) zQ (by omega) zI
  · skip
    have c10 := mt (aAO _ _).mpr c10
    refine t_X10_heldR (by omega) (by first | exact Or.inl rfl | exact Or.inr rfl | rfl) (by omega) (by omega) (by omega) (by omega) (by omega) yL xQ yY yK aAW xK yR xT yF zG zI (by omega) (by omega) (by omega) (fun r13 m_at_11 aVJ h_m_at_11 h_m_wrong_12 ox14 ox15 => ?_)
    refine And.intro (fun c16 => ?_) (fun c16 => ?_)
    · skip
      have c16 := (aAO _ _).mp c16
      exact ts_X10_rule_57 aR aE bI aW m_x gR pW nG oO qO yL xQ yY yK aAW xK yR xT yF zG hpost jC 0 0 1 jC 40 m_at_11 aVJ bW 0 qQ (by omega) (by omega) (by omega) (by first | exact yM | exact Or.inl rfl | exact Or.inr rfl | omega) (by omega) (by omega) h_m_at_11 h_m_wrong_12 zQ (by omega) zI (by omega) (by omega)
    · skip
      have c16 := mt (aAO _ _).mpr c16
      refine And.intro (fun c17 => ?_) (fun c17 => ?_)
      · skip
        have c17 := mt (zJ _ _).mpr c17
        refine And.intro (fun _ => ?_) (fun h9 => absurd h9 (by decide))
        exact ts_X10_rule_57 aR aE bI aW m_x gR pW nG oO qO yL xQ yY yK aAW xK yR xT yF zG hpost jC 0 0 1 jC 40 m_at_11 aVJ bW 0 qQ (by omega) (by omega) (by omega) (by first | exact yM | exact Or.inl rfl | exact Or.inr rfl | omega) (by omega) (by omega) h_m_at_11 h_m_wrong_12 zQ (by omega) zI (by omega) (by omega)
      · skip
        have c17 := (zJ _ _).mp c17
        refine And.intro (fun h9 => absurd h9 (by decide)) (fun _ => ?_)
        exact ts_X10_rule_57 aR aE bI aW m_x gR pW nG oO qO yL xQ yY yK aAW xK yR xT yF zG hpost jC 0 0 1 jC 40 m_at_11 m_at_11 bW 0 qQ (by omega) (by omega) (by omega) (by first | exact yM | exact Or.inl rfl | exact Or.inr rfl | omega) (by omega) (by omega) h_m_at_11 (by omega) zQ (by omega) zI (by omega) (by omega)
theorem aKO {post : Int32 -> Prop} {SB : Int} {p1 bT : Int32} {qG : Nat -> Int32} (h_p1 : 0 <= Int32.toInt p1 /\ Int32.toInt p1 <= 3) (xJ : 0 <= Int32.toInt bT /\ Int32.toInt bT <= 16) (xU : ∀ k : Nat, k = 17 -> -1 <= Int32.toInt (qG k) /\ Int32.toInt (qG k) <= SB) (xV : ∀ k : Nat, k = 19 -> 0 <= Int32.toInt (qG k) /\ Int32.toInt (qG k) <= 9) (hc0 : -1 <= SB /\ SB <= 7) (hpost : ∀ (r : Int32) , (0 <= Int32.toInt r /\ Int32.toInt r <= 65535) -> (r = bsf (Int32.toInt bT).toNat (fun k => decide (qG k = p1))) -> post r) : aIB post p1 bT qG := by
  refine f_which xJ (hpost _ ?_ rfl)
  exact bsf_rng _ (by omega) _
set_option maxHeartbeats 8000000 in
set_option maxRecDepth 200000 in
theorem ts_X10_below_42 {post : Int32 -> Prop} {K5 : Int32 -> Int32 -> Int32 -> Int32 -> Prop} {n5 : Int} (bT : Int32) (m_x gR : Nat -> Int32) (xJ : 0 <= Int32.toInt bT /\ Int32.toInt bT <= 16) (aAW : ∀ k : Nat, 0 <= Int32.toInt (m_x k) /\ Int32.toInt (m_x k) <= 99) (xK : ∀ k : Nat, 0 <= Int32.toInt (gR k) /\ Int32.toInt (gR k) <= 99) (hpost : ∀ (r : Int32) , (0 <= Int32.toInt r /\ Int32.toInt r <= 65535) -> post r) (hK5 : ∀ (x1 : Int32) (x2 : Int32) (x3 : Int32) (x4 : Int32), (0 <= Int32.toInt x1 /\ Int32.toInt x1 <= 15) -> (0 <= Int32.toInt x2 /\ Int32.toInt x2 <= 65535) -> (0 <= Int32.toInt x3 /\ Int32.toInt x3 <= 65535) -> (0 <= Int32.toInt x4 /\ Int32.toInt x4 <= 16) -> (16 - Int32.toInt x4 < n5) -> K5 x1 x2 x3 x4) (x1 x2 x4 k0 k1 : Int32) (aBK : 0 <= Int32.toInt x1 /\ Int32.toInt x1 <= 15) (aBN : 0 <= Int32.toInt x2 /\ Int32.toInt x2 <= 65535) (aDO : 0 <= Int32.toInt x4 /\ Int32.toInt x4 <= 15) (h_k0 : 0 <= Int32.toInt k0 /\ Int32.toInt k0 <= 65535) (h_k1 : 0 <= Int32.toInt k1 /\ Int32.toInt k1 <= 32768) (hn5 : 16 - Int32.toInt x4 <= n5) : ws_X10_below_42 post K5 bT m_x gR x1 x2 x4 k0 k1 := by
  have l0 := aEc
  intro v1 ev1
  have f2 := ti_or 16 65536 k0 k1 (by decide) (by omega) (by omega)
  have hv1 := congrArg Int32.toInt ev1
  intro v3 ev3
  have f4 : Int32.toInt (x4 + 1) = Int32.toInt x4 + Int32.toInt (1 : Int32) := aAD _ _ (by omega)
  rw [<- ev3] at f4
  exact hK5 x1 x2 v1 v3 aBK aBN (by omega) (by omega) (by omega)
set_option maxHeartbeats 8000000 in
set_option maxRecDepth 200000 in
theorem ts_X10_below_41 {post : Int32 -> Prop} {K5 : Int32 -> Int32 -> Int32 -> Int32 -> Prop} {n5 : Int} (bT : Int32) (m_x gR : Nat -> Int32) (xJ : 0 <= Int32.toInt bT /\ Int32.toInt bT <= 16) (aAW : ∀ k : Nat, 0 <= Int32.toInt (m_x k) /\ Int32.toInt (m_x k) <= 99) (xK : ∀ k : Nat, 0 <= Int32.toInt (gR k) /\ Int32.toInt (gR k) <= 99) (hpost : ∀ (r : Int32) , (0 <= Int32.toInt r /\ Int32.toInt r <= 65535) -> post r) (hK5 : ∀ (x1 : Int32) (x2 : Int32) (x3 : Int32) (x4 : Int32), (0 <= Int32.toInt x1 /\ Int32.toInt x1 <= 15) -> (0 <= Int32.toInt x2 /\ Int32.toInt x2 <= 65535) -> (0 <= Int32.toInt x3 /\ Int32.toInt x3 <= 65535) -> (0 <= Int32.toInt x4 /\ Int32.toInt x4 <= 16) -> (16 - Int32.toInt x4 < n5) -> K5 x1 x2 x3 x4) (x1 x2 x4 k0 : Int32) (aBK : 0 <= Int32.toInt x1 /\ Int32.toInt x1 <= 15) (aBN : 0 <= Int32.toInt x2 /\ Int32.toInt x2 <= 65535) (aDO : 0 <= Int32.toInt x4 /\ Int32.toInt x4 <= 15) (h_k0 : 0 <= Int32.toInt k0 /\ Int32.toInt k0 <= 65535) (hn5 : 16 - Int32.toInt x4 <= n5) : ws_X10_below_41 post K5 bT m_x gR x1 x2 x4 k0 := by
  have l0 := aE0
  exact ts_X10_below_42 bT m_x gR xJ aAW xK hpost hK5 x1 x2 x4 k0 0 aBK aBN aDO h_k0 (by omega) hn5
set_option maxHeartbeats 8000000 in
set_option maxRecDepth 200000 in
theorem ts_X10_below_5 {post : Int32 -> Prop} {next : Int32 -> Int32 -> Int32 -> Int32 -> Prop} {n5 : Int} (bT : Int32) (m_x gR : Nat -> Int32) (xJ : 0 <= Int32.toInt bT /\ Int32.toInt bT <= 16) (aAW : ∀ k : Nat, 0 <= Int32.toInt (m_x k) /\ Int32.toInt (m_x k) <= 99) (xK : ∀ k : Nat, 0 <= Int32.toInt (gR k) /\ Int32.toInt (gR k) <= 99) (hpost : ∀ (r : Int32) , (0 <= Int32.toInt r /\ Int32.toInt r <= 65535) -> post r) (hKn : ∀ (x1 : Int32) (x2 : Int32) (x3 : Int32) (x4 : Int32), (0 <= Int32.toInt x1 /\ Int32.toInt x1 <= 15) -> (0 <= Int32.toInt x2 /\ Int32.toInt x2 <= 65535) -> (0 <= Int32.toInt x3 /\ Int32.toInt x3 <= 65535) -> (0 <= Int32.toInt x4 /\ Int32.toInt x4 <= 16) -> (16 - Int32.toInt x4 < n5) -> next x1 x2 x3 x4) (x1 x2 x3 x4 : Int32) (aBK : 0 <= Int32.toInt x1 /\ Int32.toInt x1 <= 15) (aBN : 0 <= Int32.toInt x2 /\ Int32.toInt x2 <= 65535) (aCH : 0 <= Int32.toInt x3 /\ Int32.toInt x3 <= 65535) (aDO : 0 <= Int32.toInt x4 /\ Int32.toInt x4 <= 16) (hn5 : 16 - Int32.toInt x4 <= n5) : ws_X10_below_5 post next bT m_x gR x1 x2 x3 x4 := by
  have l0 := aEc
  refine And.intro (fun c5 => ?_) (fun c5 => ?_)
  · skip
    have c5 := (aAO _ _).mp c5
    exact hpost _ aCH
  · skip
    have c5 := mt (aAO _ _).mpr c5
    intro v6 ev6
    have f7 := aRJ x2 x4 (by omega)
    have hv6 := congrArg Int32.toInt ev6
    intro v8 ev8
    have f9 := aAQ v6 1 (by omega)
    have f10 := aBx v6 1 (by omega)
    have hv8 := congrArg Int32.toInt ev8
    refine And.intro (fun c11 => ?_) (fun c11 => ?_)
    · skip
      have c11 := mt (zJ _ _).mpr c11
      refine And.intro (fun _ => ?_) (fun h9 => absurd h9 (by decide))
      exact ts_X10_below_41 bT m_x gR xJ aAW xK hpost hKn x1 x2 x4 x3 aBK aBN (by omega) aCH hn5
    · skip
      have c11 := (zJ _ _).mp c11
      refine And.intro (fun h9 => absurd h9 (by decide)) (fun _ => ?_)
      refine And.intro (aBZ (by omega)) ?_
      intro v12 ev12
      have f13 := aAW x1.toNatClampNeg
      have hv12 := congrArg Int32.toInt ev12
      refine And.intro (aBZ (by omega)) ?_
      intro v14 ev14
      have f16 := aAW x4.toNatClampNeg
      have f15 : Int32.toInt (v12 - (m_x x4.toNatClampNeg)) = Int32.toInt v12 - Int32.toInt (m_x x4.toNatClampNeg) := aCA _ _ (by omega)
      rw [<- ev14] at f15
      intro v17 ev17
      have f18 := ti_abs v14 (by omega)
      have hv17 := congrArg Int32.toInt ev17
      refine And.intro (fun c19 => ?_) (fun c19 => ?_)
      · skip
        have c19 := (aAd _ _).mp c19
        refine And.intro (fun _ => ?_) (fun h9 => absurd h9 (by decide))
        exact ts_X10_below_41 bT m_x gR xJ aAW xK hpost hKn x1 x2 x4 x3 aBK aBN (by omega) aCH hn5
      · skip
        have c19 := mt (aAd _ _).mpr c19
        refine And.intro (aBZ (by omega)) ?_
        intro v20 ev20
        have f21 := xK x4.toNatClampNeg
        have hv20 := congrArg Int32.toInt ev20
        refine And.intro (aBZ (by omega)) ?_
        have f23 := xK x1.toNatClampNeg
        refine And.intro (fun c22 => ?_) (fun c22 => ?_)
        · skip
          have c22 := (aAO _ _).mp c22
          refine And.intro (fun _ => ?_) (fun h9 => absurd h9 (by decide))
          exact ts_X10_below_41 bT m_x gR xJ aAW xK hpost hKn x1 x2 x4 x3 aBK aBN (by omega) aCH hn5
        · skip
          have c22 := mt (aAO _ _).mpr c22
          refine And.intro (fun h9 => absurd h9 (by decide)) (fun _ => ?_)
          intro v24 ev24
          have f25 := aDv 15 32768 x4 (by decide) (by omega)
          have hv24 := congrArg Int32.toInt ev24
          exact ts_X10_below_42 bT m_x gR xJ aAW xK hpost hKn x1 x2 x4 x3 v24 aBK aBN (by omega) aCH (by omega) hn5
set_option maxHeartbeats 8000000 in
set_option maxRecDepth 200000 in
theorem tb_X10_below_5 {post : Int32 -> Prop} (bT : Int32) (m_x gR : Nat -> Int32) (xJ : 0 <= Int32.toInt bT /\ Int32.toInt bT <= 16) (aAW : ∀ k : Nat, 0 <= Int32.toInt (m_x k) /\ Int32.toInt (m_x k) <= 99) (xK : ∀ k : Nat, 0 <= Int32.toInt (gR k) /\ Int32.toInt (gR k) <= 99) (hpost : ∀ (r : Int32) , (0 <= Int32.toInt r /\ Int32.toInt r <= 65535) -> post r) : ∀ (n : Nat) (x1 x2 x3 x4 : Int32), (0 <= Int32.toInt x1 /\ Int32.toInt x1 <= 15) -> (0 <= Int32.toInt x2 /\ Int32.toInt x2 <= 65535) -> (0 <= Int32.toInt x3 /\ Int32.toInt x3 <= 65535) -> (0 <= Int32.toInt x4 /\ Int32.toInt x4 <= 16) -> (16 - Int32.toInt x4 < (n : Int)) -> wb_X10_below_5 post bT m_x gR n x1 x2 x3 x4 := by
  intro n
  induction n with
  | zero =>
    intro x1 x2 x3 x4 aBK aBN aCH aDO hm
    exfalso; omega
  | succ n ih =>
    intro x1 x2 x3 x4 aBK aBN aCH aDO hm
    exact ts_X10_below_5 bT m_x gR xJ aAW xK hpost ih x1 x2 x3 x4 aBK aBN aCH aDO (by omega)
set_option maxHeartbeats 8000000 in
set_option maxRecDepth 200000 in
theorem t_X10_below {post : Int32 -> Prop} {p0 p1 bT : Int32} {m_x gR : Nat -> Int32} (h_p0 : 0 <= Int32.toInt p0 /\ Int32.toInt p0 <= 15) (h_p1 : 0 <= Int32.toInt p1 /\ Int32.toInt p1 <= 65535) (xJ : 0 <= Int32.toInt bT /\ Int32.toInt bT <= 16) (aAW : ∀ k : Nat, 0 <= Int32.toInt (m_x k) /\ Int32.toInt (m_x k) <= 99) (xK : ∀ k : Nat, 0 <= Int32.toInt (gR k) /\ Int32.toInt (gR k) <= 99) (hpost : ∀ (r : Int32) , (0 <= Int32.toInt r /\ Int32.toInt r <= 65535) -> post r) : wp_X10_below post p0 p1 bT m_x gR := by
  have l0 := aE0
  exact ⟨18, tb_X10_below_5 bT m_x gR xJ aAW xK hpost _ p0 p1 0 0 h_p0 h_p1 (by omega) (by omega) (by omega)⟩
set_option maxHeartbeats 8000000 in
set_option maxRecDepth 200000 in
theorem ts_X10_fruit_23 {post : Int32 -> Int32 -> Prop} {SB : Int} (bT : Int32) (qG m_x gR pW qR : Nat -> Int32) (xJ : 0 <= Int32.toInt bT /\ Int32.toInt bT <= 16) (xU : ∀ k : Nat, k = 17 -> -1 <= Int32.toInt (qG k) /\ Int32.toInt (qG k) <= SB) (xV : ∀ k : Nat, k = 19 -> 0 <= Int32.toInt (qG k) /\ Int32.toInt (qG k) <= 9) (aAW : ∀ k : Nat, 0 <= Int32.toInt (m_x k) /\ Int32.toInt (m_x k) <= 99) (xK : ∀ k : Nat, 0 <= Int32.toInt (gR k) /\ Int32.toInt (gR k) <= 99) (yR : ∀ k : Nat, 0 <= Int32.toInt (pW k) /\ Int32.toInt (pW k) <= 9) (zM : ∀ k : Nat, 0 <= Int32.toInt (qR k) /\ Int32.toInt (qR k) <= 9) (hc0 : -1 <= SB /\ SB <= 7) (hpost : ∀ (r : Int32) (xG : Int32), (0 <= Int32.toInt xG /\ Int32.toInt xG <= 1) -> post r xG) (bY : Int32) (yG : 0 <= Int32.toInt bY /\ Int32.toInt bY <= 0) : ws_X10_fruit_23 post bT qG m_x gR pW qR bY := by
  have l0 := aEc
  exact hpost _ _ (by omega)
set_option maxHeartbeats 8000000 in
set_option maxRecDepth 200000 in
theorem t_X10_fruit {post : Int32 -> Int32 -> Prop} {SB : Int} {p0 p1 bT bY : Int32} {qG m_x gR pW qR : Nat -> Int32} (xJ : 0 <= Int32.toInt bT /\ Int32.toInt bT <= 16) (yG : 0 <= Int32.toInt bY /\ Int32.toInt bY <= 1) (xU : ∀ k : Nat, k = 17 -> -1 <= Int32.toInt (qG k) /\ Int32.toInt (qG k) <= SB) (xV : ∀ k : Nat, k = 19 -> 0 <= Int32.toInt (qG k) /\ Int32.toInt (qG k) <= 9) (aAW : ∀ k : Nat, 0 <= Int32.toInt (m_x k) /\ Int32.toInt (m_x k) <= 99) (xK : ∀ k : Nat, 0 <= Int32.toInt (gR k) /\ Int32.toInt (gR k) <= 99) (yR : ∀ k : Nat, 0 <= Int32.toInt (pW k) /\ Int32.toInt (pW k) <= 9) (zM : ∀ k : Nat, 0 <= Int32.toInt (qR k) /\ Int32.toInt (qR k) <= 9) (hc0 : -1 <= SB /\ SB <= 7) (hpost : ∀ (r : Int32) (xG : Int32), (0 <= Int32.toInt xG /\ Int32.toInt xG <= 1) -> post r xG) : wp_X10_fruit post p0 p1 bT bY qG m_x gR pW qR := by
  have l0 := aE0
  have l1 := aEc
  have l2 := li_16
  have l3 := li_2
  have l4 := li_3
  have l5 := li_4
  have l6 := li_5
  have l7 := li_6
  intro v1 ev1
  have f2 : Int32.toInt (bT - 1) = Int32.toInt bT - Int32.toInt (1 : Int32) := aCA _ _ (by omega)
  rw [<- ev1] at f2
  have f4 := aAT p0
  refine And.intro (fun c3 => ?_) (fun c3 => ?_)
  · skip
    have c3 := (aAd _ _).mp c3
    refine And.intro (aHE (by omega)) ?_
    refine And.intro (fun _ => ?_) (fun h9 => absurd h9 (by decide))
    exact ts_X10_fruit_23 bT qG m_x gR pW qR xJ xU xV aAW xK yR zM hc0 hpost 0 (by omega)
  · skip
    have c3 := mt (aAd _ _).mpr c3
    refine And.intro (fun c5 => ?_) (fun c5 => ?_)
    · skip
      have c5 := (aAd _ _).mp c5
      refine And.intro (aHE (by omega)) ?_
      refine And.intro (fun _ => ?_) (fun h9 => absurd h9 (by decide))
      exact ts_X10_fruit_23 bT qG m_x gR pW qR xJ xU xV aAW xK yR zM hc0 hpost 0 (by omega)
    · skip
      have c5 := mt (aAd _ _).mpr c5
      refine And.intro (aHE (by omega)) ?_
      refine And.intro (fun h9 => absurd h9 (by decide)) (fun _ => ?_)
      have f7 := aAT p1
      refine And.intro (fun c6 => ?_) (fun c6 => ?_)
      · skip
        have c6 := (aAd _ _).mp c6
        refine And.intro (fun h9 => absurd h9 (by decide)) (fun _ => ?_)
        exact ts_X10_fruit_23 bT qG m_x gR pW qR xJ xU xV aAW xK yR zM hc0 hpost 0 (by omega)
      · skip
        have c6 := mt (aAd _ _).mpr c6
        refine And.intro (fun c8 => ?_) (fun c8 => ?_)
        · skip
          have c8 := (aAd _ _).mp c8
          refine And.intro (fun h9 => absurd h9 (by decide)) (fun _ => ?_)
          exact ts_X10_fruit_23 bT qG m_x gR pW qR xJ xU xV aAW xK yR zM hc0 hpost 0 (by omega)
        · skip
          have c8 := mt (aAd _ _).mpr c8
          refine And.intro (fun _ => ?_) (fun h9 => absurd h9 (by decide))
          refine And.intro (fun c9 => ?_) ?_
          · skip
            have c9 := (zJ _ _).mp c9
            refine And.intro (aBZ (by omega)) ?_
            exact hpost _ _ (by omega)
          refine And.intro (fun c10 => ?_) ?_
          · skip
            have c10 := (zJ _ _).mp c10
            refine And.intro (aBZ (by omega)) ?_
            exact hpost _ _ (by omega)
          refine And.intro (fun c11 => ?_) ?_
          · skip
            have c11 := (zJ _ _).mp c11
            refine And.intro (aBZ (by omega)) ?_
            exact hpost _ _ (by omega)
          refine And.intro (fun c12 => ?_) ?_
          · skip
            have c12 := (zJ _ _).mp c12
            refine And.intro (aBZ (by omega)) ?_
            exact hpost _ _ (by omega)
          refine And.intro (fun c13 => ?_) ?_
          · skip
            have c13 := (zJ _ _).mp c13
            refine And.intro (aBZ (by omega)) ?_
            exact hpost _ _ (by omega)
          refine And.intro (fun c14 => ?_) ?_
          · skip
            have c14 := (zJ _ _).mp c14
            intro v15 ev15
            have hv15 := congrArg Int32.toInt ev15
            intro v17 ev17
            exact hpost _ _ (by omega)
          intro c18 c19 c20 c21 c22 c23
          have c18 := mt (zJ _ _).mpr c18
          have c19 := mt (zJ _ _).mpr c19
          have c20 := mt (zJ _ _).mpr c20
          have c21 := mt (zJ _ _).mpr c21
          have c22 := mt (zJ _ _).mpr c22
          have c23 := mt (zJ _ _).mpr c23
          refine And.intro (aBZ (by omega)) ?_
          refine And.intro (fun c24 => ?_) (fun c24 => ?_)
          · skip
            have c24 := mt (zJ _ _).mpr c24
            exact hpost _ _ (by omega)
          · skip
            have c24 := (zJ _ _).mp c24
            refine aKO (by omega) xJ xU xV (by omega) (fun r26 h_r26 ox27 => ?_)
            refine t_X10_below (by omega) h_r26 xJ aAW xK (fun r28 h_r28 => ?_)
            exact hpost _ _ (by omega)
set_option maxHeartbeats 8000000 in
set_option maxRecDepth 200000 in
theorem ts_X10_standing_22 {post : Int32 -> Int32 -> Prop} (aG : Int32) (nG oO : Nat -> Int32) (vZ : 0 <= Int32.toInt aG /\ Int32.toInt aG <= 8) (xT : ∀ k : Nat, 0 <= Int32.toInt (nG k) /\ Int32.toInt (nG k) <= 99) (yF : ∀ k : Nat, 0 <= Int32.toInt (oO k) /\ Int32.toInt (oO k) <= 99) (hpost : ∀ (r : Int32) (xG : Int32), (0 <= Int32.toInt r /\ Int32.toInt r <= 99) -> (0 <= Int32.toInt xG /\ Int32.toInt xG <= 1) -> post r xG) (bY : Int32) (yG : 0 <= Int32.toInt bY /\ Int32.toInt bY <= 0) : ws_X10_standing_22 post aG nG oO bY := by
  have l0 := aE0
  have l1 := aEc
  exact hpost _ _ (by omega) (by omega)
set_option maxHeartbeats 8000000 in
set_option maxRecDepth 200000 in
theorem t_X10_standing {post : Int32 -> Int32 -> Prop} {p0 p1 aG bY : Int32} {nG oO : Nat -> Int32} (vZ : 0 <= Int32.toInt aG /\ Int32.toInt aG <= 8) (yG : 0 <= Int32.toInt bY /\ Int32.toInt bY <= 1) (xT : ∀ k : Nat, 0 <= Int32.toInt (nG k) /\ Int32.toInt (nG k) <= 99) (yF : ∀ k : Nat, 0 <= Int32.toInt (oO k) /\ Int32.toInt (oO k) <= 99) (hpost : ∀ (r : Int32) (xG : Int32), (0 <= Int32.toInt r /\ Int32.toInt r <= 99) -> (0 <= Int32.toInt xG /\ Int32.toInt xG <= 1) -> post r xG) : bCK post p0 p1 aG bY nG oO := by
  have l0 := aE0
  have l1 := aEc
  have l2 := li_10
  have l3 := li_2
  have l4 := li_3
  have l5 := li_9
  intro v1 ev1
  have f2 : Int32.toInt (aG - 1) = Int32.toInt aG - Int32.toInt (1 : Int32) := aCA _ _ (by omega)
  rw [<- ev1] at f2
  have f4 := aAT p0
  refine And.intro (fun c3 => ?_) (fun c3 => ?_)
  · skip
    have c3 := (aAd _ _).mp c3
    refine And.intro (aHE (by omega)) ?_
    refine And.intro (fun _ => ?_) (fun h9 => absurd h9 (by decide))
    exact ts_X10_standing_22 aG nG oO vZ xT yF hpost 0 (by omega)
  · skip
    have c3 := mt (aAd _ _).mpr c3
    refine And.intro (fun c5 => ?_) (fun c5 => ?_)
    · skip
      have c5 := (aAd _ _).mp c5
      refine And.intro (aHE (by omega)) ?_
      refine And.intro (fun _ => ?_) (fun h9 => absurd h9 (by decide))
      exact ts_X10_standing_22 aG nG oO vZ xT yF hpost 0 (by omega)
    · skip
      have c5 := mt (aAd _ _).mpr c5
      refine And.intro (aHE (by omega)) ?_
      refine And.intro (fun h9 => absurd h9 (by decide)) (fun _ => ?_)
      have f7 := aAT p1
      refine And.intro (fun c6 => ?_) (fun c6 => ?_)
      · skip
        have c6 := (aAd _ _).mp c6
        refine And.intro (fun h9 => absurd h9 (by decide)) (fun _ => ?_)
        exact ts_X10_standing_22 aG nG oO vZ xT yF hpost 0 (by omega)
      · skip
        have c6 := mt (aAd _ _).mpr c6
        refine And.intro (fun c8 => ?_) (fun c8 => ?_)
        · skip
          have c8 := (aAd _ _).mp c8
          refine And.intro (fun h9 => absurd h9 (by decide)) (fun _ => ?_)
          exact ts_X10_standing_22 aG nG oO vZ xT yF hpost 0 (by omega)
        · skip
          have c8 := mt (aAd _ _).mpr c8
          refine And.intro (fun _ => ?_) (fun h9 => absurd h9 (by decide))
          refine And.intro (fun c9 => ?_) (fun c9 => ?_)
          · skip
            have c9 := mt (zJ _ _).mpr c9
            refine And.intro (fun c10 => ?_) (fun c10 => ?_)
            · skip
              have c10 := mt (zJ _ _).mpr c10
              refine And.intro (aBZ (by omega)) ?_
              intro v11 ev11
              have f12 := yF p0.toNatClampNeg
              have hv11 := congrArg Int32.toInt ev11
              intro v13 ev13
              have f14 : Int32.toInt (v11 + 9) = Int32.toInt v11 + Int32.toInt (9 : Int32) := aAD _ _ (by omega)
              rw [<- ev13] at f14
              have f16 : Int32.toInt (v13 / 10) = Int32.toInt v13 / 10 := ti_div _ _ (by decide) (by omega) (by decide)
              have f15 : Int32.toInt (3 + (v13 / 10)) = Int32.toInt (3 : Int32) + Int32.toInt (v13 / 10) := aAD _ _ (by omega)
              exact hpost _ _ (by omega) (by omega)
            · skip
              have c10 := (zJ _ _).mp c10
              refine And.intro (aBZ (by omega)) ?_
              intro v17 ev17
              have f18 := yF p0.toNatClampNeg
              have hv17 := congrArg Int32.toInt ev17
              exact hpost _ _ (by omega) (by omega)
          · skip
            have c9 := (zJ _ _).mp c9
            refine And.intro (aBZ (by omega)) ?_
            intro v19 ev19
            have f20 := xT p0.toNatClampNeg
            have hv19 := congrArg Int32.toInt ev19
            exact hpost _ _ (by omega) (by omega)
set_option maxHeartbeats 8000000 in
set_option maxRecDepth 200000 in
theorem ts_X10_set_47 {post : Int32 -> Int32 -> (Nat -> Int32) -> Prop} (hpost : ∀ (r : Int32) (xG : Int32) (m_told' : Nat -> Int32), (0 <= Int32.toInt xG /\ Int32.toInt xG <= 0) -> (∀ k : Nat, k = 4 -> 1 <= Int32.toInt (m_told' k) /\ Int32.toInt (m_told' k) <= 30) -> (∀ k : Nat, k = 3 -> 0 <= Int32.toInt (m_told' k) /\ Int32.toInt (m_told' k) <= 9) -> post r xG m_told') (x1 x2 k0 k1 k2 bY : Int32) (pJ : Nat -> Int32) (aBK : 0 <= Int32.toInt x1 /\ Int32.toInt x1 <= 4) (h_k1 : 0 <= Int32.toInt k1 /\ Int32.toInt k1 <= 1) (h_k2 : 9 <= Int32.toInt k2 /\ Int32.toInt k2 <= 30) (yG : 0 <= Int32.toInt bY /\ Int32.toInt bY <= 0) (yD : ∀ k : Nat, k = 4 -> 1 <= Int32.toInt (pJ k) /\ Int32.toInt (pJ k) <= 30) (xZ : ∀ k : Nat, k = 3 -> 0 <= Int32.toInt (pJ k) /\ Int32.toInt (pJ k) <= 9) (hx0 : Int32.toInt k0 = Int32.toInt x2) (hx1 : Int32.toInt x1 = 4 -> Int32.toInt k1 = 1) (hx2 : Int32.toInt x1 = 3 -> Int32.toInt k2 <= 9) : bCM post x1 x2 k0 k1 k2 bY pJ := by
  have f2 := aAT k0
  refine And.intro (fun c1 => ?_) (fun c1 => ?_)
  · skip
    have c1 := (aAd _ _).mp c1
    refine And.intro (fun h9 => absurd h9 (by decide)) (fun _ => ?_)
    exact hpost _ _ _ yG yD xZ
  · skip
    have c1 := mt (aAd _ _).mpr c1
    refine And.intro (fun c3 => ?_) (fun c3 => ?_)
    · skip
      have c3 := (aAd _ _).mp c3
      refine And.intro (fun h9 => absurd h9 (by decide)) (fun _ => ?_)
      exact hpost _ _ _ yG yD xZ
    · skip
      have c3 := mt (aAd _ _).mpr c3
      refine And.intro (fun _ => ?_) (fun h9 => absurd h9 (by decide))
      refine And.intro (aBZ (by omega)) ?_
      intro v4 ev4
      have hv4 := congrArg Int32.toInt ev4
      refine And.intro (aBZ (by omega)) ?_
      have f7 := aAT x2
      have e6 : ∀ k : Nat, k = 4 -> 1 <= Int32.toInt ((upd pJ x1.toNatClampNeg x2) k) /\ Int32.toInt ((upd pJ x1.toNatClampNeg x2) k) <= 30 := aCJ (C := fun k => k = 4) yD (fun hk => by have e9 : x1.toNatClampNeg = (Int32.toInt x1).toNat := rfl; have hk : x1.toNatClampNeg = 4 := hk; omega)
      have e8 : ∀ k : Nat, k = 3 -> 0 <= Int32.toInt ((upd pJ x1.toNatClampNeg x2) k) /\ Int32.toInt ((upd pJ x1.toNatClampNeg x2) k) <= 9 := aCJ (C := fun k => k = 3) xZ (fun hk => by have e9 : x1.toNatClampNeg = (Int32.toInt x1).toNat := rfl; have hk : x1.toNatClampNeg = 3 := hk; omega)
      exact hpost _ _ _ yG e6 e8
set_option maxHeartbeats 8000000 in
set_option maxRecDepth 200000 in
theorem ts_X10_set_25 {post : Int32 -> Int32 -> (Nat -> Int32) -> Prop} (hpost : ∀ (r : Int32) (xG : Int32) (m_told' : Nat -> Int32), (0 <= Int32.toInt xG /\ Int32.toInt xG <= 0) -> (∀ k : Nat, k = 4 -> 1 <= Int32.toInt (m_told' k) /\ Int32.toInt (m_told' k) <= 30) -> (∀ k : Nat, k = 3 -> 0 <= Int32.toInt (m_told' k) /\ Int32.toInt (m_told' k) <= 9) -> post r xG m_told') (x1 x2 k0 k1 bY : Int32) (pJ : Nat -> Int32) (aBK : 0 <= Int32.toInt x1 /\ Int32.toInt x1 <= 4) (h_k1 : 0 <= Int32.toInt k1 /\ Int32.toInt k1 <= 1) (yG : 0 <= Int32.toInt bY /\ Int32.toInt bY <= 0) (yD : ∀ k : Nat, k = 4 -> 1 <= Int32.toInt (pJ k) /\ Int32.toInt (pJ k) <= 30) (xZ : ∀ k : Nat, k = 3 -> 0 <= Int32.toInt (pJ k) /\ Int32.toInt (pJ k) <= 9) (hx0 : Int32.toInt k0 = Int32.toInt x2) (hx1 : Int32.toInt x1 = 4 -> Int32.toInt k1 = 1) : ws_X10_set_25 post x1 x2 k0 k1 bY pJ := by
  have l0 := li_16
  have l1 := li_3
  have l2 := li_30
  have l3 := li_4
  have l4 := li_9
  refine And.intro (fun c9 => ?_) (fun c9 => ?_)
  · skip
    have c9 := mt (zJ _ _).mpr c9
    refine And.intro (fun c10 => ?_) (fun c10 => ?_)
    · skip
      have c10 := mt (zJ _ _).mpr c10
      have f11 := aAT x2
      have f12 := aAT k0
      exact ts_X10_set_47 hpost x1 x2 k0 k1 30 bY pJ aBK h_k1 (by omega) yG yD xZ hx0 hx1 (by omega)
    · skip
      have c10 := (zJ _ _).mp c10
      have f13 := aAT x2
      have f14 := aAT k0
      exact ts_X10_set_47 hpost x1 x2 k0 k1 9 bY pJ aBK h_k1 (by omega) yG yD xZ hx0 hx1 (by omega)
  · skip
    have c9 := (zJ _ _).mp c9
    have f15 := aAT x2
    have f16 := aAT k0
    exact ts_X10_set_47 hpost x1 x2 k0 k1 16 bY pJ aBK h_k1 (by omega) yG yD xZ hx0 hx1 (by omega)
set_option maxHeartbeats 8000000 in
set_option maxRecDepth 200000 in
theorem t_X10_set {post : Int32 -> Int32 -> (Nat -> Int32) -> Prop} {p0 p1 bY : Int32} {pJ : Nat -> Int32} (yG : 0 <= Int32.toInt bY /\ Int32.toInt bY <= 1) (yD : ∀ k : Nat, k = 4 -> 1 <= Int32.toInt (pJ k) /\ Int32.toInt (pJ k) <= 30) (xZ : ∀ k : Nat, k = 3 -> 0 <= Int32.toInt (pJ k) /\ Int32.toInt (pJ k) <= 9) (hpost : ∀ (r : Int32) (xG : Int32) (m_told' : Nat -> Int32), (0 <= Int32.toInt xG /\ Int32.toInt xG <= 0) -> (∀ k : Nat, k = 4 -> 1 <= Int32.toInt (m_told' k) /\ Int32.toInt (m_told' k) <= 30) -> (∀ k : Nat, k = 3 -> 0 <= Int32.toInt (m_told' k) /\ Int32.toInt (m_told' k) <= 9) -> post r xG m_told') : wp_X10_set post p0 p1 bY pJ := by
  have l0 := aE0
  have l1 := aEc
  have l2 := li_4
  have f18 := aAT p0
  refine And.intro (fun c17 => ?_) (fun c17 => ?_)
  · skip
    have c17 := (aAd _ _).mp c17
    refine And.intro (fun _ => ?_) (fun h9 => absurd h9 (by decide))
    exact hpost _ _ _ (by omega) yD xZ
  · skip
    have c17 := mt (aAd _ _).mpr c17
    refine And.intro (fun c19 => ?_) (fun c19 => ?_)
    · skip
      have c19 := (aAd _ _).mp c19
      refine And.intro (fun _ => ?_) (fun h9 => absurd h9 (by decide))
      exact hpost _ _ _ (by omega) yD xZ
    · skip
      have c19 := mt (aAd _ _).mpr c19
      refine And.intro (fun h9 => absurd h9 (by decide)) (fun _ => ?_)
      refine And.intro (fun c20 => ?_) (fun c20 => ?_)
      · skip
        have c20 := mt (zJ _ _).mpr c20
        have f21 := aAT p1
        exact ts_X10_set_25 hpost p0 p1 p1 0 0 pJ (by omega) (by omega) (by omega) yD xZ (by omega) (by omega)
      · skip
        have c20 := (zJ _ _).mp c20
        have f22 := aAT p1
        exact ts_X10_set_25 hpost p0 p1 p1 1 0 pJ (by omega) (by omega) (by omega) yD xZ (by omega) (by omega)
set_option maxHeartbeats 8000000 in
set_option maxRecDepth 200000 in
theorem ts_X10_sheet_109 {post : Int32 -> Int32 -> (Nat -> Int32) -> Prop} {K43 : Int32 -> Int32 -> Int32 -> Int32 -> Int32 -> Int32 -> Int32 -> (Nat -> Int32) -> Prop} {n43 : Int} (bT : Int32) (xJ : 0 <= Int32.toInt bT /\ Int32.toInt bT <= 16) (hpost : ∀ (r : Int32) (xG : Int32) (aF6 : Nat -> Int32), (0 <= Int32.toInt xG /\ Int32.toInt xG <= 0) -> (∀ k : Nat, 0 <= Int32.toInt (aF6 k) /\ Int32.toInt (aF6 k) <= 9) -> post r xG aF6) (hK43 : ∀ (x1 : Int32) (x2 : Int32) (x4 : Int32) (x5 : Int32) (x6 : Int32) (x7 : Int32) (bY : Int32) (pW : Nat -> Int32), (0 <= Int32.toInt x1 /\ Int32.toInt x1 <= 3) -> (-2147483648 <= Int32.toInt x2 /\ Int32.toInt x2 <= 16) -> (0 <= Int32.toInt x7 /\ Int32.toInt x7 <= 16) -> (0 <= Int32.toInt bY /\ Int32.toInt bY <= 0) -> (∀ k : Nat, 0 <= Int32.toInt (pW k) /\ Int32.toInt (pW k) <= 9) -> (16 - Int32.toInt x7 < n43) -> K43 x1 x2 x4 x5 x6 x7 bY pW) (x1 x2 x4 x5 x6 x7 k1 k2 bY : Int32) (pW : Nat -> Int32) (aBK : 0 <= Int32.toInt x1 /\ Int32.toInt x1 <= 3) (aBN : -2147483648 <= Int32.toInt x2 /\ Int32.toInt x2 <= 16) (h_x7 : 0 <= Int32.toInt x7 /\ Int32.toInt x7 <= 15) (h_k1 : 0 <= Int32.toInt k1 /\ Int32.toInt k1 <= 15) (h_k2 : 0 <= Int32.toInt k2 /\ Int32.toInt k2 <= 9) (yG : 0 <= Int32.toInt bY /\ Int32.toInt bY <= 0) (yR : ∀ k : Nat, 0 <= Int32.toInt (pW k) /\ Int32.toInt (pW k) <= 9) (hn43 : 16 - Int32.toInt x7 <= n43) : aPF post K43 bT x1 x2 x4 x5 x6 x7 k1 k2 bY pW := by
  have l0 := aEc
  refine And.intro (aBZ (by omega)) ?_
  have a1 : ∀ k : Nat, 0 <= Int32.toInt ((upd pW k1.toNatClampNeg k2) k) /\ Int32.toInt ((upd pW k1.toNatClampNeg k2) k) <= 9 := t_upd (fun k => by have q9 := yR k; omega) (by omega)
  refine And.intro (aBZ (by omega)) ?_
  intro v2 ev2
  have hv2 := congrArg Int32.toInt ev2
  intro v4 ev4
  have hv4 := congrArg Int32.toInt ev4
  intro v6 ev6
  have f7 : Int32.toInt (x7 + 1) = Int32.toInt x7 + Int32.toInt (1 : Int32) := aAD _ _ (by omega)
  rw [<- ev6] at f7
  have f8 := aAT x2
  have f9 := aAT x4
  have f10 := aAT v2
  have f11 := aAT v4
  exact hK43 x1 x2 x4 v2 v4 v6 bY (upd pW k1.toNatClampNeg k2) aBK aBN (by omega) yG (fun k => by have q9 := a1 k; omega) (by omega)
set_option maxHeartbeats 8000000 in
set_option maxRecDepth 200000 in
theorem ts_X10_sheet_94 {post : Int32 -> Int32 -> (Nat -> Int32) -> Prop} {K43 : Int32 -> Int32 -> Int32 -> Int32 -> Int32 -> Int32 -> Int32 -> (Nat -> Int32) -> Prop} {n43 : Int} (bT : Int32) (xJ : 0 <= Int32.toInt bT /\ Int32.toInt bT <= 16) (hpost : ∀ (r : Int32) (xG : Int32) (aF6 : Nat -> Int32), (0 <= Int32.toInt xG /\ Int32.toInt xG <= 0) -> (∀ k : Nat, 0 <= Int32.toInt (aF6 k) /\ Int32.toInt (aF6 k) <= 9) -> post r xG aF6) (hK43 : ∀ (x1 : Int32) (x2 : Int32) (x4 : Int32) (x5 : Int32) (x6 : Int32) (x7 : Int32) (bY : Int32) (pW : Nat -> Int32), (0 <= Int32.toInt x1 /\ Int32.toInt x1 <= 3) -> (-2147483648 <= Int32.toInt x2 /\ Int32.toInt x2 <= 16) -> (0 <= Int32.toInt x7 /\ Int32.toInt x7 <= 16) -> (0 <= Int32.toInt bY /\ Int32.toInt bY <= 0) -> (∀ k : Nat, 0 <= Int32.toInt (pW k) /\ Int32.toInt (pW k) <= 9) -> (16 - Int32.toInt x7 < n43) -> K43 x1 x2 x4 x5 x6 x7 bY pW) (x1 x2 x4 x5 x6 x7 k1 bY : Int32) (pW : Nat -> Int32) (aBK : 0 <= Int32.toInt x1 /\ Int32.toInt x1 <= 3) (aBN : -2147483648 <= Int32.toInt x2 /\ Int32.toInt x2 <= 16) (h_x7 : 0 <= Int32.toInt x7 /\ Int32.toInt x7 <= 15) (h_k1 : 0 <= Int32.toInt k1 /\ Int32.toInt k1 <= 15) (yG : 0 <= Int32.toInt bY /\ Int32.toInt bY <= 0) (yR : ∀ k : Nat, 0 <= Int32.toInt (pW k) /\ Int32.toInt (pW k) <= 9) (hn43 : 16 - Int32.toInt x7 <= n43) : aZA post K43 bT x1 x2 x4 x5 x6 x7 k1 bY pW := by
  have l0 := aE0
  have f12 := aAT x2
  have f13 := aAT x4
  have f14 := aAT x5
  have f15 := aAT x6
  exact ts_X10_sheet_109 bT xJ hpost hK43 x1 x2 x4 x5 x6 x7 k1 0 bY pW aBK aBN h_x7 h_k1 (by omega) yG yR hn43
set_option maxHeartbeats 8000000 in
set_option maxRecDepth 200000 in
theorem ts_X10_sheet_75 {post : Int32 -> Int32 -> (Nat -> Int32) -> Prop} {K43 : Int32 -> Int32 -> Int32 -> Int32 -> Int32 -> Int32 -> Int32 -> (Nat -> Int32) -> Prop} {n43 : Int} (bT : Int32) (xJ : 0 <= Int32.toInt bT /\ Int32.toInt bT <= 16) (hpost : ∀ (r : Int32) (xG : Int32) (aF6 : Nat -> Int32), (0 <= Int32.toInt xG /\ Int32.toInt xG <= 0) -> (∀ k : Nat, 0 <= Int32.toInt (aF6 k) /\ Int32.toInt (aF6 k) <= 9) -> post r xG aF6) (hK43 : ∀ (x1 : Int32) (x2 : Int32) (x4 : Int32) (x5 : Int32) (x6 : Int32) (x7 : Int32) (bY : Int32) (pW : Nat -> Int32), (0 <= Int32.toInt x1 /\ Int32.toInt x1 <= 3) -> (-2147483648 <= Int32.toInt x2 /\ Int32.toInt x2 <= 16) -> (0 <= Int32.toInt x7 /\ Int32.toInt x7 <= 16) -> (0 <= Int32.toInt bY /\ Int32.toInt bY <= 0) -> (∀ k : Nat, 0 <= Int32.toInt (pW k) /\ Int32.toInt (pW k) <= 9) -> (16 - Int32.toInt x7 < n43) -> K43 x1 x2 x4 x5 x6 x7 bY pW) (x1 x2 x4 x5 x6 x7 k0 bY : Int32) (pW : Nat -> Int32) (aBK : 0 <= Int32.toInt x1 /\ Int32.toInt x1 <= 3) (aBN : -2147483648 <= Int32.toInt x2 /\ Int32.toInt x2 <= 16) (h_x7 : 0 <= Int32.toInt x7 /\ Int32.toInt x7 <= 15) (yG : 0 <= Int32.toInt bY /\ Int32.toInt bY <= 0) (yR : ∀ k : Nat, 0 <= Int32.toInt (pW k) /\ Int32.toInt (pW k) <= 9) (hn43 : 16 - Int32.toInt x7 <= n43) : ws_X10_sheet_75 post K43 bT x1 x2 x4 x5 x6 x7 k0 bY pW := by
  have l0 := aE0
  have l1 := li_3
  have l2 := li_9
  refine And.intro (fun c16 => ?_) (fun c16 => ?_)
  · skip
    have c16 := (zJ _ _).mp c16
    have f17 := aAT x2
    have f18 := aAT x4
    have f19 := aAT x5
    have f20 := aAT x6
    exact ts_X10_sheet_94 bT xJ hpost hK43 x1 x2 x4 x5 x6 x7 x7 bY pW aBK aBN h_x7 h_x7 yG yR hn43
  · skip
    have c16 := mt (zJ _ _).mpr c16
    have f22 := aAT x2
    refine And.intro (fun c21 => ?_) (fun c21 => ?_)
    · skip
      have c21 := (aAd _ _).mp c21
      intro v23 ev23
      have f24 := aAT (if k0 < 9 then k0 else 9)
      have f26 := aAT k0
      have f25 := ti_min (9 : Int32) k0
      have hv23 := congrArg Int32.toInt ev23
      intro v27 ev27
      have f29 := aAT v23
      have f28 := ti_max (0 : Int32) v23
      have hv27 := congrArg Int32.toInt ev27
      have f30 := aAT x4
      have f31 := aAT x5
      have f32 := aAT x6
      exact ts_X10_sheet_109 bT xJ hpost hK43 x1 x2 x4 x5 x6 x7 x7 v27 bY pW aBK aBN h_x7 h_x7 (by omega) yG yR hn43
    · skip
      have c21 := mt (aAd _ _).mpr c21
      have f33 := aAT x4
      have f34 := aAT x5
      have f35 := aAT x6
      exact ts_X10_sheet_94 bT xJ hpost hK43 x1 x2 x4 x5 x6 x7 x7 bY pW aBK aBN h_x7 h_x7 yG yR hn43
set_option maxHeartbeats 8000000 in
set_option maxRecDepth 200000 in
theorem ts_X10_sheet_43 {post : Int32 -> Int32 -> (Nat -> Int32) -> Prop} {next : Int32 -> Int32 -> Int32 -> Int32 -> Int32 -> Int32 -> Int32 -> (Nat -> Int32) -> Prop} {n43 : Int} (bT : Int32) (xJ : 0 <= Int32.toInt bT /\ Int32.toInt bT <= 16) (hpost : ∀ (r : Int32) (xG : Int32) (aF6 : Nat -> Int32), (0 <= Int32.toInt xG /\ Int32.toInt xG <= 0) -> (∀ k : Nat, 0 <= Int32.toInt (aF6 k) /\ Int32.toInt (aF6 k) <= 9) -> post r xG aF6) (hKn : ∀ (x1 : Int32) (x2 : Int32) (x4 : Int32) (x5 : Int32) (x6 : Int32) (x7 : Int32) (bY : Int32) (pW : Nat -> Int32), (0 <= Int32.toInt x1 /\ Int32.toInt x1 <= 3) -> (-2147483648 <= Int32.toInt x2 /\ Int32.toInt x2 <= 16) -> (0 <= Int32.toInt x7 /\ Int32.toInt x7 <= 16) -> (0 <= Int32.toInt bY /\ Int32.toInt bY <= 0) -> (∀ k : Nat, 0 <= Int32.toInt (pW k) /\ Int32.toInt (pW k) <= 9) -> (16 - Int32.toInt x7 < n43) -> next x1 x2 x4 x5 x6 x7 bY pW) (x1 x2 x4 x5 x6 x7 bY : Int32) (pW : Nat -> Int32) (aBK : 0 <= Int32.toInt x1 /\ Int32.toInt x1 <= 3) (aBN : -2147483648 <= Int32.toInt x2 /\ Int32.toInt x2 <= 16) (h_x7 : 0 <= Int32.toInt x7 /\ Int32.toInt x7 <= 16) (yG : 0 <= Int32.toInt bY /\ Int32.toInt bY <= 0) (yR : ∀ k : Nat, 0 <= Int32.toInt (pW k) /\ Int32.toInt (pW k) <= 9) (hn43 : 16 - Int32.toInt x7 <= n43) : ws_X10_sheet_43 post next bT x1 x2 x4 x5 x6 x7 bY pW := by
  have l0 := aE0
  have l1 := aEc
  have l2 := li_3
  refine And.intro (fun c36 => ?_) (fun c36 => ?_)
  · skip
    have c36 := (aAO _ _).mp c36
    refine And.intro (fun c37 => ?_) (fun c37 => ?_)
    · skip
      have c37 := mt (zJ _ _).mpr c37
      exact hpost _ _ _ yG yR
    · skip
      have c37 := (zJ _ _).mp c37
      exact hpost _ _ _ yG yR
  · skip
    have c36 := mt (aAO _ _).mpr c36
    refine And.intro (fun c38 => ?_) (fun c38 => ?_)
    · skip
      have c38 := mt (zJ _ _).mpr c38
      refine And.intro (fun c39 => ?_) (fun c39 => ?_)
      · skip
        have c39 := mt (zJ _ _).mpr c39
        have f40 := aAT x2
        have f41 := aAT x4
        have f42 := aAT x5
        have f43 := aAT x6
        exact ts_X10_sheet_75 bT xJ hpost hKn x1 x2 x4 x5 x6 x7 x6 bY pW aBK aBN (by omega) yG yR hn43
      · skip
        have c39 := (zJ _ _).mp c39
        intro v44 ev44
        have hv44 := ti_i2s x6
        rw [<- ev44] at hv44
        have f45 := aAT x2
        have f46 := aAT x4
        have f47 := aAT x5
        have f48 := aAT x6
        exact ts_X10_sheet_75 bT xJ hpost hKn x1 x2 x4 x5 x6 x7 v44 bY pW aBK aBN (by omega) yG yR hn43
    · skip
      have c38 := (zJ _ _).mp c38
      intro v49 ev49
      have hv49 := ti_i2b x6
      rw [<- ev49] at hv49
      have f50 := aAT x2
      have f51 := aAT x4
      have f52 := aAT x5
      have f53 := aAT x6
      exact ts_X10_sheet_75 bT xJ hpost hKn x1 x2 x4 x5 x6 x7 v49 bY pW aBK aBN (by omega) yG yR hn43
set_option maxHeartbeats 8000000 in
set_option maxRecDepth 200000 in
theorem tb_X10_sheet_43 {post : Int32 -> Int32 -> (Nat -> Int32) -> Prop} (bT : Int32) (xJ : 0 <= Int32.toInt bT /\ Int32.toInt bT <= 16) (hpost : ∀ (r : Int32) (xG : Int32) (aF6 : Nat -> Int32), (0 <= Int32.toInt xG /\ Int32.toInt xG <= 0) -> (∀ k : Nat, 0 <= Int32.toInt (aF6 k) /\ Int32.toInt (aF6 k) <= 9) -> post r xG aF6) : ∀ (n : Nat) (x1 x2 x4 x5 x6 x7 bY : Int32) (pW : Nat -> Int32), (0 <= Int32.toInt x1 /\ Int32.toInt x1 <= 3) -> (-2147483648 <= Int32.toInt x2 /\ Int32.toInt x2 <= 16) -> (0 <= Int32.toInt x7 /\ Int32.toInt x7 <= 16) -> (0 <= Int32.toInt bY /\ Int32.toInt bY <= 0) -> (∀ k : Nat, 0 <= Int32.toInt (pW k) /\ Int32.toInt (pW k) <= 9) -> (16 - Int32.toInt x7 < (n : Int)) -> wb_X10_sheet_43 post bT n x1 x2 x4 x5 x6 x7 bY pW := by
  intro n
  induction n with
  | zero =>
    intro x1 x2 x4 x5 x6 x7 bY pW aBK aBN h_x7 yG yR hm
    exfalso; omega
  | succ n ih =>
    intro x1 x2 x4 x5 x6 x7 bY pW aBK aBN h_x7 yG yR hm
    exact ts_X10_sheet_43 bT xJ hpost ih x1 x2 x4 x5 x6 x7 bY pW aBK aBN h_x7 yG yR (by omega)
set_option maxHeartbeats 8000000 in
set_option maxRecDepth 200000 in
theorem ts_X10_sheet_34 {post : Int32 -> Int32 -> (Nat -> Int32) -> Prop} (bT : Int32) (xJ : 0 <= Int32.toInt bT /\ Int32.toInt bT <= 16) (hpost : ∀ (r : Int32) (xG : Int32) (aF6 : Nat -> Int32), (0 <= Int32.toInt xG /\ Int32.toInt xG <= 0) -> (∀ k : Nat, 0 <= Int32.toInt (aF6 k) /\ Int32.toInt (aF6 k) <= 9) -> post r xG aF6) (x1 x2 x3 x4 bY : Int32) (pW : Nat -> Int32) (aBK : 0 <= Int32.toInt x1 /\ Int32.toInt x1 <= 3) (aBN : -2147483648 <= Int32.toInt x2 /\ Int32.toInt x2 <= 16) (yG : 0 <= Int32.toInt bY /\ Int32.toInt bY <= 0) (yR : ∀ k : Nat, 0 <= Int32.toInt (pW k) /\ Int32.toInt (pW k) <= 9) : ws_X10_sheet_34 post bT x1 x2 x3 x4 bY pW := by
  have l0 := aE0
  have f54 := aAT x2
  have f55 := aAT x4
  have f56 := aAT x3
  exact ⟨18, tb_X10_sheet_43 bT xJ hpost _ x1 x2 x4 0 x3 0 bY pW aBK aBN (by omega) yG yR (by omega)⟩
set_option maxHeartbeats 8000000 in
set_option maxRecDepth 200000 in
theorem t_X10_sheet {post : Int32 -> Int32 -> (Nat -> Int32) -> Prop} {p0 p1 p2 p3 bT bY : Int32} {pW : Nat -> Int32} (xJ : 0 <= Int32.toInt bT /\ Int32.toInt bT <= 16) (yG : 0 <= Int32.toInt bY /\ Int32.toInt bY <= 1) (yR : ∀ k : Nat, 0 <= Int32.toInt (pW k) /\ Int32.toInt (pW k) <= 9) (hpost : ∀ (r : Int32) (xG : Int32) (aF6 : Nat -> Int32), (0 <= Int32.toInt xG /\ Int32.toInt xG <= 0) -> (∀ k : Nat, 0 <= Int32.toInt (aF6 k) /\ Int32.toInt (aF6 k) <= 9) -> post r xG aF6) : wp_X10_sheet post p0 p1 p2 p3 bT bY pW := by
  have l0 := aE0
  have l1 := li_16
  have l2 := li_3
  have f58 := aAT p0
  refine And.intro (fun c57 => ?_) (fun c57 => ?_)
  · skip
    have c57 := (aAd _ _).mp c57
    refine And.intro (fun _ => ?_) (fun h9 => absurd h9 (by decide))
    exact hpost _ _ _ (by omega) yR
  · skip
    have c57 := mt (aAd _ _).mpr c57
    refine And.intro (fun c59 => ?_) (fun c59 => ?_)
    · skip
      have c59 := (aAd _ _).mp c59
      refine And.intro (fun _ => ?_) (fun h9 => absurd h9 (by decide))
      exact hpost _ _ _ (by omega) yR
    · skip
      have c59 := mt (aAd _ _).mpr c59
      refine And.intro (fun h9 => absurd h9 (by decide)) (fun _ => ?_)
      have f61 := aAT p1
      refine And.intro (fun c60 => ?_) (fun c60 => ?_)
      · skip
        have c60 := (aAO _ _).mp c60
        refine And.intro (fun c62 => ?_) (fun c62 => ?_)
        · skip
          have c62 := (aAO _ _).mp c62
          have f63 := aAT p2
          have f64 := aAT p3
          exact ts_X10_sheet_34 bT xJ hpost p0 p1 p2 p3 0 pW (by omega) (by omega) (by omega) yR
        · skip
          have c62 := mt (aAO _ _).mpr c62
          refine And.intro (fun c65 => ?_) (fun c65 => ?_)
          · skip
            have c65 := (aAO _ _).mp c65
            have f66 := aAT p2
            have f67 := aAT p3
            exact ts_X10_sheet_34 bT xJ hpost p0 p1 p2 p3 0 pW (by omega) (by omega) (by omega) yR
          · skip
            have c65 := mt (aAO _ _).mpr c65
            exact hpost _ _ _ (by omega) yR
      · skip
        have c60 := mt (aAO _ _).mpr c60
        exact hpost _ _ _ (by omega) yR
set_option maxHeartbeats 8000000 in
set_option maxRecDepth 200000 in
theorem ts_X10_lay_2 {post : (Nat -> Int32) -> Prop} {SB : Int} {next : Int32 -> Int32 -> (Nat -> Int32) -> Prop} {n2 : Int} (qG : Nat -> Int32) (xU : ∀ k : Nat, k = 17 -> -1 <= Int32.toInt (qG k) /\ Int32.toInt (qG k) <= SB) (xV : ∀ k : Nat, k = 19 -> 0 <= Int32.toInt (qG k) /\ Int32.toInt (qG k) <= 9) (hc0 : -1 <= SB /\ SB <= 7) (hpost : ∀ (aBl : Nat -> Int32), (∀ k : Nat, k % 21 = 17 -> -1 <= Int32.toInt (aBl k) /\ Int32.toInt (aBl k) <= SB) -> (∀ k : Nat, k % 21 = 19 -> 0 <= Int32.toInt (aBl k) /\ Int32.toInt (aBl k) <= 9) -> post aBl) (hKn : ∀ (x2 : Int32) (x3 : Int32) (uL : Nat -> Int32), (0 <= Int32.toInt x2 /\ Int32.toInt x2 <= 231) -> (0 <= Int32.toInt x3 /\ Int32.toInt x3 <= 21) -> (∀ k : Nat, k % 21 = 17 -> -1 <= Int32.toInt (uL k) /\ Int32.toInt (uL k) <= SB) -> (∀ k : Nat, k % 21 = 19 -> 0 <= Int32.toInt (uL k) /\ Int32.toInt (uL k) <= 9) -> (Int32.toInt x2 % 21 = 0) -> (21 - Int32.toInt x3 < n2) -> next x2 x3 uL) (x2 x3 : Int32) (uL : Nat -> Int32) (aBN : 0 <= Int32.toInt x2 /\ Int32.toInt x2 <= 231) (aCH : 0 <= Int32.toInt x3 /\ Int32.toInt x3 <= 21) (aAo : ∀ k : Nat, k % 21 = 17 -> -1 <= Int32.toInt (uL k) /\ Int32.toInt (uL k) <= SB) (aAp : ∀ k : Nat, k % 21 = 19 -> 0 <= Int32.toInt (uL k) /\ Int32.toInt (uL k) <= 9) (hx0 : Int32.toInt x2 % 21 = 0) (hn2 : 21 - Int32.toInt x3 <= n2) : ws_X10_lay_2 post next qG x2 x3 uL := by
  have l0 := aEc
  have l1 := li_21
  refine And.intro (fun c1 => ?_) (fun c1 => ?_)
  · skip
    have c1 := (aAO _ _).mp c1
    exact hpost _ aAo aAp
  · skip
    have c1 := mt (aAO _ _).mpr c1
    intro v2 ev2
    have f3 : Int32.toInt (x2 + x3) = Int32.toInt x2 + Int32.toInt x3 := aAD _ _ (by omega)
    rw [<- ev2] at f3
    refine And.intro (aBZ (by omega)) ?_
    have q4 := xU x3.toNatClampNeg
    have q5 := xV x3.toNatClampNeg
    have q6 : x3.toNatClampNeg = (Int32.toInt x3).toNat := rfl
    intro v7 ev7
    have hv7 := congrArg Int32.toInt ev7
    refine And.intro (aBZ (by omega)) ?_
    have f10 := aAT v7
    have e9 : ∀ k : Nat, k % 21 = 17 -> -1 <= Int32.toInt ((upd uL v2.toNatClampNeg v7) k) /\ Int32.toInt ((upd uL v2.toNatClampNeg v7) k) <= SB := aCJ (C := fun k => k % 21 = 17) aAo (fun hk => by have e9 : v2.toNatClampNeg = (Int32.toInt v2).toNat := rfl; have hk : v2.toNatClampNeg % 21 = 17 := hk; omega)
    have e11 : ∀ k : Nat, k % 21 = 19 -> 0 <= Int32.toInt ((upd uL v2.toNatClampNeg v7) k) /\ Int32.toInt ((upd uL v2.toNatClampNeg v7) k) <= 9 := aCJ (C := fun k => k % 21 = 19) aAp (fun hk => by have e9 : v2.toNatClampNeg = (Int32.toInt v2).toNat := rfl; have hk : v2.toNatClampNeg % 21 = 19 := hk; omega)
    intro v12 ev12
    have f13 : Int32.toInt (x3 + 1) = Int32.toInt x3 + Int32.toInt (1 : Int32) := aAD _ _ (by omega)
    rw [<- ev12] at f13
    exact hKn x2 v12 (upd uL v2.toNatClampNeg v7) aBN (by omega) e9 e11 hx0 (by omega)
set_option maxHeartbeats 8000000 in
set_option maxRecDepth 200000 in
theorem tb_X10_lay_2 {post : (Nat -> Int32) -> Prop} {SB : Int} (qG : Nat -> Int32) (xU : ∀ k : Nat, k = 17 -> -1 <= Int32.toInt (qG k) /\ Int32.toInt (qG k) <= SB) (xV : ∀ k : Nat, k = 19 -> 0 <= Int32.toInt (qG k) /\ Int32.toInt (qG k) <= 9) (hc0 : -1 <= SB /\ SB <= 7) (hpost : ∀ (aBl : Nat -> Int32), (∀ k : Nat, k % 21 = 17 -> -1 <= Int32.toInt (aBl k) /\ Int32.toInt (aBl k) <= SB) -> (∀ k : Nat, k % 21 = 19 -> 0 <= Int32.toInt (aBl k) /\ Int32.toInt (aBl k) <= 9) -> post aBl) : ∀ (n : Nat) (x2 x3 : Int32) (uL : Nat -> Int32), (0 <= Int32.toInt x2 /\ Int32.toInt x2 <= 231) -> (0 <= Int32.toInt x3 /\ Int32.toInt x3 <= 21) -> (∀ k : Nat, k % 21 = 17 -> -1 <= Int32.toInt (uL k) /\ Int32.toInt (uL k) <= SB) -> (∀ k : Nat, k % 21 = 19 -> 0 <= Int32.toInt (uL k) /\ Int32.toInt (uL k) <= 9) -> (Int32.toInt x2 % 21 = 0) -> (21 - Int32.toInt x3 < (n : Int)) -> wb_X10_lay_2 post qG n x2 x3 uL := by
  intro n
  induction n with
  | zero =>
    intro x2 x3 uL aBN aCH aAo aAp hx0 hm
    exfalso; omega
  | succ n ih =>
    intro x2 x3 uL aBN aCH aAo aAp hx0 hm
    exact ts_X10_lay_2 qG xU xV hc0 hpost ih x2 x3 uL aBN aCH aAo aAp hx0 (by omega)
set_option maxHeartbeats 8000000 in
set_option maxRecDepth 200000 in
theorem t_X10_lay {post : (Nat -> Int32) -> Prop} {SB : Int} {p2 : Int32} {qG uL : Nat -> Int32} (h_p2 : 0 <= Int32.toInt p2 /\ Int32.toInt p2 <= 231) (xU : ∀ k : Nat, k = 17 -> -1 <= Int32.toInt (qG k) /\ Int32.toInt (qG k) <= SB) (xV : ∀ k : Nat, k = 19 -> 0 <= Int32.toInt (qG k) /\ Int32.toInt (qG k) <= 9) (aAo : ∀ k : Nat, k % 21 = 17 -> -1 <= Int32.toInt (uL k) /\ Int32.toInt (uL k) <= SB) (aAp : ∀ k : Nat, k % 21 = 19 -> 0 <= Int32.toInt (uL k) /\ Int32.toInt (uL k) <= 9) (hc0 : -1 <= SB /\ SB <= 7) (hx0 : Int32.toInt p2 % 21 = 0) (hpost : ∀ (aBl : Nat -> Int32), (∀ k : Nat, k % 21 = 17 -> -1 <= Int32.toInt (aBl k) /\ Int32.toInt (aBl k) <= SB) -> (∀ k : Nat, k % 21 = 19 -> 0 <= Int32.toInt (aBl k) /\ Int32.toInt (aBl k) <= 9) -> post aBl) : wp_X10_lay post p2 qG uL := by
  have l0 := aE0
  exact ⟨23, tb_X10_lay_2 qG xU xV hc0 hpost _ p2 0 uL h_p2 (by omega) aAo aAp (by omega) (by omega)⟩
set_option maxHeartbeats 8000000 in
set_option maxRecDepth 200000 in
theorem ts_X10_remember_49 {post : Int32 -> (Nat -> Int32) -> Prop} {SB : Int} (qG : Nat -> Int32) (xU : ∀ k : Nat, k = 17 -> -1 <= Int32.toInt (qG k) /\ Int32.toInt (qG k) <= SB) (xV : ∀ k : Nat, k = 19 -> 0 <= Int32.toInt (qG k) /\ Int32.toInt (qG k) <= 9) (hc0 : -1 <= SB /\ SB <= 7) (hpost : ∀ (aBI : Int32) (aBl : Nat -> Int32), (1 <= Int32.toInt aBI /\ Int32.toInt aBI <= 12) -> (∀ k : Nat, k % 21 = 17 -> -1 <= Int32.toInt (aBl k) /\ Int32.toInt (aBl k) <= SB) -> (∀ k : Nat, k % 21 = 19 -> 0 <= Int32.toInt (aBl k) /\ Int32.toInt (aBl k) <= 9) -> post aBI aBl) (bU : Int32) (uL : Nat -> Int32) (aAZ : 0 <= Int32.toInt bU /\ Int32.toInt bU <= 11) (aAo : ∀ k : Nat, k % 21 = 17 -> -1 <= Int32.toInt (uL k) /\ Int32.toInt (uL k) <= SB) (aAp : ∀ k : Nat, k % 21 = 19 -> 0 <= Int32.toInt (uL k) /\ Int32.toInt (uL k) <= 9) : bCd post qG bU uL := by
  have l0 := aEc
  have l1 := li_21
  intro v1 ev1
  have f2 : Int32.toInt (21 * bU) = Int32.toInt bU * 21 := ta_cmul _ _ (by decide) (by omega)
  rw [<- ev1] at f2
  refine t_X10_lay (by omega) xU xV aAo aAp (by omega) (by omega) (fun aJk e0_m_undos_3 e1_m_undos_3 => ?_)
  intro v4 ev4
  have f5 : Int32.toInt (bU + 1) = Int32.toInt bU + Int32.toInt (1 : Int32) := aAD _ _ (by omega)
  rw [<- ev4] at f5
  exact hpost _ _ (by omega) e0_m_undos_3 e1_m_undos_3
set_option maxHeartbeats 8000000 in
set_option maxRecDepth 200000 in
theorem ts_X10_remember_11 {post : Int32 -> (Nat -> Int32) -> Prop} {SB : Int} {next : Int32 -> Int32 -> (Nat -> Int32) -> Prop} {n11 : Int} (qG : Nat -> Int32) (xU : ∀ k : Nat, k = 17 -> -1 <= Int32.toInt (qG k) /\ Int32.toInt (qG k) <= SB) (xV : ∀ k : Nat, k = 19 -> 0 <= Int32.toInt (qG k) /\ Int32.toInt (qG k) <= 9) (hc0 : -1 <= SB /\ SB <= 7) (hpost : ∀ (aBI : Int32) (aBl : Nat -> Int32), (1 <= Int32.toInt aBI /\ Int32.toInt aBI <= 12) -> (∀ k : Nat, k % 21 = 17 -> -1 <= Int32.toInt (aBl k) /\ Int32.toInt (aBl k) <= SB) -> (∀ k : Nat, k % 21 = 19 -> 0 <= Int32.toInt (aBl k) /\ Int32.toInt (aBl k) <= 9) -> post aBI aBl) (hKn : ∀ (x2 : Int32) (bU : Int32) (uL : Nat -> Int32), (0 <= Int32.toInt x2 /\ Int32.toInt x2 <= 231) -> (12 <= Int32.toInt bU /\ Int32.toInt bU <= 12) -> (∀ k : Nat, k % 21 = 17 -> -1 <= Int32.toInt (uL k) /\ Int32.toInt (uL k) <= SB) -> (∀ k : Nat, k % 21 = 19 -> 0 <= Int32.toInt (uL k) /\ Int32.toInt (uL k) <= 9) -> (231 - Int32.toInt x2 < n11) -> next x2 bU uL) (x2 bU : Int32) (uL : Nat -> Int32) (aBN : 0 <= Int32.toInt x2 /\ Int32.toInt x2 <= 231) (aAZ : 12 <= Int32.toInt bU /\ Int32.toInt bU <= 12) (aAo : ∀ k : Nat, k % 21 = 17 -> -1 <= Int32.toInt (uL k) /\ Int32.toInt (uL k) <= SB) (aAp : ∀ k : Nat, k % 21 = 19 -> 0 <= Int32.toInt (uL k) /\ Int32.toInt (uL k) <= 9) (hn11 : 231 - Int32.toInt x2 <= n11) : ws_X10_remember_11 post next qG x2 bU uL := by
  have l0 := aEc
  have l1 := li_21
  have l2 := li_231
  refine And.intro (fun c6 => ?_) (fun c6 => ?_)
  · skip
    have c6 := (aAO _ _).mp c6
    intro v7 ev7
    have f8 : Int32.toInt (bU - 1) = Int32.toInt bU - Int32.toInt (1 : Int32) := aCA _ _ (by omega)
    rw [<- ev7] at f8
    exact ts_X10_remember_49 qG xU xV hc0 hpost v7 uL (by omega) aAo aAp
  · skip
    have c6 := mt (aAO _ _).mpr c6
    intro v9 ev9
    have f10 : Int32.toInt (x2 + 21) = Int32.toInt x2 + Int32.toInt (21 : Int32) := aAD _ _ (by omega)
    rw [<- ev9] at f10
    refine And.intro (aBZ (by omega)) ?_
    have q11 := aAo v9.toNatClampNeg
    have q12 := aAp v9.toNatClampNeg
    have q13 : v9.toNatClampNeg = (Int32.toInt v9).toNat := rfl
    intro v14 ev14
    have hv14 := congrArg Int32.toInt ev14
    refine And.intro (aBZ (by omega)) ?_
    have f17 := aAT v14
    have e16 : ∀ k : Nat, k % 21 = 17 -> -1 <= Int32.toInt ((upd uL x2.toNatClampNeg v14) k) /\ Int32.toInt ((upd uL x2.toNatClampNeg v14) k) <= SB := aCJ (C := fun k => k % 21 = 17) aAo (fun hk => by have e9 : x2.toNatClampNeg = (Int32.toInt x2).toNat := rfl; have hk : x2.toNatClampNeg % 21 = 17 := hk; omega)
    have e18 : ∀ k : Nat, k % 21 = 19 -> 0 <= Int32.toInt ((upd uL x2.toNatClampNeg v14) k) /\ Int32.toInt ((upd uL x2.toNatClampNeg v14) k) <= 9 := aCJ (C := fun k => k % 21 = 19) aAp (fun hk => by have e9 : x2.toNatClampNeg = (Int32.toInt x2).toNat := rfl; have hk : x2.toNatClampNeg % 21 = 19 := hk; omega)
    intro v19 ev19
    have f20 : Int32.toInt (x2 + 1) = Int32.toInt x2 + Int32.toInt (1 : Int32) := aAD _ _ (by omega)
    rw [<- ev19] at f20
    exact hKn v19 bU (upd uL x2.toNatClampNeg v14) (by omega) aAZ e16 e18 (by omega)
set_option maxHeartbeats 8000000 in
set_option maxRecDepth 200000 in
theorem tb_X10_remember_11 {post : Int32 -> (Nat -> Int32) -> Prop} {SB : Int} (qG : Nat -> Int32) (xU : ∀ k : Nat, k = 17 -> -1 <= Int32.toInt (qG k) /\ Int32.toInt (qG k) <= SB) (xV : ∀ k : Nat, k = 19 -> 0 <= Int32.toInt (qG k) /\ Int32.toInt (qG k) <= 9) (hc0 : -1 <= SB /\ SB <= 7) (hpost : ∀ (aBI : Int32) (aBl : Nat -> Int32), (1 <= Int32.toInt aBI /\ Int32.toInt aBI <= 12) -> (∀ k : Nat, k % 21 = 17 -> -1 <= Int32.toInt (aBl k) /\ Int32.toInt (aBl k) <= SB) -> (∀ k : Nat, k % 21 = 19 -> 0 <= Int32.toInt (aBl k) /\ Int32.toInt (aBl k) <= 9) -> post aBI aBl) : ∀ (n : Nat) (x2 bU : Int32) (uL : Nat -> Int32), (0 <= Int32.toInt x2 /\ Int32.toInt x2 <= 231) -> (12 <= Int32.toInt bU /\ Int32.toInt bU <= 12) -> (∀ k : Nat, k % 21 = 17 -> -1 <= Int32.toInt (uL k) /\ Int32.toInt (uL k) <= SB) -> (∀ k : Nat, k % 21 = 19 -> 0 <= Int32.toInt (uL k) /\ Int32.toInt (uL k) <= 9) -> (231 - Int32.toInt x2 < (n : Int)) -> wb_X10_remember_11 post qG n x2 bU uL := by
  intro n
  induction n with
  | zero =>
    intro x2 bU uL aBN aAZ aAo aAp hm
    exfalso; omega
  | succ n ih =>
    intro x2 bU uL aBN aAZ aAo aAp hm
    exact ts_X10_remember_11 qG xU xV hc0 hpost ih x2 bU uL aBN aAZ aAo aAp (by omega)
set_option maxHeartbeats 8000000 in
set_option maxRecDepth 200000 in
theorem t_X10_remember {post : Int32 -> (Nat -> Int32) -> Prop} {SB : Int} {bU : Int32} {qG uL : Nat -> Int32} (aAZ : 0 <= Int32.toInt bU /\ Int32.toInt bU <= 12) (xU : ∀ k : Nat, k = 17 -> -1 <= Int32.toInt (qG k) /\ Int32.toInt (qG k) <= SB) (xV : ∀ k : Nat, k = 19 -> 0 <= Int32.toInt (qG k) /\ Int32.toInt (qG k) <= 9) (aAo : ∀ k : Nat, k % 21 = 17 -> -1 <= Int32.toInt (uL k) /\ Int32.toInt (uL k) <= SB) (aAp : ∀ k : Nat, k % 21 = 19 -> 0 <= Int32.toInt (uL k) /\ Int32.toInt (uL k) <= 9) (hc0 : -1 <= SB /\ SB <= 7) (hpost : ∀ (aBI : Int32) (aBl : Nat -> Int32), (1 <= Int32.toInt aBI /\ Int32.toInt aBI <= 12) -> (∀ k : Nat, k % 21 = 17 -> -1 <= Int32.toInt (aBl k) /\ Int32.toInt (aBl k) <= SB) -> (∀ k : Nat, k % 21 = 19 -> 0 <= Int32.toInt (aBl k) /\ Int32.toInt (aBl k) <= 9) -> post aBI aBl) : aUa post bU qG uL := by
  have l0 := aE0
  have l1 := li_12
  refine And.intro (fun c21 => ?_) (fun c21 => ?_)
  · skip
    have c21 := mt (zJ _ _).mpr c21
    exact ts_X10_remember_49 qG xU xV hc0 hpost bU uL (by omega) aAo aAp
  · skip
    have c21 := (zJ _ _).mp c21
    exact ⟨233, tb_X10_remember_11 qG xU xV hc0 hpost _ 0 bU uL (by omega) (by omega) aAo aAp (by omega)⟩
theorem t_X10_moveOf {post : Int32 -> Prop} {p0 p1 : Int32} {nG pJ : Nat -> Int32} (h_p0 : -1 <= Int32.toInt p0 /\ Int32.toInt p0 <= 7) (h_p1 : 0 <= Int32.toInt p1 /\ Int32.toInt p1 <= 7) (xT : ∀ k : Nat, 0 <= Int32.toInt (nG k) /\ Int32.toInt (nG k) <= 99) (yD : ∀ k : Nat, k = 4 -> 1 <= Int32.toInt (pJ k) /\ Int32.toInt (pJ k) <= 30) (xZ : ∀ k : Nat, k = 3 -> 0 <= Int32.toInt (pJ k) /\ Int32.toInt (pJ k) <= 9) (hx0 : -1 <= Int32.toInt p0 /\ Int32.toInt p0 <= 7) (hx1 : 0 <= Int32.toInt p1 /\ Int32.toInt p1 <= 7) (hpost : ∀ (r : Int32) , (9 <= Int32.toInt r /\ Int32.toInt r <= 900) -> (r = mvo nG pJ p0 p1) -> post r) : bCI post p0 p1 nG pJ := by
  exact f_moveOf hx0 hx1 (hpost _ (mvo_rng xT xZ _ _) rfl)
set_option maxHeartbeats 8000000 in
set_option maxRecDepth 200000 in
theorem ts_X10_empty_35 {post : Int32 -> (Nat -> Int32) -> Prop} {SB : Int} {m_now0 : Nat -> Int32} {K4 : Int32 -> Int32 -> (Nat -> Int32) -> Prop} {n4 : Int} (bT : Int32) (xJ : 0 <= Int32.toInt bT /\ Int32.toInt bT <= 16) (hc0 : -1 <= SB /\ SB <= 7) (hpost : ∀ (r : Int32) (aBf : Nat -> Int32), (∀ k : Nat, k = 17 -> -1 <= Int32.toInt (aBf k) /\ Int32.toInt (aBf k) <= SB) -> (∀ k : Nat, k = 19 -> 0 <= Int32.toInt (aBf k) /\ Int32.toInt (aBf k) <= 9) -> (aBf 19 = m_now0 19) -> post r aBf) (hK4 : ∀ (x1 : Int32) (x2 : Int32) (qG : Nat -> Int32), (0 <= Int32.toInt x2 /\ Int32.toInt x2 <= 16) -> (∀ k : Nat, k = 17 -> -1 <= Int32.toInt (qG k) /\ Int32.toInt (qG k) <= SB) -> (∀ k : Nat, k = 19 -> 0 <= Int32.toInt (qG k) /\ Int32.toInt (qG k) <= 9) -> (qG 19 = m_now0 19) -> (16 - Int32.toInt x2 < n4) -> K4 x1 x2 qG) (x1 x2 : Int32) (qG : Nat -> Int32) (aBN : 0 <= Int32.toInt x2 /\ Int32.toInt x2 <= 15) (xU : ∀ k : Nat, k = 17 -> -1 <= Int32.toInt (qG k) /\ Int32.toInt (qG k) <= SB) (xV : ∀ k : Nat, k = 19 -> 0 <= Int32.toInt (qG k) /\ Int32.toInt (qG k) <= 9) (hx0 : qG 19 = m_now0 19) (hn4 : 16 - Int32.toInt x2 <= n4) : ws_X10_empty_35 post K4 bT x1 x2 qG := by
  have l0 := aEc
  intro v1 ev1
  have f2 : Int32.toInt (x2 + 1) = Int32.toInt x2 + Int32.toInt (1 : Int32) := aAD _ _ (by omega)
  rw [<- ev1] at f2
  have f3 := aAT x1
  exact hK4 x1 v1 qG (by omega) xU xV (by first | assumption | exact rfl | exact t_upk (by assumption) (t_nk (by omega))) (by omega)
set_option maxHeartbeats 8000000 in
set_option maxRecDepth 200000 in
theorem ts_X10_empty_4 {post : Int32 -> (Nat -> Int32) -> Prop} {SB : Int} {m_now0 : Nat -> Int32} {next : Int32 -> Int32 -> (Nat -> Int32) -> Prop} {n4 : Int} (bT : Int32) (xJ : 0 <= Int32.toInt bT /\ Int32.toInt bT <= 16) (hc0 : -1 <= SB /\ SB <= 7) (hpost : ∀ (r : Int32) (aBf : Nat -> Int32), (∀ k : Nat, k = 17 -> -1 <= Int32.toInt (aBf k) /\ Int32.toInt (aBf k) <= SB) -> (∀ k : Nat, k = 19 -> 0 <= Int32.toInt (aBf k) /\ Int32.toInt (aBf k) <= 9) -> (aBf 19 = m_now0 19) -> post r aBf) (hKn : ∀ (x1 : Int32) (x2 : Int32) (qG : Nat -> Int32), (0 <= Int32.toInt x2 /\ Int32.toInt x2 <= 16) -> (∀ k : Nat, k = 17 -> -1 <= Int32.toInt (qG k) /\ Int32.toInt (qG k) <= SB) -> (∀ k : Nat, k = 19 -> 0 <= Int32.toInt (qG k) /\ Int32.toInt (qG k) <= 9) -> (qG 19 = m_now0 19) -> (16 - Int32.toInt x2 < n4) -> next x1 x2 qG) (x1 x2 : Int32) (qG : Nat -> Int32) (aBN : 0 <= Int32.toInt x2 /\ Int32.toInt x2 <= 16) (xU : ∀ k : Nat, k = 17 -> -1 <= Int32.toInt (qG k) /\ Int32.toInt (qG k) <= SB) (xV : ∀ k : Nat, k = 19 -> 0 <= Int32.toInt (qG k) /\ Int32.toInt (qG k) <= 9) (hx0 : qG 19 = m_now0 19) (hn4 : 16 - Int32.toInt x2 <= n4) : ws_X10_empty_4 post next bT x1 x2 qG := by
  have l0 := aEc
  have l1 := li_2
  refine And.intro (fun c4 => ?_) (fun c4 => ?_)
  · skip
    have c4 := (aAO _ _).mp c4
    exact hpost _ _ xU xV (by first | assumption | exact rfl | exact t_upk (by assumption) (t_nk (by omega)))
  · skip
    have c4 := mt (aAO _ _).mpr c4
    refine And.intro (aBZ (by omega)) ?_
    intro v5 ev5
    have hv5 := congrArg Int32.toInt ev5
    have f8 := aAT v5
    refine And.intro (fun c7 => ?_) (fun c7 => ?_)
    · skip
      have c7 := (zJ _ _).mp c7
      refine And.intro (aBZ (by omega)) ?_
      have e9 : ∀ k : Nat, k = 17 -> -1 <= Int32.toInt ((upd qG x2.toNatClampNeg 2) k) /\ Int32.toInt ((upd qG x2.toNatClampNeg 2) k) <= SB := aCJ (C := fun k => k = 17) xU (fun hk => by have e9 : x2.toNatClampNeg = (Int32.toInt x2).toNat := rfl; have hk : x2.toNatClampNeg = 17 := hk; omega)
      have e10 : ∀ k : Nat, k = 19 -> 0 <= Int32.toInt ((upd qG x2.toNatClampNeg 2) k) /\ Int32.toInt ((upd qG x2.toNatClampNeg 2) k) <= 9 := aCJ (C := fun k => k = 19) xV (fun hk => by have e9 : x2.toNatClampNeg = (Int32.toInt x2).toNat := rfl; have hk : x2.toNatClampNeg = 19 := hk; omega)
      intro v11 ev11
      have hv11 := congrArg Int32.toInt ev11
      have f13 := aAT v11
      exact ts_X10_empty_35 bT xJ hc0 hpost hKn v11 x2 (upd qG x2.toNatClampNeg 2) (by omega) e9 e10 (by first | assumption | exact rfl | exact t_upk (by assumption) (t_nk (by omega))) hn4
    · skip
      have c7 := mt (zJ _ _).mpr c7
      have f14 := aAT x1
      exact ts_X10_empty_35 bT xJ hc0 hpost hKn x1 x2 qG (by omega) xU xV (by first | assumption | exact rfl | exact t_upk (by assumption) (t_nk (by omega))) hn4
set_option maxHeartbeats 8000000 in
set_option maxRecDepth 200000 in
theorem tb_X10_empty_4 {post : Int32 -> (Nat -> Int32) -> Prop} {SB : Int} {m_now0 : Nat -> Int32} (bT : Int32) (xJ : 0 <= Int32.toInt bT /\ Int32.toInt bT <= 16) (hc0 : -1 <= SB /\ SB <= 7) (hpost : ∀ (r : Int32) (aBf : Nat -> Int32), (∀ k : Nat, k = 17 -> -1 <= Int32.toInt (aBf k) /\ Int32.toInt (aBf k) <= SB) -> (∀ k : Nat, k = 19 -> 0 <= Int32.toInt (aBf k) /\ Int32.toInt (aBf k) <= 9) -> (aBf 19 = m_now0 19) -> post r aBf) : ∀ (n : Nat) (x1 x2 : Int32) (qG : Nat -> Int32), (0 <= Int32.toInt x2 /\ Int32.toInt x2 <= 16) -> (∀ k : Nat, k = 17 -> -1 <= Int32.toInt (qG k) /\ Int32.toInt (qG k) <= SB) -> (∀ k : Nat, k = 19 -> 0 <= Int32.toInt (qG k) /\ Int32.toInt (qG k) <= 9) -> (qG 19 = m_now0 19) -> (16 - Int32.toInt x2 < (n : Int)) -> wb_X10_empty_4 post bT n x1 x2 qG := by
  intro n
  induction n with
  | zero =>
    intro x1 x2 qG aBN xU xV hx0 hm
    exfalso; omega
  | succ n ih =>
    intro x1 x2 qG aBN xU xV hx0 hm
    exact ts_X10_empty_4 bT xJ hc0 hpost ih x1 x2 qG aBN xU xV hx0 (by omega)
set_option maxHeartbeats 8000000 in
set_option maxRecDepth 200000 in
theorem t_X10_empty {post : Int32 -> (Nat -> Int32) -> Prop} {SB : Int} {bT : Int32} {qG : Nat -> Int32} (xJ : 0 <= Int32.toInt bT /\ Int32.toInt bT <= 16) (xU : ∀ k : Nat, k = 17 -> -1 <= Int32.toInt (qG k) /\ Int32.toInt (qG k) <= SB) (xV : ∀ k : Nat, k = 19 -> 0 <= Int32.toInt (qG k) /\ Int32.toInt (qG k) <= 9) (hc0 : -1 <= SB /\ SB <= 7) (hpost : ∀ (r : Int32) (aBf : Nat -> Int32), (∀ k : Nat, k = 17 -> -1 <= Int32.toInt (aBf k) /\ Int32.toInt (aBf k) <= SB) -> (∀ k : Nat, k = 19 -> 0 <= Int32.toInt (aBf k) /\ Int32.toInt (aBf k) <= 9) -> (aBf 19 = qG 19) -> post r aBf) : wp_X10_empty post bT qG := by
  have l0 := aE0
  exact ⟨18, tb_X10_empty_4 bT xJ hc0 hpost _ 0 0 qG (by omega) xU xV (by first | assumption | exact rfl | exact t_upk (by assumption) (t_nk (by omega))) (by omega)⟩
set_option maxHeartbeats 8000000 in
set_option maxRecDepth 200000 in
theorem ts_X10_goMove_50 {post : Int32 -> (Nat -> Int32) -> Prop} {SB : Int} (bT : Int32) (nG oO pJ : Nat -> Int32) (xJ : 0 <= Int32.toInt bT /\ Int32.toInt bT <= 16) (xT : ∀ k : Nat, 0 <= Int32.toInt (nG k) /\ Int32.toInt (nG k) <= 99) (yF : ∀ k : Nat, 0 <= Int32.toInt (oO k) /\ Int32.toInt (oO k) <= 99) (yD : ∀ k : Nat, k = 4 -> 1 <= Int32.toInt (pJ k) /\ Int32.toInt (pJ k) <= 30) (xZ : ∀ k : Nat, k = 3 -> 0 <= Int32.toInt (pJ k) /\ Int32.toInt (pJ k) <= 9) (hc0 : -1 <= SB /\ SB <= 7) (hpost : ∀ (r : Int32) (aBf : Nat -> Int32), (9 <= Int32.toInt r /\ Int32.toInt r <= 913) -> (∀ k : Nat, k = 17 -> -1 <= Int32.toInt (aBf k) /\ Int32.toInt (aBf k) <= SB) -> (∀ k : Nat, k = 19 -> 0 <= Int32.toInt (aBf k) /\ Int32.toInt (aBf k) <= 9) -> post r aBf) (x1 x2 : Int32) (qG : Nat -> Int32) (aBK : 0 <= Int32.toInt x1 /\ Int32.toInt x1 <= 7) (aBN : 9 <= Int32.toInt x2 /\ Int32.toInt x2 <= 913) (xU : ∀ k : Nat, k = 17 -> -1 <= Int32.toInt (qG k) /\ Int32.toInt (qG k) <= SB) (xV : ∀ k : Nat, k = 19 -> 0 <= Int32.toInt (qG k) /\ Int32.toInt (qG k) <= 9) (hx0 : Int32.toInt x1 <= SB) : ws_X10_goMove_50 post bT nG oO pJ x1 x2 qG := by
  have l0 := li_17
  have l1 := li_20
  have l2 := li_9999
  refine t_X10_empty xJ xU xV (by omega) (fun r2 m_now_1 e0_m_now_1 e1_m_now_1 ox3 => ?_)
  have e4 : ∀ k : Nat, k = 17 -> -1 <= Int32.toInt ((upd m_now_1 (17 : Int32).toNatClampNeg x1) k) /\ Int32.toInt ((upd m_now_1 (17 : Int32).toNatClampNeg x1) k) <= SB := aCJ (C := fun k => k = 17) e0_m_now_1 (fun hk => by have e9 : (17 : Int32).toNatClampNeg = (Int32.toInt (17 : Int32)).toNat := rfl; have hk : (17 : Int32).toNatClampNeg = 17 := hk; omega)
  have e5 : ∀ k : Nat, k = 19 -> 0 <= Int32.toInt ((upd m_now_1 (17 : Int32).toNatClampNeg x1) k) /\ Int32.toInt ((upd m_now_1 (17 : Int32).toNatClampNeg x1) k) <= 9 := aCJ (C := fun k => k = 19) e1_m_now_1 (fun hk => by have e9 : (17 : Int32).toNatClampNeg = (Int32.toInt (17 : Int32)).toNat := rfl; have hk : (17 : Int32).toNatClampNeg = 19 := hk; omega)
  intro v6 ev6
  have hv6 := congrArg Int32.toInt ev6
  intro v8 ev8
  have hv8 := congrArg Int32.toInt ev8
  intro v10 ev10
  have f11 := aAT (if v8 < 9999 then v8 else 9999)
  have f13 := aAT v8
  have f12 := ti_min (9999 : Int32) v8
  have hv10 := congrArg Int32.toInt ev10
  have f15 := aAT v10
  have e14 : ∀ k : Nat, k = 17 -> -1 <= Int32.toInt ((upd (upd m_now_1 (17 : Int32).toNatClampNeg x1) (20 : Int32).toNatClampNeg v10) k) /\ Int32.toInt ((upd (upd m_now_1 (17 : Int32).toNatClampNeg x1) (20 : Int32).toNatClampNeg v10) k) <= SB := aCJ (C := fun k => k = 17) e4 (fun hk => by have e9 : (20 : Int32).toNatClampNeg = (Int32.toInt (20 : Int32)).toNat := rfl; have hk : (20 : Int32).toNatClampNeg = 17 := hk; omega)
  have e16 : ∀ k : Nat, k = 19 -> 0 <= Int32.toInt ((upd (upd m_now_1 (17 : Int32).toNatClampNeg x1) (20 : Int32).toNatClampNeg v10) k) /\ Int32.toInt ((upd (upd m_now_1 (17 : Int32).toNatClampNeg x1) (20 : Int32).toNatClampNeg v10) k) <= 9 := aCJ (C := fun k => k = 19) e5 (fun hk => by have e9 : (20 : Int32).toNatClampNeg = (Int32.toInt (20 : Int32)).toNat := rfl; have hk : (20 : Int32).toNatClampNeg = 19 := hk; omega)
  exact hpost _ _ aBN e14 e16
set_option maxHeartbeats 8000000 in
set_option maxRecDepth 200000 in
theorem t_X10_goMove {post : Int32 -> (Nat -> Int32) -> Prop} {SB : Int} {p0 bT : Int32} {qG nG oO pJ : Nat -> Int32} (h_p0 : 0 <= Int32.toInt p0 /\ Int32.toInt p0 <= 7) (xJ : 0 <= Int32.toInt bT /\ Int32.toInt bT <= 16) (xU : ∀ k : Nat, k = 17 -> -1 <= Int32.toInt (qG k) /\ Int32.toInt (qG k) <= SB) (xV : ∀ k : Nat, k = 19 -> 0 <= Int32.toInt (qG k) /\ Int32.toInt (qG k) <= 9) (xT : ∀ k : Nat, 0 <= Int32.toInt (nG k) /\ Int32.toInt (nG k) <= 99) (yF : ∀ k : Nat, 0 <= Int32.toInt (oO k) /\ Int32.toInt (oO k) <= 99) (yD : ∀ k : Nat, k = 4 -> 1 <= Int32.toInt (pJ k) /\ Int32.toInt (pJ k) <= 30) (xZ : ∀ k : Nat, k = 3 -> 0 <= Int32.toInt (pJ k) /\ Int32.toInt (pJ k) <= 9) (hc0 : -1 <= SB /\ SB <= 7) (hx0 : Int32.toInt p0 <= SB) (hpost : ∀ (r : Int32) (aBf : Nat -> Int32), (9 <= Int32.toInt r /\ Int32.toInt r <= 913) -> (∀ k : Nat, k = 17 -> -1 <= Int32.toInt (aBf k) /\ Int32.toInt (aBf k) <= SB) -> (∀ k : Nat, k = 19 -> 0 <= Int32.toInt (aBf k) /\ Int32.toInt (aBf k) <= 9) -> post r aBf) : wp_X10_goMove post p0 bT qG nG oO pJ := by
  have l0 := aI2
  have l1 := aE0
  have l2 := aEc
  have l3 := li_10
  have l4 := li_17
  have l5 := li_3
  have l6 := li_9
  have q17 := xU (17 : Int32).toNatClampNeg (by have e9 : (17 : Int32).toNatClampNeg = (Int32.toInt (17 : Int32)).toNat := rfl; omega)
  intro v18 ev18
  have hv18 := congrArg Int32.toInt ev18
  refine t_X10_moveOf (by omega) h_p0 xT yD xZ (by omega) (by omega) (fun r20 h_r20 ox21 => ?_)
  refine aKO (by omega) xJ xU xV (by omega) (fun r22 h_r22 ox23 => ?_)
  refine And.intro (fun c24 => ?_) (fun c24 => ?_)
  · skip
    have c24 := (zJ _ _).mp c24
    exact ts_X10_goMove_50 bT nG oO pJ xJ xT yF yD xZ hc0 hpost p0 r20 qG h_p0 (by omega) xU xV (by omega)
  · skip
    have c24 := mt (zJ _ _).mpr c24
    have q25 := xU (17 : Int32).toNatClampNeg (by have e9 : (17 : Int32).toNatClampNeg = (Int32.toInt (17 : Int32)).toNat := rfl; omega)
    intro v26 ev26
    have hv26 := congrArg Int32.toInt ev26
    refine And.intro (fun c27 => ?_) (fun c27 => ?_)
    · skip
      have c27 := (zJ _ _).mp c27
      exact ts_X10_goMove_50 bT nG oO pJ xJ xT yF yD xZ hc0 hpost p0 r20 qG h_p0 (by omega) xU xV (by omega)
    · skip
      have c27 := mt (zJ _ _).mpr c27
      have q28 := xU (17 : Int32).toNatClampNeg (by have e9 : (17 : Int32).toNatClampNeg = (Int32.toInt (17 : Int32)).toNat := rfl; omega)
      intro v29 ev29
      have hv29 := congrArg Int32.toInt ev29
      refine And.intro (aBZ (by omega)) ?_
      intro v30 ev30
      have f31 := yF v29.toNatClampNeg
      have hv30 := congrArg Int32.toInt ev30
      intro v32 ev32
      have f33 : Int32.toInt (v30 + 9) = Int32.toInt v30 + Int32.toInt (9 : Int32) := aAD _ _ (by omega)
      rw [<- ev32] at f33
      intro v34 ev34
      have f37 : Int32.toInt (v32 / 10) = Int32.toInt v32 / 10 := ti_div _ _ (by decide) (by omega) (by decide)
      have f36 : Int32.toInt (3 + (v32 / 10)) = Int32.toInt (3 : Int32) + Int32.toInt (v32 / 10) := aAD _ _ (by omega)
      have f35 : Int32.toInt (r20 + (3 + (v32 / 10))) = Int32.toInt r20 + Int32.toInt (3 + (v32 / 10)) := aAD _ _ (by omega)
      rw [<- ev34] at f35
      exact ts_X10_goMove_50 bT nG oO pJ xJ xT yF yD xZ hc0 hpost p0 v34 qG h_p0 (by omega) xU xV (by omega)
set_option maxHeartbeats 8000000 in
set_option maxRecDepth 200000 in
theorem t_X10_move {post : Int32 -> Int32 -> Int32 -> (Nat -> Int32) -> (Nat -> Int32) -> Prop} {SB : Int} {p0 bT aG bY bU : Int32} {qG nG oO pJ uL : Nat -> Int32} (xJ : 0 <= Int32.toInt bT /\ Int32.toInt bT <= 16) (vZ : 0 <= Int32.toInt aG /\ Int32.toInt aG <= 8) (yG : 0 <= Int32.toInt bY /\ Int32.toInt bY <= 1) (aAZ : 0 <= Int32.toInt bU /\ Int32.toInt bU <= 12) (xU : ∀ k : Nat, k = 17 -> -1 <= Int32.toInt (qG k) /\ Int32.toInt (qG k) <= SB) (xV : ∀ k : Nat, k = 19 -> 0 <= Int32.toInt (qG k) /\ Int32.toInt (qG k) <= 9) (xT : ∀ k : Nat, 0 <= Int32.toInt (nG k) /\ Int32.toInt (nG k) <= 99) (yF : ∀ k : Nat, 0 <= Int32.toInt (oO k) /\ Int32.toInt (oO k) <= 99) (yD : ∀ k : Nat, k = 4 -> 1 <= Int32.toInt (pJ k) /\ Int32.toInt (pJ k) <= 30) (xZ : ∀ k : Nat, k = 3 -> 0 <= Int32.toInt (pJ k) /\ Int32.toInt (pJ k) <= 9) (aAo : ∀ k : Nat, k % 21 = 17 -> -1 <= Int32.toInt (uL k) /\ Int32.toInt (uL k) <= SB) (aAp : ∀ k : Nat, k % 21 = 19 -> 0 <= Int32.toInt (uL k) /\ Int32.toInt (uL k) <= 9) (hc0 : -1 <= SB /\ SB <= 7) (hc1 : (Int32.toInt aG <= 0 /\ SB = 0) \/ (1 <= Int32.toInt aG /\ SB = Int32.toInt aG - 1)) (hpost : ∀ (r : Int32) (xG : Int32) (aBI : Int32) (aBf : Nat -> Int32) (aBl : Nat -> Int32), (-2 <= Int32.toInt r /\ Int32.toInt r <= 913) -> (0 <= Int32.toInt xG /\ Int32.toInt xG <= 0) -> (0 <= Int32.toInt aBI /\ Int32.toInt aBI <= 12) -> (∀ k : Nat, k = 17 -> -1 <= Int32.toInt (aBf k) /\ Int32.toInt (aBf k) <= SB) -> (∀ k : Nat, k = 19 -> 0 <= Int32.toInt (aBf k) /\ Int32.toInt (aBf k) <= 9) -> (∀ k : Nat, k % 21 = 17 -> -1 <= Int32.toInt (aBl k) /\ Int32.toInt (aBl k) <= SB) -> (∀ k : Nat, k % 21 = 19 -> 0 <= Int32.toInt (aBl k) /\ Int32.toInt (aBl k) <= 9) -> post r xG aBI aBf aBl) : wp_X10_move post p0 bT aG bY bU qG nG oO pJ uL := by
  have l0 := aI2
  have l1 := li_m2
  have l2 := aE0
  have l3 := aEc
  have l4 := li_17
  intro v1 ev1
  have f2 : Int32.toInt (aG - 1) = Int32.toInt aG - Int32.toInt (1 : Int32) := aCA _ _ (by omega)
  rw [<- ev1] at f2
  have f4 := aAT p0
  refine And.intro (fun c3 => ?_) (fun c3 => ?_)
  · skip
    have c3 := (aAd _ _).mp c3
    refine And.intro (aHE (by omega)) ?_
    refine And.intro (fun h9 => absurd h9 (by decide)) (fun _ => ?_)
    refine And.intro (fun h9 => absurd h9 (by decide)) (fun _ => ?_)
    exact hpost _ _ _ _ _ (by omega) (by omega) aAZ xU xV aAo aAp
  · skip
    have c3 := mt (aAd _ _).mpr c3
    refine And.intro (fun c5 => ?_) (fun c5 => ?_)
    · skip
      have c5 := (aAd _ _).mp c5
      refine And.intro (aHE (by omega)) ?_
      refine And.intro (fun h9 => absurd h9 (by decide)) (fun _ => ?_)
      refine And.intro (fun h9 => absurd h9 (by decide)) (fun _ => ?_)
      exact hpost _ _ _ _ _ (by omega) (by omega) aAZ xU xV aAo aAp
    · skip
      have c5 := mt (aAd _ _).mpr c5
      refine And.intro (aHE (by omega)) ?_
      refine And.intro (fun _ => ?_) (fun h9 => absurd h9 (by decide))
      have q6 := xU (17 : Int32).toNatClampNeg (by have e9 : (17 : Int32).toNatClampNeg = (Int32.toInt (17 : Int32)).toNat := rfl; omega)
      intro v7 ev7
      have hv7 := congrArg Int32.toInt ev7
      refine And.intro (fun c9 => ?_) (fun c9 => ?_)
      · skip
        have c9 := mt (zJ _ _).mpr c9
        refine And.intro (fun _ => ?_) (fun h9 => absurd h9 (by decide))
        refine t_X10_remember aAZ xU xV aAo aAp (by omega) (fun m_undoMany_10 m_undos_11 h_m_undoMany_10 e0_m_undos_11 e1_m_undos_11 => ?_)
        refine t_X10_goMove (by omega) xJ xU xV xT yF yD xZ (by omega) (by omega) (fun r13 m_now_12 h_r13 e0_m_now_12 e1_m_now_12 => ?_)
        exact hpost _ _ _ _ _ (by omega) (by omega) (by omega) e0_m_now_12 e1_m_now_12 e0_m_undos_11 e1_m_undos_11
      · skip
        have c9 := (zJ _ _).mp c9
        refine And.intro (fun h9 => absurd h9 (by decide)) (fun _ => ?_)
        exact hpost _ _ _ _ _ (by omega) (by omega) aAZ xU xV aAo aAp
set_option maxHeartbeats 8000000 in
set_option maxRecDepth 200000 in
theorem t_X10_foot {post : Int32 -> Int32 -> Int32 -> (Nat -> Int32) -> (Nat -> Int32) -> Prop} {SB : Int} {p0 bY bU : Int32} {qG uL : Nat -> Int32} (yG : 0 <= Int32.toInt bY /\ Int32.toInt bY <= 1) (aAZ : 0 <= Int32.toInt bU /\ Int32.toInt bU <= 12) (xU : ∀ k : Nat, k = 17 -> -1 <= Int32.toInt (qG k) /\ Int32.toInt (qG k) <= SB) (xV : ∀ k : Nat, k = 19 -> 0 <= Int32.toInt (qG k) /\ Int32.toInt (qG k) <= 9) (aAo : ∀ k : Nat, k % 21 = 17 -> -1 <= Int32.toInt (uL k) /\ Int32.toInt (uL k) <= SB) (aAp : ∀ k : Nat, k % 21 = 19 -> 0 <= Int32.toInt (uL k) /\ Int32.toInt (uL k) <= 9) (hc0 : -1 <= SB /\ SB <= 7) (hpost : ∀ (r : Int32) (xG : Int32) (aBI : Int32) (aBf : Nat -> Int32) (aBl : Nat -> Int32), (0 <= Int32.toInt xG /\ Int32.toInt xG <= 0) -> (0 <= Int32.toInt aBI /\ Int32.toInt aBI <= 12) -> (∀ k : Nat, k = 17 -> -1 <= Int32.toInt (aBf k) /\ Int32.toInt (aBf k) <= SB) -> (∀ k : Nat, k = 19 -> 0 <= Int32.toInt (aBf k) /\ Int32.toInt (aBf k) <= 9) -> (∀ k : Nat, k % 21 = 17 -> -1 <= Int32.toInt (aBl k) /\ Int32.toInt (aBl k) <= SB) -> (∀ k : Nat, k % 21 = 19 -> 0 <= Int32.toInt (aBl k) /\ Int32.toInt (aBl k) <= 9) -> post r xG aBI aBf aBl) : wp_X10_foot post p0 bY bU qG uL := by
  have l0 := aE0
  have l1 := aEc
  have l2 := li_18
  have f2 := aAT p0
  refine And.intro (fun c1 => ?_) (fun c1 => ?_)
  · skip
    have c1 := (aAd _ _).mp c1
    refine And.intro (fun h9 => absurd h9 (by decide)) (fun _ => ?_)
    exact hpost _ _ _ _ _ (by omega) aAZ xU xV aAo aAp
  · skip
    have c1 := mt (aAd _ _).mpr c1
    refine And.intro (fun c3 => ?_) (fun c3 => ?_)
    · skip
      have c3 := (aAd _ _).mp c3
      refine And.intro (fun h9 => absurd h9 (by decide)) (fun _ => ?_)
      exact hpost _ _ _ _ _ (by omega) aAZ xU xV aAo aAp
    · skip
      have c3 := mt (aAd _ _).mpr c3
      refine And.intro (fun _ => ?_) (fun h9 => absurd h9 (by decide))
      refine t_X10_remember aAZ xU xV aAo aAp (by omega) (fun m_undoMany_4 m_undos_5 h_m_undoMany_4 e0_m_undos_5 e1_m_undos_5 => ?_)
      intro v6 ev6
      have hv6 := congrArg Int32.toInt ev6
      have e8 : ∀ k : Nat, k = 17 -> -1 <= Int32.toInt ((upd qG (18 : Int32).toNatClampNeg p0) k) /\ Int32.toInt ((upd qG (18 : Int32).toNatClampNeg p0) k) <= SB := aCJ (C := fun k => k = 17) xU (fun hk => by have e9 : (18 : Int32).toNatClampNeg = (Int32.toInt (18 : Int32)).toNat := rfl; have hk : (18 : Int32).toNatClampNeg = 17 := hk; omega)
      have e9 : ∀ k : Nat, k = 19 -> 0 <= Int32.toInt ((upd qG (18 : Int32).toNatClampNeg p0) k) /\ Int32.toInt ((upd qG (18 : Int32).toNatClampNeg p0) k) <= 9 := aCJ (C := fun k => k = 19) xV (fun hk => by have e9 : (18 : Int32).toNatClampNeg = (Int32.toInt (18 : Int32)).toNat := rfl; have hk : (18 : Int32).toNatClampNeg = 19 := hk; omega)
      exact hpost _ _ _ _ _ (by omega) (by omega) e8 e9 e0_m_undos_5 e1_m_undos_5
set_option maxHeartbeats 8000000 in
set_option maxRecDepth 200000 in
theorem ts_X10_secondsOf_80 {post : Int32 -> Nat -> Int32 -> Int32 -> Int32 -> Int32 -> Int32 -> Int32 -> Int32 -> Int32 -> Int32 -> Prop} (bW : Int32) (m_x gR pW nG oO qO qQ : Nat -> Int32) (zQ : 0 <= Int32.toInt bW /\ Int32.toInt bW <= 40) (aAW : ∀ k : Nat, 0 <= Int32.toInt (m_x k) /\ Int32.toInt (m_x k) <= 99) (xK : ∀ k : Nat, 0 <= Int32.toInt (gR k) /\ Int32.toInt (gR k) <= 99) (yR : ∀ k : Nat, 0 <= Int32.toInt (pW k) /\ Int32.toInt (pW k) <= 9) (xT : ∀ k : Nat, 0 <= Int32.toInt (nG k) /\ Int32.toInt (nG k) <= 99) (yF : ∀ k : Nat, 0 <= Int32.toInt (oO k) /\ Int32.toInt (oO k) <= 99) (zG : ∀ k : Nat, -128 <= Int32.toInt (qO k) /\ Int32.toInt (qO k) <= 127) (zI : ∀ k : Nat, -128 <= Int32.toInt (qQ k) /\ Int32.toInt (qQ k) <= 127) (hpost : ∀ (r : Int32) (aAP : Nat) (zS : Int32) (aAz : Int32) (aAm : Int32) (zH : Int32) (aAM : Int32) (zP : Int32) (yO : Int32) (zZ : Int32) (zO : Int32), (1 <= Int32.toInt r /\ Int32.toInt r <= 99) -> (aAP = 0 \/ aAP = 1 \/ aAP = 2) -> (0 <= Int32.toInt zS /\ Int32.toInt zS <= 80) -> (0 <= Int32.toInt aAz /\ Int32.toInt aAz <= 80) -> (0 <= Int32.toInt aAm /\ Int32.toInt aAm <= 80) -> (-1 <= Int32.toInt zH /\ Int32.toInt zH <= 80) -> (0 <= Int32.toInt aAM /\ Int32.toInt aAM <= 0) -> (0 <= Int32.toInt zP /\ Int32.toInt zP <= 15) -> (0 <= Int32.toInt yO /\ Int32.toInt yO <= 7) -> (0 <= Int32.toInt zZ /\ Int32.toInt zZ <= 1) -> (0 <= Int32.toInt zO /\ Int32.toInt zO <= 63) -> post r aAP zS aAz aAm zH aAM zP yO zZ zO) (x5 : Int32) (jD : Nat) (mLn oF rP dQ bZ aR aE bI aW : Int32) (yM : jD = 0 \/ jD = 1 \/ jD = 2) (zE : 0 <= Int32.toInt mLn /\ Int32.toInt mLn <= 80) (aAR : 0 <= Int32.toInt oF /\ Int32.toInt oF <= 80) (aA1 : 0 <= Int32.toInt rP /\ Int32.toInt rP <= 80) (aAA : -1 <= Int32.toInt dQ /\ Int32.toInt dQ <= 80) (zT : 0 <= Int32.toInt bZ /\ Int32.toInt bZ <= 0) (yL : 0 <= Int32.toInt aR /\ Int32.toInt aR <= 15) (xQ : 0 <= Int32.toInt aE /\ Int32.toInt aE <= 7) (yY : 0 <= Int32.toInt bI /\ Int32.toInt bI <= 1) (yK : 0 <= Int32.toInt aW /\ Int32.toInt aW <= 63) : ws_X10_secondsOf_80 post bW m_x gR pW nG oO qO qQ x5 jD mLn oF rP dQ bZ aR aE bI aW := by
  have l0 := aEc
  have l1 := li_99
  intro v1 ev1
  have f2 := aAT (if x5 < 99 then x5 else 99)
  have f4 := aAT x5
  have f3 := ti_min (99 : Int32) x5
  have hv1 := congrArg Int32.toInt ev1
  intro v5 ev5
  have f7 := aAT v1
  have f6 := ti_max (1 : Int32) v1
  have hv5 := congrArg Int32.toInt ev5
  exact hpost _ _ _ _ _ _ _ _ _ _ _ (by omega) yM zE aAR aA1 aAA zT yL xQ yY yK
set_option maxHeartbeats 8000000 in
set_option maxRecDepth 200000 in
theorem t_X10_secondsOf {post : Int32 -> Nat -> Int32 -> Int32 -> Int32 -> Int32 -> Int32 -> Int32 -> Int32 -> Int32 -> Int32 -> Prop} {p0 p1 p2 p3 : Int32} {jD : Nat} {mLn oF rP dQ bW bZ aR aE bI aW : Int32} {m_x gR pW nG oO qO qQ : Nat -> Int32} (h_p0 : 0 <= Int32.toInt p0 /\ Int32.toInt p0 <= 15) (h_p1 : 0 <= Int32.toInt p1 /\ Int32.toInt p1 <= 7) (h_p2 : 0 <= Int32.toInt p2 /\ Int32.toInt p2 <= 1) (h_p3 : 0 <= Int32.toInt p3 /\ Int32.toInt p3 <= 63) (yM : jD = 0 \/ jD = 1 \/ jD = 2) (zE : 0 <= Int32.toInt mLn /\ Int32.toInt mLn <= 80) (aAR : 0 <= Int32.toInt oF /\ Int32.toInt oF <= 80) (aA1 : 0 <= Int32.toInt rP /\ Int32.toInt rP <= 80) (aAA : -1 <= Int32.toInt dQ /\ Int32.toInt dQ <= 80) (zQ : 0 <= Int32.toInt bW /\ Int32.toInt bW <= 40) (zT : 0 <= Int32.toInt bZ /\ Int32.toInt bZ <= 0) (yL : 0 <= Int32.toInt aR /\ Int32.toInt aR <= 15) (xQ : 0 <= Int32.toInt aE /\ Int32.toInt aE <= 7) (yY : 0 <= Int32.toInt bI /\ Int32.toInt bI <= 1) (yK : 0 <= Int32.toInt aW /\ Int32.toInt aW <= 63) (aAW : ∀ k : Nat, 0 <= Int32.toInt (m_x k) /\ Int32.toInt (m_x k) <= 99) (xK : ∀ k : Nat, 0 <= Int32.toInt (gR k) /\ Int32.toInt (gR k) <= 99) (yR : ∀ k : Nat, 0 <= Int32.toInt (pW k) /\ Int32.toInt (pW k) <= 9) (xT : ∀ k : Nat, 0 <= Int32.toInt (nG k) /\ Int32.toInt (nG k) <= 99) (yF : ∀ k : Nat, 0 <= Int32.toInt (oO k) /\ Int32.toInt (oO k) <= 99) (zG : ∀ k : Nat, -128 <= Int32.toInt (qO k) /\ Int32.toInt (qO k) <= 127) (zI : ∀ k : Nat, -128 <= Int32.toInt (qQ k) /\ Int32.toInt (qQ k) <= 127) (hpost : ∀ (r : Int32) (aAP : Nat) (zS : Int32) (aAz : Int32) (aAm : Int32) (zH : Int32) (aAM : Int32) (zP : Int32) (yO : Int32) (zZ : Int32) (zO : Int32), (1 <= Int32.toInt r /\ Int32.toInt r <= 99) -> (aAP = 0 \/ aAP = 1 \/ aAP = 2) -> (0 <= Int32.toInt zS /\ Int32.toInt zS <= 80) -> (0 <= Int32.toInt aAz /\ Int32.toInt aAz <= 80) -> (0 <= Int32.toInt aAm /\ Int32.toInt aAm <= 80) -> (-1 <= Int32.toInt zH /\ Int32.toInt zH <= 80) -> (0 <= Int32.toInt aAM /\ Int32.toInt aAM <= 0) -> (0 <= Int32.toInt zP /\ Int32.toInt zP <= 15) -> (0 <= Int32.toInt yO /\ Int32.toInt yO <= 7) -> (0 <= Int32.toInt zZ /\ Int32.toInt zZ <= 1) -> (0 <= Int32.toInt zO /\ Int32.toInt zO <= 63) -> post r aAP zS aAz aAm zH aAM zP yO zZ zO) : aXm post p0 p1 p2 p3 jD mLn oF rP dQ bW bZ aR aE bI aW m_x gR pW nG oO qO qQ := by
  have l0 := aI2
  have l1 := aE0
  have l2 := aEc
  have l3 := li_2
  have l4 := li_4
  have l5 := li_40
  refine And.intro (aBZ (by omega)) ?_
  intro v8 ev8
  have f9 := aAW p0.toNatClampNeg
  have hv8 := congrArg Int32.toInt ev8
  refine And.intro (aBZ (by omega)) ?_
  intro v10 ev10
  have f12 := xT p1.toNatClampNeg
  have f11 : Int32.toInt (v8 - (nG p1.toNatClampNeg)) = Int32.toInt v8 - Int32.toInt (nG p1.toNatClampNeg) := aCA _ _ (by omega)
  rw [<- ev10] at f11
  intro v13 ev13
  have f14 := ti_abs v10 (by omega)
  have hv13 := congrArg Int32.toInt ev13
  intro v15 ev15
  have f17 : Int32.toInt (v13 / 4) = Int32.toInt v13 / 4 := ti_div _ _ (by decide) (by omega) (by decide)
  have f16 : Int32.toInt (2 + (v13 / 4)) = Int32.toInt (2 : Int32) + Int32.toInt (v13 / 4) := aAD _ _ (by omega)
  rw [<- ev15] at f16
  refine And.intro (aBZ (by omega)) ?_
  intro v18 ev18
  have f19 := xK p0.toNatClampNeg
  have hv18 := congrArg Int32.toInt ev18
  refine And.intro (aBZ (by omega)) ?_
  intro v20 ev20
  have f22 := yF p1.toNatClampNeg
  have f21 : Int32.toInt (v18 - (oO p1.toNatClampNeg)) = Int32.toInt v18 - Int32.toInt (oO p1.toNatClampNeg) := aCA _ _ (by omega)
  rw [<- ev20] at f21
  intro v23 ev23
  have f24 := ti_max (0 : Int32) v20
  have hv23 := congrArg Int32.toInt ev23
  intro v25 ev25
  have f27 : Int32.toInt (v23 / 2) = Int32.toInt v23 / 2 := ti_div _ _ (by decide) (by omega) (by decide)
  have f26 : Int32.toInt (v15 + (v23 / 2)) = Int32.toInt v15 + Int32.toInt (v23 / 2) := aAD _ _ (by omega)
  rw [<- ev25] at f26
  refine And.intro (fun c28 => ?_) (fun c28 => ?_)
  · skip
    have c28 := (aAO _ _).mp c28
    exact ts_X10_secondsOf_80 bW m_x gR pW nG oO qO qQ zQ aAW xK yR xT yF zG zI hpost v25 jD mLn oF rP dQ bZ aR aE bI aW yM zE aAR aA1 aAA zT yL xQ yY yK
  · skip
    have c28 := mt (aAO _ _).mpr c28
    refine t_X10_heldR (by omega) (by first | exact Or.inl rfl | exact Or.inr rfl | rfl) (by omega) (by omega) (by omega) (by omega) (by omega) h_p0 h_p1 h_p2 h_p3 aAW xK yR xT yF zG zI (by omega) (by omega) (by omega) (fun r31 m_at_29 m_wrong_30 h_m_at_29 h_m_wrong_30 ox32 ox33 => ?_)
    have f34 := aAT r31
    exact ts_X10_secondsOf_80 bW m_x gR pW nG oO qO qQ zQ aAW xK yR xT yF zG zI hpost r31 2 bW 40 m_at_29 m_wrong_30 0 p0 p1 p2 p3 (by first | exact yM | exact Or.inl rfl | exact Or.inr rfl | omega) (by omega) (by omega) h_m_at_29 h_m_wrong_30 (by omega) h_p0 h_p1 h_p2 h_p3
set_option maxHeartbeats 8000000 in
set_option maxRecDepth 200000 in
theorem t_X10_pick {post : Int32 -> Int32 -> Nat -> Int32 -> Int32 -> Int32 -> Int32 -> Int32 -> Int32 -> Int32 -> Int32 -> Int32 -> Int32 -> (Nat -> Int32) -> (Nat -> Int32) -> Prop} {SB : Int} {p0 p1 bT bY : Int32} {jD : Nat} {mLn oF rP dQ bW bZ aR aE bI aW bU : Int32} {qG m_x gR pW qR nG oO pJ qO qQ uL : Nat -> Int32} (xJ : 0 <= Int32.toInt bT /\ Int32.toInt bT <= 16) (yG : 0 <= Int32.toInt bY /\ Int32.toInt bY <= 1) (yM : jD = 0 \/ jD = 1 \/ jD = 2) (zE : 0 <= Int32.toInt mLn /\ Int32.toInt mLn <= 80) (aAR : 0 <= Int32.toInt oF /\ Int32.toInt oF <= 80) (aA1 : 0 <= Int32.toInt rP /\ Int32.toInt rP <= 80) (aAA : -1 <= Int32.toInt dQ /\ Int32.toInt dQ <= 80) (zQ : 0 <= Int32.toInt bW /\ Int32.toInt bW <= 40) (zT : 0 <= Int32.toInt bZ /\ Int32.toInt bZ <= 0) (yL : 0 <= Int32.toInt aR /\ Int32.toInt aR <= 15) (xQ : 0 <= Int32.toInt aE /\ Int32.toInt aE <= 7) (yY : 0 <= Int32.toInt bI /\ Int32.toInt bI <= 1) (yK : 0 <= Int32.toInt aW /\ Int32.toInt aW <= 63) (aAZ : 0 <= Int32.toInt bU /\ Int32.toInt bU <= 12) (xU : ∀ k : Nat, k = 17 -> -1 <= Int32.toInt (qG k) /\ Int32.toInt (qG k) <= SB) (xV : ∀ k : Nat, k = 19 -> 0 <= Int32.toInt (qG k) /\ Int32.toInt (qG k) <= 9) (aAW : ∀ k : Nat, 0 <= Int32.toInt (m_x k) /\ Int32.toInt (m_x k) <= 99) (xK : ∀ k : Nat, 0 <= Int32.toInt (gR k) /\ Int32.toInt (gR k) <= 99) (yR : ∀ k : Nat, 0 <= Int32.toInt (pW k) /\ Int32.toInt (pW k) <= 9) (zM : ∀ k : Nat, 0 <= Int32.toInt (qR k) /\ Int32.toInt (qR k) <= 9) (xT : ∀ k : Nat, 0 <= Int32.toInt (nG k) /\ Int32.toInt (nG k) <= 99) (yF : ∀ k : Nat, 0 <= Int32.toInt (oO k) /\ Int32.toInt (oO k) <= 99) (yD : ∀ k : Nat, k = 4 -> 1 <= Int32.toInt (pJ k) /\ Int32.toInt (pJ k) <= 30) (xZ : ∀ k : Nat, k = 3 -> 0 <= Int32.toInt (pJ k) /\ Int32.toInt (pJ k) <= 9) (zG : ∀ k : Nat, -128 <= Int32.toInt (qO k) /\ Int32.toInt (qO k) <= 127) (zI : ∀ k : Nat, -128 <= Int32.toInt (qQ k) /\ Int32.toInt (qQ k) <= 127) (aAo : ∀ k : Nat, k % 21 = 17 -> -1 <= Int32.toInt (uL k) /\ Int32.toInt (uL k) <= SB) (aAp : ∀ k : Nat, k % 21 = 19 -> 0 <= Int32.toInt (uL k) /\ Int32.toInt (uL k) <= 9) (hc0 : -1 <= SB /\ SB <= 7) (hpost : ∀ (r : Int32) (xG : Int32) (aAP : Nat) (zS : Int32) (aAz : Int32) (aAm : Int32) (zH : Int32) (aAM : Int32) (zP : Int32) (yO : Int32) (zZ : Int32) (zO : Int32) (aBI : Int32) (aBf : Nat -> Int32) (aBl : Nat -> Int32), (-5 <= Int32.toInt r /\ Int32.toInt r <= 99) -> (0 <= Int32.toInt xG /\ Int32.toInt xG <= 0) -> (aAP = 0 \/ aAP = 1 \/ aAP = 2) -> (0 <= Int32.toInt zS /\ Int32.toInt zS <= 80) -> (0 <= Int32.toInt aAz /\ Int32.toInt aAz <= 80) -> (0 <= Int32.toInt aAm /\ Int32.toInt aAm <= 80) -> (-1 <= Int32.toInt zH /\ Int32.toInt zH <= 80) -> (0 <= Int32.toInt aAM /\ Int32.toInt aAM <= 0) -> (0 <= Int32.toInt zP /\ Int32.toInt zP <= 15) -> (0 <= Int32.toInt yO /\ Int32.toInt yO <= 7) -> (0 <= Int32.toInt zZ /\ Int32.toInt zZ <= 1) -> (0 <= Int32.toInt zO /\ Int32.toInt zO <= 63) -> (0 <= Int32.toInt aBI /\ Int32.toInt aBI <= 12) -> (∀ k : Nat, k = 17 -> -1 <= Int32.toInt (aBf k) /\ Int32.toInt (aBf k) <= SB) -> (∀ k : Nat, k = 19 -> 0 <= Int32.toInt (aBf k) /\ Int32.toInt (aBf k) <= 9) -> (∀ k : Nat, k % 21 = 17 -> -1 <= Int32.toInt (aBl k) /\ Int32.toInt (aBl k) <= SB) -> (∀ k : Nat, k % 21 = 19 -> 0 <= Int32.toInt (aBl k) /\ Int32.toInt (aBl k) <= 9) -> post r xG aAP zS aAz aAm zH aAM zP yO zZ zO aBI aBf aBl) : wp_X10_pick post p0 p1 bT bY jD mLn oF rP dQ bW bZ aR aE bI aW bU qG m_x gR pW qR nG oO pJ qO qQ uL := by
  have l0 := aI2
  have l1 := li_m2
  have l2 := li_m3
  have l3 := li_m4
  have l4 := li_m5
  have l5 := aE0
  have l6 := aEc
  have l7 := aKH
  have l8 := li_16
  have l9 := li_17
  have l10 := li_18
  have l11 := li_19
  have l12 := li_2
  have l13 := li_20
  have l14 := aJ8
  have l15 := li_4
  have l16 := li_63
  have l17 := aJ9
  have l18 := li_9999
  intro v1 ev1
  have f2 : Int32.toInt (bT - 1) = Int32.toInt bT - Int32.toInt (1 : Int32) := aCA _ _ (by omega)
  rw [<- ev1] at f2
  have f4 := aAT p0
  refine And.intro (fun c3 => ?_) (fun c3 => ?_)
  · skip
    have c3 := (aAd _ _).mp c3
    refine And.intro (aHE (by omega)) ?_
    refine And.intro (fun _ => ?_) (fun h9 => absurd h9 (by decide))
    refine And.intro (fun h9 => absurd h9 (by decide)) (fun _ => ?_)
    exact hpost _ _ _ _ _ _ _ _ _ _ _ _ _ _ _ (by omega) (by omega) yM zE aAR aA1 aAA zT yL xQ yY yK aAZ xU xV aAo aAp
  · skip
    have c3 := mt (aAd _ _).mpr c3
    refine And.intro (fun c5 => ?_) (fun c5 => ?_)
    · skip
      have c5 := (aAd _ _).mp c5
      refine And.intro (aHE (by omega)) ?_
      refine And.intro (fun _ => ?_) (fun h9 => absurd h9 (by decide))
      refine And.intro (fun h9 => absurd h9 (by decide)) (fun _ => ?_)
      exact hpost _ _ _ _ _ _ _ _ _ _ _ _ _ _ _ (by omega) (by omega) yM zE aAR aA1 aAA zT yL xQ yY yK aAZ xU xV aAo aAp
    · skip
      have c5 := mt (aAd _ _).mpr c5
      refine And.intro (aHE (by omega)) ?_
      refine And.intro (fun h9 => absurd h9 (by decide)) (fun _ => ?_)
      have f7 := aAT p1
      refine And.intro (fun c6 => ?_) (fun c6 => ?_)
      · skip
        have c6 := (aAd _ _).mp c6
        refine And.intro (fun h9 => absurd h9 (by decide)) (fun _ => ?_)
        refine And.intro (fun h9 => absurd h9 (by decide)) (fun _ => ?_)
        exact hpost _ _ _ _ _ _ _ _ _ _ _ _ _ _ _ (by omega) (by omega) yM zE aAR aA1 aAA zT yL xQ yY yK aAZ xU xV aAo aAp
      · skip
        have c6 := mt (aAd _ _).mpr c6
        refine And.intro (fun c8 => ?_) (fun c8 => ?_)
        · skip
          have c8 := (aAd _ _).mp c8
          refine And.intro (fun h9 => absurd h9 (by decide)) (fun _ => ?_)
          refine And.intro (fun h9 => absurd h9 (by decide)) (fun _ => ?_)
          exact hpost _ _ _ _ _ _ _ _ _ _ _ _ _ _ _ (by omega) (by omega) yM zE aAR aA1 aAA zT yL xQ yY yK aAZ xU xV aAo aAp
        · skip
          have c8 := mt (aAd _ _).mpr c8
          refine And.intro (fun _ => ?_) (fun h9 => absurd h9 (by decide))
          refine And.intro (aBZ (by omega)) ?_
          refine And.intro (fun c9 => ?_) (fun c9 => ?_)
          · skip
            have c9 := (zJ _ _).mp c9
            refine And.intro (aBZ (by omega)) ?_
            intro v11 ev11
            have f12 := zM p0.toNatClampNeg
            have hv11 := congrArg Int32.toInt ev11
            have q13 := xV (19 : Int32).toNatClampNeg (by have e9 : (19 : Int32).toNatClampNeg = (Int32.toInt (19 : Int32)).toNat := rfl; omega)
            refine And.intro (fun c14 => ?_) (fun c14 => ?_)
            · skip
              have c14 := (aAO _ _).mp c14
              have q16 := xU (17 : Int32).toNatClampNeg (by have e9 : (17 : Int32).toNatClampNeg = (Int32.toInt (17 : Int32)).toNat := rfl; omega)
              intro v17 ev17
              have hv17 := congrArg Int32.toInt ev17
              refine And.intro (fun c19 => ?_) (fun c19 => ?_)
              · skip
                have c19 := (zJ _ _).mp c19
                refine And.intro (fun h9 => absurd h9 (by decide)) (fun _ => ?_)
                exact hpost _ _ _ _ _ _ _ _ _ _ _ _ _ _ _ (by omega) (by omega) yM zE aAR aA1 aAA zT yL xQ yY yK aAZ xU xV aAo aAp
              · skip
                have c19 := mt (zJ _ _).mpr c19
                have q20 := xU (17 : Int32).toNatClampNeg (by have e9 : (17 : Int32).toNatClampNeg = (Int32.toInt (17 : Int32)).toNat := rfl; omega)
                intro v21 ev21
                have hv21 := congrArg Int32.toInt ev21
                intro v22 ev22
                have hv22 := congrArg Int32.toInt ev22
                intro v24 ev24
                have hv24 := congrArg Int32.toInt ev24
                intro v26 ev26
                have hv26 := congrArg Int32.toInt ev26
                refine And.intro (aBZ (by omega)) ?_
                intro v28 ev28
                have f29 := aAW p0.toNatClampNeg
                have hv28 := congrArg Int32.toInt ev28
                refine And.intro (aBZ (by omega)) ?_
                intro v30 ev30
                have f32 := xT v21.toNatClampNeg
                have f31 : Int32.toInt (v28 - (nG v21.toNatClampNeg)) = Int32.toInt v28 - Int32.toInt (nG v21.toNatClampNeg) := aCA _ _ (by omega)
                rw [<- ev30] at f31
                intro v33 ev33
                have f34 := ti_abs v30 (by omega)
                have hv33 := congrArg Int32.toInt ev33
                refine And.intro (aBZ (by omega)) ?_
                intro v35 ev35
                have hv35 := congrArg Int32.toInt ev35
                refine And.intro (aBZ (by omega)) ?_
                intro v36 ev36
                have f37 : Int32.toInt (v35 - (nG v21.toNatClampNeg)) = Int32.toInt v35 - Int32.toInt (nG v21.toNatClampNeg) := aCA _ _ (by omega)
                rw [<- ev36] at f37
                intro v38 ev38
                have f39 := ti_abs v36 (by omega)
                have hv38 := congrArg Int32.toInt ev38
                intro v40 ev40
                have hv40 := congrArg Int32.toInt ev40
                refine And.intro (aBZ (by omega)) ?_
                intro v42 ev42
                have f43 := xK p0.toNatClampNeg
                have hv42 := congrArg Int32.toInt ev42
                refine And.intro (aBZ (by omega)) ?_
                intro v44 ev44
                have f46 := yF v21.toNatClampNeg
                have f45 : Int32.toInt (v42 - (oO v21.toNatClampNeg)) = Int32.toInt v42 - Int32.toInt (oO v21.toNatClampNeg) := aCA _ _ (by omega)
                rw [<- ev44] at f45
                intro v47 ev47
                have f48 := ti_max (0 : Int32) v44
                have hv47 := congrArg Int32.toInt ev47
                refine And.intro (aBZ (by omega)) ?_
                intro v49 ev49
                have hv49 := congrArg Int32.toInt ev49
                refine And.intro (aBZ (by omega)) ?_
                intro v50 ev50
                have f51 : Int32.toInt (v49 - (oO v21.toNatClampNeg)) = Int32.toInt v49 - Int32.toInt (oO v21.toNatClampNeg) := aCA _ _ (by omega)
                rw [<- ev50] at f51
                intro v52 ev52
                have f53 := ti_max (0 : Int32) v50
                have hv52 := congrArg Int32.toInt ev52
                intro v54 ev54
                have hv54 := congrArg Int32.toInt ev54
                have f57 := aAT v54
                refine And.intro (fun c56 => ?_) (fun c56 => ?_)
                · skip
                  have c56 := (aAd _ _).mp c56
                  refine And.intro (fun h9 => absurd h9 (by decide)) (fun _ => ?_)
                  refine And.intro (fun h9 => absurd h9 (by decide)) (fun _ => ?_)
                  exact hpost _ _ _ _ _ _ _ _ _ _ _ _ _ _ _ (by omega) (by omega) yM zE aAR aA1 aAA zT yL xQ yY yK aAZ xU xV aAo aAp
                · skip
                  have c56 := mt (aAd _ _).mpr c56
                  refine And.intro (fun _ => ?_) (fun h9 => absurd h9 (by decide))
                  refine aKO (by omega) xJ xU xV (by omega) (fun r59 h_r59 ox60 => ?_)
                  intro v61 ev61
                  intro v62 ev62
                  have f64 := aAQ v61 1431655765 (by omega)
                  have f63 : Int32.toInt (r59 - (v61 &&& 1431655765)) = Int32.toInt r59 - Int32.toInt (v61 &&& 1431655765) := aCA _ _ (by omega)
                  rw [<- ev62] at f63
                  intro v65 ev65
                  have f66 := aAQ v62 858993459 (by omega)
                  have hv65 := congrArg Int32.toInt ev65
                  intro v67 ev67
                  intro v68 ev68
                  have f70 := aAQ v67 858993459 (by omega)
                  have f69 : Int32.toInt (v65 + (v67 &&& 858993459)) = Int32.toInt v65 + Int32.toInt (v67 &&& 858993459) := aAD _ _ (by omega)
                  rw [<- ev68] at f69
                  intro v71 ev71
                  have hv71 := congrArg Int32.toInt ev71
                  intro v73 ev73
                  have f74 := aAQ v71 252645135 (by omega)
                  have hv73 := congrArg Int32.toInt ev73
                  intro v75 ev75
                  have hv75 := congrArg Int32.toInt ev75
                  intro v77 ev77
                  have hv77 := congrArg Int32.toInt ev77
                  have q79 := yD (4 : Int32).toNatClampNeg (by have e9 : (4 : Int32).toNatClampNeg = (Int32.toInt (4 : Int32)).toNat := rfl; omega)
                  have f81 := aAQ v77 63 (by omega)
                  refine And.intro (fun c80 => ?_) (fun c80 => ?_)
                  · skip
                    have c80 := (aAd _ _).mp c80
                    refine And.intro (fun _ => ?_) (fun h9 => absurd h9 (by decide))
                    refine t_X10_remember aAZ xU xV aAo aAp (by omega) (fun m_undoMany_83 m_undos_84 h_m_undoMany_83 e0_m_undos_84 e1_m_undos_84 => ?_)
                    have q85 := xU (17 : Int32).toNatClampNeg (by have e9 : (17 : Int32).toNatClampNeg = (Int32.toInt (17 : Int32)).toNat := rfl; omega)
                    intro v86 ev86
                    have hv86 := congrArg Int32.toInt ev86
                    refine aKO (by omega) xJ xU xV (by omega) (fun r87 h_r87 ox88 => ?_)
                    intro v89 ev89
                    intro v90 ev90
                    have f92 := aAQ v89 1431655765 (by omega)
                    have f91 : Int32.toInt (r87 - (v89 &&& 1431655765)) = Int32.toInt r87 - Int32.toInt (v89 &&& 1431655765) := aCA _ _ (by omega)
                    rw [<- ev90] at f91
                    intro v93 ev93
                    have f94 := aAQ v90 858993459 (by omega)
                    have hv93 := congrArg Int32.toInt ev93
                    intro v95 ev95
                    intro v96 ev96
                    have f98 := aAQ v95 858993459 (by omega)
                    have f97 : Int32.toInt (v93 + (v95 &&& 858993459)) = Int32.toInt v93 + Int32.toInt (v95 &&& 858993459) := aAD _ _ (by omega)
                    rw [<- ev96] at f97
                    intro v99 ev99
                    have hv99 := congrArg Int32.toInt ev99
                    intro v101 ev101
                    have f102 := aAQ v99 252645135 (by omega)
                    have hv101 := congrArg Int32.toInt ev101
                    intro v103 ev103
                    have hv103 := congrArg Int32.toInt ev103
                    intro v105 ev105
                    have hv105 := congrArg Int32.toInt ev105
                    have f118 := aAQ v105 63 (by omega)
                    refine t_X10_secondsOf (by omega) (by omega) (by omega) (by omega) yM zE aAR aA1 aAA zQ zT yL xQ yY yK aAW xK yR xT yF zG zI (fun r117 m_read_107 m_length_108 m_top_109 m_at_110 m_wrong_111 m_isAsked_112 m_askedFruit_113 m_askedStanding_114 m_askedHook_115 m_askedApron_116 h_r117 h_m_read_107 h_m_length_108 h_m_top_109 h_m_at_110 h_m_wrong_111 h_m_isAsked_112 h_m_askedFruit_113 h_m_askedStanding_114 h_m_askedHook_115 h_m_askedApron_116 => ?_)
                    intro v119 ev119
                    have hv119 := congrArg Int32.toInt ev119
                    refine aKO (by omega) xJ xU xV (by omega) (fun r121 h_r121 ox122 => ?_)
                    refine t_X10_below (by omega) h_r121 xJ aAW xK (fun r123 h_r123 => ?_)
                    intro v124 ev124
                    have f126 := aAT v124
                    have e125 : ∀ k : Nat, k = 17 -> -1 <= Int32.toInt ((upd qG (16 : Int32).toNatClampNeg v124) k) /\ Int32.toInt ((upd qG (16 : Int32).toNatClampNeg v124) k) <= SB := aCJ (C := fun k => k = 17) xU (fun hk => by have e9 : (16 : Int32).toNatClampNeg = (Int32.toInt (16 : Int32)).toNat := rfl; have hk : (16 : Int32).toNatClampNeg = 17 := hk; omega)
                    have e127 : ∀ k : Nat, k = 19 -> 0 <= Int32.toInt ((upd qG (16 : Int32).toNatClampNeg v124) k) /\ Int32.toInt ((upd qG (16 : Int32).toNatClampNeg v124) k) <= 9 := aCJ (C := fun k => k = 19) xV (fun hk => by have e9 : (16 : Int32).toNatClampNeg = (Int32.toInt (16 : Int32)).toNat := rfl; have hk : (16 : Int32).toNatClampNeg = 19 := hk; omega)
                    refine And.intro (aBZ (by omega)) ?_
                    have e128 : ∀ k : Nat, k = 17 -> -1 <= Int32.toInt ((upd (upd qG (16 : Int32).toNatClampNeg v124) p0.toNatClampNeg 1) k) /\ Int32.toInt ((upd (upd qG (16 : Int32).toNatClampNeg v124) p0.toNatClampNeg 1) k) <= SB := aCJ (C := fun k => k = 17) e125 (fun hk => by have e9 : p0.toNatClampNeg = (Int32.toInt p0).toNat := rfl; have hk : p0.toNatClampNeg = 17 := hk; omega)
                    have e129 : ∀ k : Nat, k = 19 -> 0 <= Int32.toInt ((upd (upd qG (16 : Int32).toNatClampNeg v124) p0.toNatClampNeg 1) k) /\ Int32.toInt ((upd (upd qG (16 : Int32).toNatClampNeg v124) p0.toNatClampNeg 1) k) <= 9 := aCJ (C := fun k => k = 19) e127 (fun hk => by have e9 : p0.toNatClampNeg = (Int32.toInt p0).toNat := rfl; have hk : p0.toNatClampNeg = 19 := hk; omega)
                    intro v130 ev130
                    have hv130 := congrArg Int32.toInt ev130
                    intro v132 ev132
                    have hv132 := congrArg Int32.toInt ev132
                    intro v134 ev134
                    have f135 := aAT (if v132 < 9999 then v132 else 9999)
                    have f137 := aAT v132
                    have f136 := ti_min (9999 : Int32) v132
                    have hv134 := congrArg Int32.toInt ev134
                    have f139 := aAT v134
                    have e138 : ∀ k : Nat, k = 17 -> -1 <= Int32.toInt ((upd (upd (upd qG (16 : Int32).toNatClampNeg v124) p0.toNatClampNeg 1) (20 : Int32).toNatClampNeg v134) k) /\ Int32.toInt ((upd (upd (upd qG (16 : Int32).toNatClampNeg v124) p0.toNatClampNeg 1) (20 : Int32).toNatClampNeg v134) k) <= SB := aCJ (C := fun k => k = 17) e128 (fun hk => by have e9 : (20 : Int32).toNatClampNeg = (Int32.toInt (20 : Int32)).toNat := rfl; have hk : (20 : Int32).toNatClampNeg = 17 := hk; omega)
                    have e140 : ∀ k : Nat, k = 19 -> 0 <= Int32.toInt ((upd (upd (upd qG (16 : Int32).toNatClampNeg v124) p0.toNatClampNeg 1) (20 : Int32).toNatClampNeg v134) k) /\ Int32.toInt ((upd (upd (upd qG (16 : Int32).toNatClampNeg v124) p0.toNatClampNeg 1) (20 : Int32).toNatClampNeg v134) k) <= 9 := aCJ (C := fun k => k = 19) e129 (fun hk => by have e9 : (20 : Int32).toNatClampNeg = (Int32.toInt (20 : Int32)).toNat := rfl; have hk : (20 : Int32).toNatClampNeg = 19 := hk; omega)
                    exact hpost _ _ _ _ _ _ _ _ _ _ _ _ _ _ _ (by omega) (by omega) h_m_read_107 h_m_length_108 h_m_top_109 h_m_at_110 h_m_wrong_111 h_m_isAsked_112 h_m_askedFruit_113 h_m_askedStanding_114 h_m_askedHook_115 h_m_askedApron_116 (by omega) e138 e140 e0_m_undos_84 e1_m_undos_84
                  · skip
                    have c80 := mt (aAd _ _).mpr c80
                    refine And.intro (fun h9 => absurd h9 (by decide)) (fun _ => ?_)
                    exact hpost _ _ _ _ _ _ _ _ _ _ _ _ _ _ _ (by omega) (by omega) yM zE aAR aA1 aAA zT yL xQ yY yK aAZ xU xV aAo aAp
            · skip
              have c14 := mt (aAO _ _).mpr c14
              refine And.intro (fun h9 => absurd h9 (by decide)) (fun _ => ?_)
              exact hpost _ _ _ _ _ _ _ _ _ _ _ _ _ _ _ (by omega) (by omega) yM zE aAR aA1 aAA zT yL xQ yY yK aAZ xU xV aAo aAp
          · skip
            have c9 := mt (zJ _ _).mpr c9
            refine And.intro (fun h9 => absurd h9 (by decide)) (fun _ => ?_)
            exact hpost _ _ _ _ _ _ _ _ _ _ _ _ _ _ _ (by omega) (by omega) yM zE aAR aA1 aAA zT yL xQ yY yK aAZ xU xV aAo aAp
