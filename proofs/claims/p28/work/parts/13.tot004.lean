set_option maxHeartbeats 8000000 in
set_option maxRecDepth 200000 in
theorem t_X9_undo {post : Int32 -> Int32 -> Int32 -> Int32 -> Int32 -> Int32 -> Int32 -> Int32 -> Int32 -> Int32 -> Int32 -> Prop} {jE eW eY dU fY gJ jG nU pR uM : Int32} {tD : Nat -> Int32} (aAC : -1 <= Int32.toInt fY /\ Int32.toInt fY <= 7) (zK : 0 <= Int32.toInt jG /\ Int32.toInt jG <= 9) (aAr : 0 <= Int32.toInt pR /\ Int32.toInt pR <= 12) (aBy : 0 <= Int32.toInt uM /\ Int32.toInt uM <= 12) (aBF : ∀ k : Nat, k % 8 = 4 -> -1 <= Int32.toInt (tD k) /\ Int32.toInt (tD k) <= 7) (aBG : ∀ k : Nat, k % 8 = 6 -> 0 <= Int32.toInt (tD k) /\ Int32.toInt (tD k) <= 9) (hpost : ∀ (r : Int32) (aHN : Int32) (aGq : Int32) (aGr : Int32) (aFB : Int32) (aCx : Int32) (aI5 : Int32) (aDz : Int32) (aFi : Int32) (aBa : Int32) (aEN : Int32), (-1 <= Int32.toInt r /\ Int32.toInt r <= 11) -> (-1 <= Int32.toInt aCx /\ Int32.toInt aCx <= 7) -> (0 <= Int32.toInt aDz /\ Int32.toInt aDz <= 9) -> (0 <= Int32.toInt aBa /\ Int32.toInt aBa <= 11) -> (0 <= Int32.toInt aEN /\ Int32.toInt aEN <= 12) -> post r aHN aGq aGr aFB aCx aI5 aDz aFi aBa aEN) : wp_X9_undo post jE eW eY dU fY gJ jG nU pR uM tD := by
  have l0 := aI2
  have l1 := aE0
  have l2 := aEc
  have l3 := li_104
  have l4 := li_13
  have l5 := li_2
  have l6 := li_3
  have l7 := li_4
  have l8 := li_5
  have l9 := li_6
  have l10 := li_7
  have l11 := li_8
  refine And.intro (fun c1 => ?_) (fun c1 => ?_)
  · skip
    have c1 := mt (zJ _ _).mpr c1
    intro v2 ev2
    have f3 : Int32.toInt (uM + 13) = Int32.toInt uM + Int32.toInt (13 : Int32) := aAD _ _ (by omega)
    rw [<- ev2] at f3
    intro v4 ev4
    have f5 : Int32.toInt (v2 - 1) = Int32.toInt v2 - Int32.toInt (1 : Int32) := aCA _ _ (by omega)
    rw [<- ev4] at f5
    intro v6 ev6
    have f7 : Int32.toInt (v4 - v4 / 13 * 13) = Int32.toInt v4 % 13 := ti_rem _ _ (by decide) (by omega) (by decide)
    rw [<- ev6] at f7
    intro v8 ev8
    have f9 : Int32.toInt (pR - 1) = Int32.toInt pR - Int32.toInt (1 : Int32) := aCA _ _ (by omega)
    rw [<- ev8] at f9
    intro v10 ev10
    have f11 : Int32.toInt (v6 * 8) = Int32.toInt v6 * 8 := ta_mulc _ _ (by decide) (by omega)
    rw [<- ev10] at f11
    refine And.intro (fun c12 => ?_) (fun c12 => ?_)
    · skip
      have c12 := (aAd _ _).mp c12
      exfalso; omega
    · skip
      have c12 := mt (aAd _ _).mpr c12
      have f14 : Int32.toInt (104 - 8) = Int32.toInt (104 : Int32) - Int32.toInt (8 : Int32) := aCA _ _ (by omega)
      refine And.intro (fun c13 => ?_) (fun c13 => ?_)
      · skip
        have c13 := (aAO _ _).mp c13
        refine And.intro (aBZ (by omega)) ?_
        intro v15 ev15
        have hv15 := congrArg Int32.toInt ev15
        intro v17 ev17
        have f18 : Int32.toInt (v10 + 1) = Int32.toInt v10 + Int32.toInt (1 : Int32) := aAD _ _ (by omega)
        rw [<- ev17] at f18
        refine And.intro (aBZ (by omega)) ?_
        intro v19 ev19
        have hv19 := congrArg Int32.toInt ev19
        intro v21 ev21
        have f22 : Int32.toInt (v10 + 2) = Int32.toInt v10 + Int32.toInt (2 : Int32) := aAD _ _ (by omega)
        rw [<- ev21] at f22
        refine And.intro (aBZ (by omega)) ?_
        intro v23 ev23
        have hv23 := congrArg Int32.toInt ev23
        intro v25 ev25
        have f26 : Int32.toInt (v10 + 3) = Int32.toInt v10 + Int32.toInt (3 : Int32) := aAD _ _ (by omega)
        rw [<- ev25] at f26
        refine And.intro (aBZ (by omega)) ?_
        intro v27 ev27
        have hv27 := congrArg Int32.toInt ev27
        intro v29 ev29
        have f30 : Int32.toInt (v10 + 4) = Int32.toInt v10 + Int32.toInt (4 : Int32) := aAD _ _ (by omega)
        rw [<- ev29] at f30
        refine And.intro (aBZ (by omega)) ?_
        have q31 := aBF v29.toNatClampNeg (by have e9 : v29.toNatClampNeg = (Int32.toInt v29).toNat := rfl; omega)
        intro v32 ev32
        have hv32 := congrArg Int32.toInt ev32
        intro v34 ev34
        have f35 : Int32.toInt (v10 + 5) = Int32.toInt v10 + Int32.toInt (5 : Int32) := aAD _ _ (by omega)
        rw [<- ev34] at f35
        refine And.intro (aBZ (by omega)) ?_
        intro v36 ev36
        have hv36 := congrArg Int32.toInt ev36
        intro v38 ev38
        have f39 : Int32.toInt (v10 + 6) = Int32.toInt v10 + Int32.toInt (6 : Int32) := aAD _ _ (by omega)
        rw [<- ev38] at f39
        refine And.intro (aBZ (by omega)) ?_
        have q40 := aBG v38.toNatClampNeg (by have e9 : v38.toNatClampNeg = (Int32.toInt v38).toNat := rfl; omega)
        intro v41 ev41
        have hv41 := congrArg Int32.toInt ev41
        intro v43 ev43
        have f44 : Int32.toInt (v10 + 7) = Int32.toInt v10 + Int32.toInt (7 : Int32) := aAD _ _ (by omega)
        rw [<- ev43] at f44
        refine And.intro (aBZ (by omega)) ?_
        intro v45 ev45
        have hv45 := congrArg Int32.toInt ev45
        exact hpost _ _ _ _ _ _ _ _ _ _ _ (by omega) (by omega) (by omega) (by omega) (by omega)
      · skip
        have c13 := mt (aAO _ _).mpr c13
        exfalso; omega
  · skip
    have c1 := (zJ _ _).mp c1
    exact hpost _ _ _ _ _ _ _ _ _ _ _ (by omega) aAC zK (by omega) aBy
set_option maxHeartbeats 8000000 in
set_option maxRecDepth 200000 in
theorem t_X9_reached {post : Int32 -> Int32 -> (Nat -> Int32) -> Prop} {p0 dN bD : Int32} {uU gF mX oE dY : Nat -> Int32} {qB : Int32} {jK : Nat -> Int32} (xL : 0 <= Int32.toInt dN /\ Int32.toInt dN <= 16) (wX : 0 <= Int32.toInt bD /\ Int32.toInt bD <= 8) (aAK : 0 <= Int32.toInt qB /\ Int32.toInt qB <= 16) (hpost : ∀ (r : Int32) (zV : Int32) (aAV : Nat -> Int32), (-1 <= Int32.toInt r /\ Int32.toInt r <= 65535) -> (0 <= Int32.toInt zV /\ Int32.toInt zV <= 16) -> post r zV aAV) : wp_X9_reached post p0 dN bD uU gF mX oE dY qB jK := by
  have l0 := aI2
  have l1 := aE0
  have l2 := aEc
  have l3 := li_16
  have l4 := li_2
  have f2 := aAT p0
  refine And.intro (fun c1 => ?_) (fun c1 => ?_)
  · skip
    have c1 := (aAd _ _).mp c1
    refine And.intro (fun h9 => absurd h9 (by decide)) (fun _ => ?_)
    exact hpost _ _ _ (by omega) aAK
  · skip
    have c1 := mt (aAd _ _).mpr c1
    refine And.intro (fun c3 => ?_) (fun c3 => ?_)
    · skip
      have c3 := (aAO _ _).mp c3
      refine And.intro (fun h9 => absurd h9 (by decide)) (fun _ => ?_)
      exact hpost _ _ _ (by omega) aAK
    · skip
      have c3 := mt (aAO _ _).mpr c3
      refine And.intro (fun _ => ?_) (fun h9 => absurd h9 (by decide))
      intro v4 ev4
      have hv4 := congrArg Int32.toInt ev4
      intro v6 ev6
      have hv6 := congrArg Int32.toInt ev6
      refine t_X3_within (by omega) xL (fun r8 h_r8 => ?_)
      intro v9 ev9
      have hv9 := congrArg Int32.toInt ev9
      intro v10 ev10
      have hv10 := congrArg Int32.toInt ev10
      refine t_X3_within (by omega) xL (fun r12 h_r12 => ?_)
      refine And.intro (fun h9 => absurd h9 (by decide)) (fun _ => ?_)
      refine And.intro (aBZ (by omega)) ?_
      intro v13 ev13
      have f14 : Int32.toInt (0 + 1) = Int32.toInt (0 : Int32) + Int32.toInt (1 : Int32) := aAD _ _ (by omega)
      rw [<- ev13] at f14
      refine And.intro (fun c15 => ?_) (fun c15 => ?_)
      · skip
        have c15 := (aAO _ _).mp c15
        exfalso; omega
      · skip
        have c15 := mt (aAO _ _).mpr c15
        refine And.intro (aBZ (by omega)) ?_
        intro v16 ev16
        have f17 : Int32.toInt (v13 + 1) = Int32.toInt v13 + Int32.toInt (1 : Int32) := aAD _ _ (by omega)
        rw [<- ev16] at f17
        intro v18 ev18
        have hv18 := congrArg Int32.toInt ev18
        intro v19 ev19
        have f21 := aAT v18
        have f22 : Int32.toInt (0 * (dY (1 : Int32).toNatClampNeg)) = Int32.toInt (dY (1 : Int32).toNatClampNeg) * 0 := ta_cmul _ _ (by decide) (by omega)
        have f20 : Int32.toInt (v18 + (0 * (dY (1 : Int32).toNatClampNeg))) = Int32.toInt v18 + Int32.toInt (0 * (dY (1 : Int32).toNatClampNeg)) := aAD _ _ (by omega)
        rw [<- ev19] at f20
        refine t_X3_within (by omega) xL (fun r24 h_r24 => ?_)
        exact hpost _ _ _ (by omega) (by omega)
set_option maxHeartbeats 8000000 in
set_option maxRecDepth 200000 in
theorem ts_X9_from_77 {post : Int32 -> Prop} {K42 : Int32 -> Int32 -> Int32 -> Int32 -> Prop} {n42 : Int} (dN bD : Int32) (uU gF mX oE dY : Nat -> Int32) (gJ : Int32) (xL : 0 <= Int32.toInt dN /\ Int32.toInt dN <= 16) (wX : 0 <= Int32.toInt bD /\ Int32.toInt bD <= 8) (hpost : ∀ (r : Int32) , (-1 <= Int32.toInt r /\ Int32.toInt r <= 255) -> post r) (hK42 : ∀ (x1 : Int32) (x3 : Int32) (x4 : Int32) (x5 : Int32), (0 <= Int32.toInt x1 /\ Int32.toInt x1 <= 15) -> (0 <= Int32.toInt x4 /\ Int32.toInt x4 <= 255) -> (0 <= Int32.toInt x5 /\ Int32.toInt x5 <= 8) -> (8 - Int32.toInt x5 < n42) -> K42 x1 x3 x4 x5) (x1 x3 x4 x5 : Int32) (aBK : 0 <= Int32.toInt x1 /\ Int32.toInt x1 <= 15) (aDO : 0 <= Int32.toInt x4 /\ Int32.toInt x4 <= 255) (aF7 : 0 <= Int32.toInt x5 /\ Int32.toInt x5 <= 7) (hn42 : 8 - Int32.toInt x5 <= n42) : ws_X9_from_77 post K42 dN bD uU gF mX oE dY gJ x1 x3 x4 x5 := by
  have l0 := aEc
  intro v1 ev1
  have f2 : Int32.toInt (x5 + 1) = Int32.toInt x5 + Int32.toInt (1 : Int32) := aAD _ _ (by omega)
  rw [<- ev1] at f2
  have f3 := aAT x3
  exact hK42 x1 x3 x4 v1 aBK aDO (by omega) (by omega)
set_option maxHeartbeats 8000000 in
set_option maxRecDepth 200000 in
theorem ts_X9_from_42 {post : Int32 -> Prop} {next : Int32 -> Int32 -> Int32 -> Int32 -> Prop} {n42 : Int} (dN bD : Int32) (uU gF mX oE dY : Nat -> Int32) (gJ : Int32) (xL : 0 <= Int32.toInt dN /\ Int32.toInt dN <= 16) (wX : 0 <= Int32.toInt bD /\ Int32.toInt bD <= 8) (hpost : ∀ (r : Int32) , (-1 <= Int32.toInt r /\ Int32.toInt r <= 255) -> post r) (hKn : ∀ (x1 : Int32) (x3 : Int32) (x4 : Int32) (x5 : Int32), (0 <= Int32.toInt x1 /\ Int32.toInt x1 <= 15) -> (0 <= Int32.toInt x4 /\ Int32.toInt x4 <= 255) -> (0 <= Int32.toInt x5 /\ Int32.toInt x5 <= 8) -> (8 - Int32.toInt x5 < n42) -> next x1 x3 x4 x5) (x1 x3 x4 x5 : Int32) (aBK : 0 <= Int32.toInt x1 /\ Int32.toInt x1 <= 15) (aDO : 0 <= Int32.toInt x4 /\ Int32.toInt x4 <= 255) (aF7 : 0 <= Int32.toInt x5 /\ Int32.toInt x5 <= 8) (hn42 : 8 - Int32.toInt x5 <= n42) : ws_X9_from_42 post next dN bD uU gF mX oE dY gJ x1 x3 x4 x5 := by
  have l0 := aE0
  refine And.intro (fun c4 => ?_) (fun c4 => ?_)
  · skip
    have c4 := (aAO _ _).mp c4
    exact hpost _ (by omega)
  · skip
    have c4 := mt (aAO _ _).mpr c4
    refine And.intro (aBZ (by omega)) ?_
    intro v5 ev5
    have hv5 := congrArg Int32.toInt ev5
    refine And.intro (aBZ (by omega)) ?_
    have f8 := aAT v5
    refine And.intro (fun c7 => ?_) (fun c7 => ?_)
    · skip
      have c7 := (aAO _ _).mp c7
      refine And.intro (aBZ (by omega)) ?_
      intro v10 ev10
      have hv10 := congrArg Int32.toInt ev10
      refine And.intro (aBZ (by omega)) ?_
      refine And.intro (aBZ (by omega)) ?_
      intro v11 ev11
      have hv11 := congrArg Int32.toInt ev11
      refine And.intro (aBZ (by omega)) ?_
      have f14 := aAT v11
      refine And.intro (fun c13 => ?_) (fun c13 => ?_)
      · skip
        have c13 := (aAO _ _).mp c13
        intro v16 ev16
        have hv16 := congrArg Int32.toInt ev16
        intro v18 ev18
        have f20 := aAT v16
        have f21 : Int32.toInt (0 * 0) = Int32.toInt (0 : Int32) * 0 := ta_mulc _ _ (by decide) (by omega)
        have f19 : Int32.toInt (v16 + (0 * 0)) = Int32.toInt v16 + Int32.toInt (0 * 0) := aAD _ _ (by omega)
        rw [<- ev18] at f19
        have f23 := aAT v18
        refine And.intro (fun c22 => ?_) (fun c22 => ?_)
        · skip
          have c22 := (aAd _ _).mp c22
          refine And.intro (fun _ => ?_) (fun h9 => absurd h9 (by decide))
          have f25 := aAT x3
          exact ts_X9_from_77 dN bD uU gF mX oE dY gJ xL wX hpost hKn x1 x3 x4 x5 aBK aDO (by omega) hn42
        · skip
          have c22 := mt (aAd _ _).mpr c22
          refine And.intro (fun h9 => absurd h9 (by decide)) (fun _ => ?_)
          intro v26 ev26
          have f28 := aDv 7 128 x5 (by decide) (by omega)
          have f27 := ti_or 8 256 x4 (1 <<< (x5 &&& 31)) (by decide) (by omega) (by omega)
          have hv26 := congrArg Int32.toInt ev26
          have f29 := aAT x3
          exact ts_X9_from_77 dN bD uU gF mX oE dY gJ xL wX hpost hKn x1 x3 v26 x5 aBK (by omega) (by omega) hn42
      · skip
        have c13 := mt (aAO _ _).mpr c13
        refine And.intro (aBZ (by omega)) ?_
        intro v30 ev30
        have hv30 := congrArg Int32.toInt ev30
        refine And.intro (aBZ (by omega)) ?_
        intro v31 ev31
        have hv31 := congrArg Int32.toInt ev31
        intro v33 ev33
        have hv33 := congrArg Int32.toInt ev33
        intro v35 ev35
        have hv35 := congrArg Int32.toInt ev35
        have f38 := aAT v35
        refine And.intro (fun c37 => ?_) (fun c37 => ?_)
        · skip
          have c37 := (aAd _ _).mp c37
          refine And.intro (fun _ => ?_) (fun h9 => absurd h9 (by decide))
          have f40 := aAT x3
          exact ts_X9_from_77 dN bD uU gF mX oE dY gJ xL wX hpost hKn x1 x3 x4 x5 aBK aDO (by omega) hn42
        · skip
          have c37 := mt (aAd _ _).mpr c37
          refine And.intro (fun h9 => absurd h9 (by decide)) (fun _ => ?_)
          intro v41 ev41
          have f43 := aDv 7 128 x5 (by decide) (by omega)
          have f42 := ti_or 8 256 x4 (1 <<< (x5 &&& 31)) (by decide) (by omega) (by omega)
          have hv41 := congrArg Int32.toInt ev41
          have f44 := aAT x3
          exact ts_X9_from_77 dN bD uU gF mX oE dY gJ xL wX hpost hKn x1 x3 v41 x5 aBK (by omega) (by omega) hn42
    · skip
      have c7 := mt (aAO _ _).mpr c7
      refine And.intro (aBZ (by omega)) ?_
      intro v45 ev45
      have hv45 := congrArg Int32.toInt ev45
      refine And.intro (aBZ (by omega)) ?_
      intro v46 ev46
      have hv46 := congrArg Int32.toInt ev46
      refine And.intro (aBZ (by omega)) ?_
      intro v48 ev48
      have hv48 := congrArg Int32.toInt ev48
      refine And.intro (aBZ (by omega)) ?_
      have f51 := aAT v48
      refine And.intro (fun c50 => ?_) (fun c50 => ?_)
      · skip
        have c50 := (aAO _ _).mp c50
        intro v53 ev53
        have hv53 := congrArg Int32.toInt ev53
        intro v55 ev55
        have f57 := aAT v53
        have f58 : Int32.toInt (0 * 0) = Int32.toInt (0 : Int32) * 0 := ta_mulc _ _ (by decide) (by omega)
        have f56 : Int32.toInt (v53 + (0 * 0)) = Int32.toInt v53 + Int32.toInt (0 * 0) := aAD _ _ (by omega)
        rw [<- ev55] at f56
        have f60 := aAT v55
        refine And.intro (fun c59 => ?_) (fun c59 => ?_)
        · skip
          have c59 := (aAd _ _).mp c59
          refine And.intro (fun _ => ?_) (fun h9 => absurd h9 (by decide))
          have f62 := aAT x3
          exact ts_X9_from_77 dN bD uU gF mX oE dY gJ xL wX hpost hKn x1 x3 x4 x5 aBK aDO (by omega) hn42
        · skip
          have c59 := mt (aAd _ _).mpr c59
          refine And.intro (fun h9 => absurd h9 (by decide)) (fun _ => ?_)
          intro v63 ev63
          have f65 := aDv 7 128 x5 (by decide) (by omega)
          have f64 := ti_or 8 256 x4 (1 <<< (x5 &&& 31)) (by decide) (by omega) (by omega)
          have hv63 := congrArg Int32.toInt ev63
          have f66 := aAT x3
          exact ts_X9_from_77 dN bD uU gF mX oE dY gJ xL wX hpost hKn x1 x3 v63 x5 aBK (by omega) (by omega) hn42
      · skip
        have c50 := mt (aAO _ _).mpr c50
        refine And.intro (aBZ (by omega)) ?_
        intro v67 ev67
        have hv67 := congrArg Int32.toInt ev67
        refine And.intro (aBZ (by omega)) ?_
        intro v68 ev68
        have hv68 := congrArg Int32.toInt ev68
        intro v70 ev70
        have hv70 := congrArg Int32.toInt ev70
        intro v72 ev72
        have hv72 := congrArg Int32.toInt ev72
        have f75 := aAT v72
        refine And.intro (fun c74 => ?_) (fun c74 => ?_)
        · skip
          have c74 := (aAd _ _).mp c74
          refine And.intro (fun _ => ?_) (fun h9 => absurd h9 (by decide))
          have f77 := aAT x3
          exact ts_X9_from_77 dN bD uU gF mX oE dY gJ xL wX hpost hKn x1 x3 x4 x5 aBK aDO (by omega) hn42
        · skip
          have c74 := mt (aAd _ _).mpr c74
          refine And.intro (fun h9 => absurd h9 (by decide)) (fun _ => ?_)
          intro v78 ev78
          have f80 := aDv 7 128 x5 (by decide) (by omega)
          have f79 := ti_or 8 256 x4 (1 <<< (x5 &&& 31)) (by decide) (by omega) (by omega)
          have hv78 := congrArg Int32.toInt ev78
          have f81 := aAT x3
          exact ts_X9_from_77 dN bD uU gF mX oE dY gJ xL wX hpost hKn x1 x3 v78 x5 aBK (by omega) (by omega) hn42
set_option maxHeartbeats 8000000 in
set_option maxRecDepth 200000 in
theorem tb_X9_from_42 {post : Int32 -> Prop} (dN bD : Int32) (uU gF mX oE dY : Nat -> Int32) (gJ : Int32) (xL : 0 <= Int32.toInt dN /\ Int32.toInt dN <= 16) (wX : 0 <= Int32.toInt bD /\ Int32.toInt bD <= 8) (hpost : ∀ (r : Int32) , (-1 <= Int32.toInt r /\ Int32.toInt r <= 255) -> post r) : ∀ (n : Nat) (x1 x3 x4 x5 : Int32), (0 <= Int32.toInt x1 /\ Int32.toInt x1 <= 15) -> (0 <= Int32.toInt x4 /\ Int32.toInt x4 <= 255) -> (0 <= Int32.toInt x5 /\ Int32.toInt x5 <= 8) -> (8 - Int32.toInt x5 < (n : Int)) -> wb_X9_from_42 post dN bD uU gF mX oE dY gJ n x1 x3 x4 x5 := by
  intro n
  induction n with
  | zero =>
    intro x1 x3 x4 x5 aBK aDO aF7 hm
    exfalso; omega
  | succ n ih =>
    intro x1 x3 x4 x5 aBK aDO aF7 hm
    exact ts_X9_from_42 dN bD uU gF mX oE dY gJ xL wX hpost ih x1 x3 x4 x5 aBK aDO aF7 (by omega)
set_option maxHeartbeats 8000000 in
set_option maxRecDepth 200000 in
theorem t_X9_from {post : Int32 -> Prop} {p0 p1 dN bD : Int32} {uU gF mX oE dY : Nat -> Int32} {gJ : Int32} (xL : 0 <= Int32.toInt dN /\ Int32.toInt dN <= 16) (wX : 0 <= Int32.toInt bD /\ Int32.toInt bD <= 8) (hpost : ∀ (r : Int32) , (-1 <= Int32.toInt r /\ Int32.toInt r <= 255) -> post r) : wp_X9_from post p0 p1 dN bD uU gF mX oE dY gJ := by
  have l0 := aI2
  have l1 := aE0
  have l2 := aEc
  have l3 := li_2
  have f83 := aAT p0
  refine And.intro (fun c82 => ?_) (fun c82 => ?_)
  · skip
    have c82 := (aAd _ _).mp c82
    refine And.intro (fun _ => ?_) (fun h9 => absurd h9 (by decide))
    exact hpost _ (by omega)
  · skip
    have c82 := mt (aAd _ _).mpr c82
    refine And.intro (fun c84 => ?_) (fun c84 => ?_)
    · skip
      have c84 := (aAO _ _).mp c84
      refine And.intro (fun _ => ?_) (fun h9 => absurd h9 (by decide))
      exact hpost _ (by omega)
    · skip
      have c84 := mt (aAO _ _).mpr c84
      refine And.intro (fun h9 => absurd h9 (by decide)) (fun _ => ?_)
      refine t_X9_isYesOrNo  (fun r85 h_r85 => ?_)
      refine And.intro (fun c86 => ?_) (fun c86 => ?_)
      · skip
        have c86 := mt (zJ _ _).mpr c86
        intro v87 ev87
        have hv87 := congrArg Int32.toInt ev87
        intro v89 ev89
        have hv89 := congrArg Int32.toInt ev89
        exact ⟨10, tb_X9_from_42 dN bD uU gF mX oE dY gJ xL wX hpost _ p0 (v89 + (p1 * (dY (2 : Int32).toNatClampNeg))) 0 0 (by omega) (by omega) (by omega) (by omega)⟩
      · skip
        have c86 := (zJ _ _).mp c86
        exact hpost _ (by omega)
set_option maxHeartbeats 8000000 in
set_option maxRecDepth 200000 in
theorem ts_X9_never_10 {post : Int32 -> Int32 -> (Nat -> Int32) -> Prop} {next : Int32 -> Int32 -> Int32 -> (Nat -> Int32) -> Prop} {n10 : Int} (dN bD : Int32) (uU gF pL mX oE dY : Nat -> Int32) (jE eW eY dU : Int32) (xL : 0 <= Int32.toInt dN /\ Int32.toInt dN <= 16) (wX : 0 <= Int32.toInt bD /\ Int32.toInt bD <= 8) (hpost : ∀ (r : Int32) (zV : Int32) (aAV : Nat -> Int32), (0 <= Int32.toInt r /\ Int32.toInt r <= 65535) -> (1 <= Int32.toInt zV /\ Int32.toInt zV <= 1) -> post r zV aAV) (hKn : ∀ (x1 : Int32) (x2 : Int32) (qB : Int32) (jK : Nat -> Int32), (0 <= Int32.toInt x1 /\ Int32.toInt x1 <= 65535) -> (0 <= Int32.toInt x2 /\ Int32.toInt x2 <= 8) -> (0 <= Int32.toInt qB /\ Int32.toInt qB <= 16) -> (8 - Int32.toInt x2 < n10) -> next x1 x2 qB jK) (x1 x2 qB : Int32) (jK : Nat -> Int32) (aBK : 0 <= Int32.toInt x1 /\ Int32.toInt x1 <= 65535) (aBN : 0 <= Int32.toInt x2 /\ Int32.toInt x2 <= 8) (aAK : 0 <= Int32.toInt qB /\ Int32.toInt qB <= 16) (hn10 : 8 - Int32.toInt x2 <= n10) : ws_X9_never_10 post next dN bD uU gF pL mX oE dY jE eW eY dU x1 x2 qB jK := by
  have l0 := aE0
  have l1 := aEc
  have l2 := li_2
  refine And.intro (fun c1 => ?_) (fun c1 => ?_)
  · skip
    have c1 := (aAO _ _).mp c1
    refine aUx xL (fun r2 => ?_)
    refine And.intro (fun h9 => absurd h9 (by decide)) (fun _ => ?_)
    refine And.intro (aBZ (by omega)) ?_
    intro v3 ev3
    have f4 : Int32.toInt (0 + 1) = Int32.toInt (0 : Int32) + Int32.toInt (1 : Int32) := aAD _ _ (by omega)
    rw [<- ev3] at f4
    exact hpost _ _ _ aBK (by omega)
  · skip
    have c1 := mt (aAO _ _).mpr c1
    intro v5 ev5
    have hv5 := congrArg Int32.toInt ev5
    intro v7 ev7
    have hv7 := congrArg Int32.toInt ev7
    refine t_X3_within (by omega) xL (fun r9 h_r9 => ?_)
    intro v10 ev10
    have f12 := aBx x1 (r9 ^^^ (-1)) (by omega)
    have hv10 := congrArg Int32.toInt ev10
    intro v13 ev13
    have f14 : Int32.toInt (x2 + 1) = Int32.toInt x2 + Int32.toInt (1 : Int32) := aAD _ _ (by omega)
    rw [<- ev13] at f14
    exact hKn v10 v13 qB jK (by omega) (by omega) aAK (by omega)
set_option maxHeartbeats 8000000 in
set_option maxRecDepth 200000 in
theorem tb_X9_never_10 {post : Int32 -> Int32 -> (Nat -> Int32) -> Prop} (dN bD : Int32) (uU gF pL mX oE dY : Nat -> Int32) (jE eW eY dU : Int32) (xL : 0 <= Int32.toInt dN /\ Int32.toInt dN <= 16) (wX : 0 <= Int32.toInt bD /\ Int32.toInt bD <= 8) (hpost : ∀ (r : Int32) (zV : Int32) (aAV : Nat -> Int32), (0 <= Int32.toInt r /\ Int32.toInt r <= 65535) -> (1 <= Int32.toInt zV /\ Int32.toInt zV <= 1) -> post r zV aAV) : ∀ (n : Nat) (x1 x2 qB : Int32) (jK : Nat -> Int32), (0 <= Int32.toInt x1 /\ Int32.toInt x1 <= 65535) -> (0 <= Int32.toInt x2 /\ Int32.toInt x2 <= 8) -> (0 <= Int32.toInt qB /\ Int32.toInt qB <= 16) -> (8 - Int32.toInt x2 < (n : Int)) -> wb_X9_never_10 post dN bD uU gF pL mX oE dY jE eW eY dU n x1 x2 qB jK := by
  intro n
  induction n with
  | zero =>
    intro x1 x2 qB jK aBK aBN aAK hm
    exfalso; omega
  | succ n ih =>
    intro x1 x2 qB jK aBK aBN aAK hm
    exact ts_X9_never_10 dN bD uU gF pL mX oE dY jE eW eY dU xL wX hpost ih x1 x2 qB jK aBK aBN aAK (by omega)
set_option maxHeartbeats 8000000 in
set_option maxRecDepth 200000 in
theorem t_X9_never {post : Int32 -> Int32 -> (Nat -> Int32) -> Prop} {dN bD : Int32} {uU gF pL mX oE dY : Nat -> Int32} {jE eW eY dU qB : Int32} {jK : Nat -> Int32} (xL : 0 <= Int32.toInt dN /\ Int32.toInt dN <= 16) (wX : 0 <= Int32.toInt bD /\ Int32.toInt bD <= 8) (aAK : 0 <= Int32.toInt qB /\ Int32.toInt qB <= 16) (hpost : ∀ (r : Int32) (zV : Int32) (aAV : Nat -> Int32), (0 <= Int32.toInt r /\ Int32.toInt r <= 65535) -> (1 <= Int32.toInt zV /\ Int32.toInt zV <= 1) -> post r zV aAV) : wp_X9_never post dN bD uU gF pL mX oE dY jE eW eY dU qB jK := by
  have l0 := aE0
  have l1 := aEc
  intro v15 ev15
  have f16 := aDv 16 65536 dN (by decide) (by omega)
  have hv15 := congrArg Int32.toInt ev15
  intro v17 ev17
  intro v18 ev18
  have f20 : Int32.toInt (v15 - 1) = Int32.toInt v15 - Int32.toInt (1 : Int32) := aCA _ _ (by omega)
  have f21 := aBx (v15 - 1) (v18 ^^^ (-1)) (by omega)
  exact ⟨10, tb_X9_never_10 dN bD uU gF pL mX oE dY jE eW eY dU xL wX hpost _ ((v15 - 1) &&& (v18 ^^^ (-1))) 0 qB jK (by omega) (by omega) aAK (by omega)⟩
set_option maxHeartbeats 8000000 in
set_option maxRecDepth 200000 in
theorem t_X9_seconds {post : Int32 -> (Nat -> Int32) -> (Nat -> Int32) -> Prop} {p0 p1 p2 dN bD : Int32} {uU gF pL mX oE dY : Nat -> Int32} {dU gJ pQ : Int32} {qY qU pN : Nat -> Int32} (xL : 0 <= Int32.toInt dN /\ Int32.toInt dN <= 16) (wX : 0 <= Int32.toInt bD /\ Int32.toInt bD <= 8) (zU : 0 <= Int32.toInt pQ /\ Int32.toInt pQ <= 40) (hpost : ∀ (r : Int32) (aCG : Nat -> Int32) (aB4 : Nat -> Int32), (-2 <= Int32.toInt r /\ Int32.toInt r <= 99) -> post r aCG aB4) : wp_X9_seconds post p0 p1 p2 dN bD uU gF pL mX oE dY dU gJ pQ qY qU pN := by
  have l0 := aI2
  have l1 := li_m2
  have l2 := aE0
  have l3 := aEc
  have l4 := li_2
  have f2 := aAT p0
  refine And.intro (fun c1 => ?_) (fun c1 => ?_)
  · skip
    have c1 := (aAd _ _).mp c1
    refine And.intro (fun _ => ?_) (fun h9 => absurd h9 (by decide))
    exact hpost _ _ _ (by omega)
  · skip
    have c1 := mt (aAd _ _).mpr c1
    refine And.intro (fun c3 => ?_) (fun c3 => ?_)
    · skip
      have c3 := (aAO _ _).mp c3
      refine And.intro (fun _ => ?_) (fun h9 => absurd h9 (by decide))
      exact hpost _ _ _ (by omega)
    · skip
      have c3 := mt (aAO _ _).mpr c3
      refine And.intro (fun h9 => absurd h9 (by decide)) (fun _ => ?_)
      have f5 := aAT p1
      refine And.intro (fun c4 => ?_) (fun c4 => ?_)
      · skip
        have c4 := (aAd _ _).mp c4
        refine And.intro (fun _ => ?_) (fun h9 => absurd h9 (by decide))
        exact hpost _ _ _ (by omega)
      · skip
        have c4 := mt (aAd _ _).mpr c4
        refine And.intro (fun c6 => ?_) (fun c6 => ?_)
        · skip
          have c6 := (aAO _ _).mp c6
          refine And.intro (fun _ => ?_) (fun h9 => absurd h9 (by decide))
          exact hpost _ _ _ (by omega)
        · skip
          have c6 := mt (aAO _ _).mpr c6
          refine And.intro (fun h9 => absurd h9 (by decide)) (fun _ => ?_)
          refine t_X9_isYesOrNo  (fun r7 h_r7 => ?_)
          refine And.intro (fun c8 => ?_) (fun c8 => ?_)
          · skip
            have c8 := mt (zJ _ _).mpr c8
            intro v9 ev9
            have hv9 := congrArg Int32.toInt ev9
            intro v11 ev11
            have hv11 := congrArg Int32.toInt ev11
            refine And.intro (aBZ (by omega)) ?_
            intro v13 ev13
            have hv13 := congrArg Int32.toInt ev13
            refine And.intro (aBZ (by omega)) ?_
            have f16 := aAT v13
            refine And.intro (fun c15 => ?_) (fun c15 => ?_)
            · skip
              have c15 := (aAO _ _).mp c15
              refine And.intro (aBZ (by omega)) ?_
              intro v18 ev18
              have hv18 := congrArg Int32.toInt ev18
              refine And.intro (aBZ (by omega)) ?_
              refine And.intro (aBZ (by omega)) ?_
              intro v19 ev19
              have hv19 := congrArg Int32.toInt ev19
              refine And.intro (aBZ (by omega)) ?_
              have f22 := aAT v19
              refine And.intro (fun c21 => ?_) (fun c21 => ?_)
              · skip
                have c21 := (aAO _ _).mp c21
                intro v24 ev24
                have hv24 := congrArg Int32.toInt ev24
                intro v26 ev26
                have f28 := aAT v24
                have f29 : Int32.toInt (0 * 0) = Int32.toInt (0 : Int32) * 0 := ta_mulc _ _ (by decide) (by omega)
                have f27 : Int32.toInt (v24 + (0 * 0)) = Int32.toInt v24 + Int32.toInt (0 * 0) := aAD _ _ (by omega)
                rw [<- ev26] at f27
                have f31 := aAT v26
                refine And.intro (fun c30 => ?_) (fun c30 => ?_)
                · skip
                  have c30 := (aAd _ _).mp c30
                  refine And.intro (fun h9 => absurd h9 (by decide)) (fun _ => ?_)
                  exact hpost _ _ _ (by omega)
                · skip
                  have c30 := mt (aAd _ _).mpr c30
                  refine And.intro (fun _ => ?_) (fun h9 => absurd h9 (by decide))
                  refine aUV (by omega) (by omega) (by omega) xL zU (fun r35 ru_given_33 ru_stack_34 h_r35 => ?_)
                  exact hpost _ _ _ (by omega)
              · skip
                have c21 := mt (aAO _ _).mpr c21
                refine And.intro (aBZ (by omega)) ?_
                intro v36 ev36
                have hv36 := congrArg Int32.toInt ev36
                refine And.intro (aBZ (by omega)) ?_
                intro v37 ev37
                have hv37 := congrArg Int32.toInt ev37
                intro v39 ev39
                have hv39 := congrArg Int32.toInt ev39
                intro v41 ev41
                have hv41 := congrArg Int32.toInt ev41
                have f44 := aAT v41
                refine And.intro (fun c43 => ?_) (fun c43 => ?_)
                · skip
                  have c43 := (aAd _ _).mp c43
                  refine And.intro (fun h9 => absurd h9 (by decide)) (fun _ => ?_)
                  exact hpost _ _ _ (by omega)
                · skip
                  have c43 := mt (aAd _ _).mpr c43
                  refine And.intro (fun _ => ?_) (fun h9 => absurd h9 (by decide))
                  refine aUV (by omega) (by omega) (by omega) xL zU (fun r48 ru_given_46 ru_stack_47 h_r48 => ?_)
                  exact hpost _ _ _ (by omega)
            · skip
              have c15 := mt (aAO _ _).mpr c15
              refine And.intro (aBZ (by omega)) ?_
              intro v49 ev49
              have hv49 := congrArg Int32.toInt ev49
              refine And.intro (aBZ (by omega)) ?_
              intro v50 ev50
              have hv50 := congrArg Int32.toInt ev50
              refine And.intro (aBZ (by omega)) ?_
              intro v52 ev52
              have hv52 := congrArg Int32.toInt ev52
              refine And.intro (aBZ (by omega)) ?_
              have f55 := aAT v52
              refine And.intro (fun c54 => ?_) (fun c54 => ?_)
              · skip
                have c54 := (aAO _ _).mp c54
                intro v57 ev57
                have hv57 := congrArg Int32.toInt ev57
                intro v59 ev59
                have f61 := aAT v57
                have f62 : Int32.toInt (0 * 0) = Int32.toInt (0 : Int32) * 0 := ta_mulc _ _ (by decide) (by omega)
                have f60 : Int32.toInt (v57 + (0 * 0)) = Int32.toInt v57 + Int32.toInt (0 * 0) := aAD _ _ (by omega)
                rw [<- ev59] at f60
                have f64 := aAT v59
                refine And.intro (fun c63 => ?_) (fun c63 => ?_)
                · skip
                  have c63 := (aAd _ _).mp c63
                  refine And.intro (fun h9 => absurd h9 (by decide)) (fun _ => ?_)
                  exact hpost _ _ _ (by omega)
                · skip
                  have c63 := mt (aAd _ _).mpr c63
                  refine And.intro (fun _ => ?_) (fun h9 => absurd h9 (by decide))
                  refine aUV (by omega) (by omega) (by omega) xL zU (fun r68 ru_given_66 ru_stack_67 h_r68 => ?_)
                  exact hpost _ _ _ (by omega)
              · skip
                have c54 := mt (aAO _ _).mpr c54
                refine And.intro (aBZ (by omega)) ?_
                intro v69 ev69
                have hv69 := congrArg Int32.toInt ev69
                refine And.intro (aBZ (by omega)) ?_
                intro v70 ev70
                have hv70 := congrArg Int32.toInt ev70
                intro v72 ev72
                have hv72 := congrArg Int32.toInt ev72
                intro v74 ev74
                have hv74 := congrArg Int32.toInt ev74
                have f77 := aAT v74
                refine And.intro (fun c76 => ?_) (fun c76 => ?_)
                · skip
                  have c76 := (aAd _ _).mp c76
                  refine And.intro (fun h9 => absurd h9 (by decide)) (fun _ => ?_)
                  exact hpost _ _ _ (by omega)
                · skip
                  have c76 := mt (aAd _ _).mpr c76
                  refine And.intro (fun _ => ?_) (fun h9 => absurd h9 (by decide))
                  refine aUV (by omega) (by omega) (by omega) xL zU (fun r81 ru_given_79 ru_stack_80 h_r81 => ?_)
                  exact hpost _ _ _ (by omega)
          · skip
            have c8 := (zJ _ _).mp c8
            exact hpost _ _ _ (by omega)
set_option maxHeartbeats 8000000 in
set_option maxRecDepth 200000 in
theorem ts_X5_reachedBy_32 {post : Int32 -> Prop} {K4 : Int32 -> Int32 -> Int32 -> Prop} {n4 : Int} (rD : Nat -> Int32) (bD : Int32) (zR : ∀ k : Nat, 0 <= Int32.toInt (rD k) /\ Int32.toInt (rD k) <= 65535) (wX : 0 <= Int32.toInt bD /\ Int32.toInt bD <= 8) (hpost : ∀ (r : Int32) , (0 <= Int32.toInt r /\ Int32.toInt r <= 65535) -> post r) (hK4 : ∀ (x1 : Int32) (x2 : Int32) (x3 : Int32), (0 <= Int32.toInt x1 /\ Int32.toInt x1 <= 255) -> (0 <= Int32.toInt x2 /\ Int32.toInt x2 <= 65535) -> (0 <= Int32.toInt x3 /\ Int32.toInt x3 <= 8) -> (8 - Int32.toInt x3 < n4) -> K4 x1 x2 x3) (x1 x2 x3 : Int32) (aBK : 0 <= Int32.toInt x1 /\ Int32.toInt x1 <= 255) (aBN : 0 <= Int32.toInt x2 /\ Int32.toInt x2 <= 65535) (aCH : 0 <= Int32.toInt x3 /\ Int32.toInt x3 <= 7) (hn4 : 8 - Int32.toInt x3 <= n4) : ws_X5_reachedBy_32 post K4 rD bD x1 x2 x3 := by
  have l0 := aEc
  intro v1 ev1
  have f2 : Int32.toInt (x3 + 1) = Int32.toInt x3 + Int32.toInt (1 : Int32) := aAD _ _ (by omega)
  rw [<- ev1] at f2
  exact hK4 x1 x2 v1 aBK aBN (by omega) (by omega)
set_option maxHeartbeats 8000000 in
set_option maxRecDepth 200000 in
theorem ts_X5_reachedBy_4 {post : Int32 -> Prop} {next : Int32 -> Int32 -> Int32 -> Prop} {n4 : Int} (rD : Nat -> Int32) (bD : Int32) (zR : ∀ k : Nat, 0 <= Int32.toInt (rD k) /\ Int32.toInt (rD k) <= 65535) (wX : 0 <= Int32.toInt bD /\ Int32.toInt bD <= 8) (hpost : ∀ (r : Int32) , (0 <= Int32.toInt r /\ Int32.toInt r <= 65535) -> post r) (hKn : ∀ (x1 : Int32) (x2 : Int32) (x3 : Int32), (0 <= Int32.toInt x1 /\ Int32.toInt x1 <= 255) -> (0 <= Int32.toInt x2 /\ Int32.toInt x2 <= 65535) -> (0 <= Int32.toInt x3 /\ Int32.toInt x3 <= 8) -> (8 - Int32.toInt x3 < n4) -> next x1 x2 x3) (x1 x2 x3 : Int32) (aBK : 0 <= Int32.toInt x1 /\ Int32.toInt x1 <= 255) (aBN : 0 <= Int32.toInt x2 /\ Int32.toInt x2 <= 65535) (aCH : 0 <= Int32.toInt x3 /\ Int32.toInt x3 <= 8) (hn4 : 8 - Int32.toInt x3 <= n4) : ws_X5_reachedBy_4 post next rD bD x1 x2 x3 := by
  have l0 := aE0
  have l1 := aEc
  refine And.intro (fun c3 => ?_) (fun c3 => ?_)
  · skip
    have c3 := (aAO _ _).mp c3
    exact hpost _ aBN
  · skip
    have c3 := mt (aAO _ _).mpr c3
    intro v4 ev4
    have f5 := aRJ x1 x3 (by omega)
    have hv4 := congrArg Int32.toInt ev4
    have f7 := aAQ v4 1 (by omega)
    have f8 := aBx v4 1 (by omega)
    refine And.intro (fun c6 => ?_) (fun c6 => ?_)
    · skip
      have c6 := (zJ _ _).mp c6
      exact ts_X5_reachedBy_32 rD bD zR wX hpost hKn x1 x2 x3 aBK aBN (by omega) hn4
    · skip
      have c6 := mt (zJ _ _).mpr c6
      refine And.intro (aBZ (by omega)) ?_
      intro v9 ev9
      have f11 := zR x3.toNatClampNeg
      have f10 := ti_or 16 65536 x2 (rD x3.toNatClampNeg) (by decide) (by omega) (by omega)
      have hv9 := congrArg Int32.toInt ev9
      exact ts_X5_reachedBy_32 rD bD zR wX hpost hKn x1 v9 x3 aBK (by omega) (by omega) hn4
set_option maxHeartbeats 8000000 in
set_option maxRecDepth 200000 in
theorem tb_X5_reachedBy_4 {post : Int32 -> Prop} (rD : Nat -> Int32) (bD : Int32) (zR : ∀ k : Nat, 0 <= Int32.toInt (rD k) /\ Int32.toInt (rD k) <= 65535) (wX : 0 <= Int32.toInt bD /\ Int32.toInt bD <= 8) (hpost : ∀ (r : Int32) , (0 <= Int32.toInt r /\ Int32.toInt r <= 65535) -> post r) : ∀ (n : Nat) (x1 x2 x3 : Int32), (0 <= Int32.toInt x1 /\ Int32.toInt x1 <= 255) -> (0 <= Int32.toInt x2 /\ Int32.toInt x2 <= 65535) -> (0 <= Int32.toInt x3 /\ Int32.toInt x3 <= 8) -> (8 - Int32.toInt x3 < (n : Int)) -> wb_X5_reachedBy_4 post rD bD n x1 x2 x3 := by
  intro n
  induction n with
  | zero =>
    intro x1 x2 x3 aBK aBN aCH hm
    exfalso; omega
  | succ n ih =>
    intro x1 x2 x3 aBK aBN aCH hm
    exact ts_X5_reachedBy_4 rD bD zR wX hpost ih x1 x2 x3 aBK aBN aCH (by omega)
set_option maxHeartbeats 8000000 in
set_option maxRecDepth 200000 in
theorem aUy {post : Int32 -> Prop} {p0 : Int32} {rD : Nat -> Int32} {bD : Int32} (h_p0 : 0 <= Int32.toInt p0 /\ Int32.toInt p0 <= 255) (zR : ∀ k : Nat, 0 <= Int32.toInt (rD k) /\ Int32.toInt (rD k) <= 65535) (wX : 0 <= Int32.toInt bD /\ Int32.toInt bD <= 8) (hpost : ∀ (r : Int32) , (0 <= Int32.toInt r /\ Int32.toInt r <= 65535) -> post r) : aPV post p0 rD bD := by
  have l0 := aE0
  exact ⟨10, tb_X5_reachedBy_4 rD bD zR wX hpost _ p0 0 0 h_p0 (by omega) (by omega) (by omega)⟩
set_option maxHeartbeats 8000000 in
set_option maxRecDepth 200000 in
theorem ts_X5_lookAs_13 {post : Int32 -> (Nat -> Int32) -> Prop} {next : Int32 -> Int32 -> Int32 -> Int32 -> (Nat -> Int32) -> Prop} {n13 : Int} (dN bD : Int32) (uU gF qF mX oE dY : Nat -> Int32) (jE eW eY : Int32) (xL : 0 <= Int32.toInt dN /\ Int32.toInt dN <= 16) (wX : 0 <= Int32.toInt bD /\ Int32.toInt bD <= 8) (hpost : ∀ (aAY : Int32) (aBC : Nat -> Int32), (0 <= Int32.toInt aAY /\ Int32.toInt aAY <= 65535) -> (∀ k : Nat, 0 <= Int32.toInt (aBC k) /\ Int32.toInt (aBC k) <= 65535) -> post aAY aBC) (hKn : ∀ (x2 : Int32) (x3 : Int32) (x4 : Int32) (oY : Int32) (rD : Nat -> Int32), (0 <= Int32.toInt x2 /\ Int32.toInt x2 <= 9) -> (0 <= Int32.toInt x4 /\ Int32.toInt x4 <= 8) -> (0 <= Int32.toInt oY /\ Int32.toInt oY <= 65535) -> (∀ k : Nat, 0 <= Int32.toInt (rD k) /\ Int32.toInt (rD k) <= 65535) -> (8 - Int32.toInt x4 < n13) -> next x2 x3 x4 oY rD) (x2 x3 x4 oY : Int32) (rD : Nat -> Int32) (aBN : 0 <= Int32.toInt x2 /\ Int32.toInt x2 <= 9) (aDO : 0 <= Int32.toInt x4 /\ Int32.toInt x4 <= 8) (aAE : 0 <= Int32.toInt oY /\ Int32.toInt oY <= 65535) (zR : ∀ k : Nat, 0 <= Int32.toInt (rD k) /\ Int32.toInt (rD k) <= 65535) (hn13 : 8 - Int32.toInt x4 <= n13) : ws_X5_lookAs_13 post next dN bD uU gF qF mX oE dY jE eW eY x2 x3 x4 oY rD := by
  have l0 := aEc
  refine And.intro (fun c1 => ?_) (fun c1 => ?_)
  · skip
    have c1 := (aAO _ _).mp c1
    intro v2 ev2
    have f3 := aDv 16 65536 dN (by decide) (by omega)
    have hv2 := congrArg Int32.toInt ev2
    intro v4 ev4
    intro v5 ev5
    refine t_X3_ripeBy aBN xL (fun r6 h_r6 => ?_)
    intro v7 ev7
    have f8 := aAQ ((v2 - 1) &&& (v5 ^^^ (-1))) r6 (by omega)
    have f10 : Int32.toInt (v2 - 1) = Int32.toInt v2 - Int32.toInt (1 : Int32) := aCA _ _ (by omega)
    have f11 := aBx (v2 - 1) (v5 ^^^ (-1)) (by omega)
    have f12 := aBx ((v2 - 1) &&& (v5 ^^^ (-1))) r6 (by omega)
    have hv7 := congrArg Int32.toInt ev7
    intro v13 ev13
    have f14 := aDv 8 256 bD (by decide) (by omega)
    have hv13 := congrArg Int32.toInt ev13
    have f16 : Int32.toInt (v13 - 1) = Int32.toInt v13 - Int32.toInt (1 : Int32) := aCA _ _ (by omega)
    refine aUy (by omega) zR wX (fun r15 h_r15 => ?_)
    intro v17 ev17
    have f18 := aAQ v7 r15 (by omega)
    have f19 := aBx v7 r15 (by omega)
    have hv17 := congrArg Int32.toInt ev17
    exact hpost _ _ (by omega) zR
  · skip
    have c1 := mt (aAO _ _).mpr c1
    refine t_X3_within (by omega) xL (fun r20 h_r20 => ?_)
    refine And.intro (aBZ (by omega)) ?_
    have a21 : ∀ k : Nat, 0 <= Int32.toInt ((upd rD x4.toNatClampNeg r20) k) /\ Int32.toInt ((upd rD x4.toNatClampNeg r20) k) <= 65535 := t_upd (fun k => by have q9 := zR k; omega) (by omega)
    intro v22 ev22
    have f23 : Int32.toInt (x4 + 1) = Int32.toInt x4 + Int32.toInt (1 : Int32) := aAD _ _ (by omega)
    rw [<- ev22] at f23
    have f24 := aAT x3
    exact hKn x2 x3 v22 oY (upd rD x4.toNatClampNeg r20) aBN (by omega) aAE (fun k => by have q9 := a21 k; omega) (by omega)
set_option maxHeartbeats 8000000 in
set_option maxRecDepth 200000 in
theorem tb_X5_lookAs_13 {post : Int32 -> (Nat -> Int32) -> Prop} (dN bD : Int32) (uU gF qF mX oE dY : Nat -> Int32) (jE eW eY : Int32) (xL : 0 <= Int32.toInt dN /\ Int32.toInt dN <= 16) (wX : 0 <= Int32.toInt bD /\ Int32.toInt bD <= 8) (hpost : ∀ (aAY : Int32) (aBC : Nat -> Int32), (0 <= Int32.toInt aAY /\ Int32.toInt aAY <= 65535) -> (∀ k : Nat, 0 <= Int32.toInt (aBC k) /\ Int32.toInt (aBC k) <= 65535) -> post aAY aBC) : ∀ (n : Nat) (x2 x3 x4 oY : Int32) (rD : Nat -> Int32), (0 <= Int32.toInt x2 /\ Int32.toInt x2 <= 9) -> (0 <= Int32.toInt x4 /\ Int32.toInt x4 <= 8) -> (0 <= Int32.toInt oY /\ Int32.toInt oY <= 65535) -> (∀ k : Nat, 0 <= Int32.toInt (rD k) /\ Int32.toInt (rD k) <= 65535) -> (8 - Int32.toInt x4 < (n : Int)) -> wb_X5_lookAs_13 post dN bD uU gF qF mX oE dY jE eW eY n x2 x3 x4 oY rD := by
  intro n
  induction n with
  | zero =>
    intro x2 x3 x4 oY rD aBN aDO aAE zR hm
    exfalso; omega
  | succ n ih =>
    intro x2 x3 x4 oY rD aBN aDO aAE zR hm
    exact ts_X5_lookAs_13 dN bD uU gF qF mX oE dY jE eW eY xL wX hpost ih x2 x3 x4 oY rD aBN aDO aAE zR (by omega)
set_option maxHeartbeats 8000000 in
set_option maxRecDepth 200000 in
theorem aVe {post : Int32 -> (Nat -> Int32) -> Prop} {p0 p1 oY : Int32} {rD : Nat -> Int32} {dN bD : Int32} {uU gF qF mX oE dY : Nat -> Int32} {jE eW eY : Int32} (h_p1 : 0 <= Int32.toInt p1 /\ Int32.toInt p1 <= 9) (aAE : 0 <= Int32.toInt oY /\ Int32.toInt oY <= 65535) (zR : ∀ k : Nat, 0 <= Int32.toInt (rD k) /\ Int32.toInt (rD k) <= 65535) (xL : 0 <= Int32.toInt dN /\ Int32.toInt dN <= 16) (wX : 0 <= Int32.toInt bD /\ Int32.toInt bD <= 8) (hpost : ∀ (aAY : Int32) (aBC : Nat -> Int32), (0 <= Int32.toInt aAY /\ Int32.toInt aAY <= 65535) -> (∀ k : Nat, 0 <= Int32.toInt (aBC k) /\ Int32.toInt (aBC k) <= 65535) -> post aAY aBC) : wp_X5_lookAs post p0 p1 oY rD dN bD uU gF qF mX oE dY jE eW eY := by
  have l0 := aE0
  have l1 := aEc
  have l2 := li_2
  intro v25 ev25
  have hv25 := congrArg Int32.toInt ev25
  intro v27 ev27
  have hv27 := congrArg Int32.toInt ev27
  have f30 := aAT v27
  have f31 : Int32.toInt (0 * (dY (2 : Int32).toNatClampNeg)) = Int32.toInt (dY (2 : Int32).toNatClampNeg) * 0 := ta_cmul _ _ (by decide) (by omega)
  have f29 : Int32.toInt (v27 + (0 * (dY (2 : Int32).toNatClampNeg))) = Int32.toInt v27 + Int32.toInt (0 * (dY (2 : Int32).toNatClampNeg)) := aAD _ _ (by omega)
  exact ⟨10, tb_X5_lookAs_13 dN bD uU gF qF mX oE dY jE eW eY xL wX hpost _ p1 (v27 + (0 * (dY (2 : Int32).toNatClampNeg))) 0 oY rD h_p1 (by omega) aAE zR (by omega)⟩
set_option maxHeartbeats 8000000 in
set_option maxRecDepth 200000 in
theorem t_X9_both {post : Int32 -> Int32 -> (Nat -> Int32) -> Int32 -> (Nat -> Int32) -> Prop} {p0 p1 oY : Int32} {rD : Nat -> Int32} {dN bD : Int32} {uU gF qF mX oE dY : Nat -> Int32} {jE eW eY gJ jG qB : Int32} {jK : Nat -> Int32} (aAE : 0 <= Int32.toInt oY /\ Int32.toInt oY <= 65535) (zR : ∀ k : Nat, 0 <= Int32.toInt (rD k) /\ Int32.toInt (rD k) <= 65535) (xL : 0 <= Int32.toInt dN /\ Int32.toInt dN <= 16) (wX : 0 <= Int32.toInt bD /\ Int32.toInt bD <= 8) (zK : 0 <= Int32.toInt jG /\ Int32.toInt jG <= 9) (aAK : 0 <= Int32.toInt qB /\ Int32.toInt qB <= 16) (hpost : ∀ (r : Int32) (aAY : Int32) (aBC : Nat -> Int32) (zV : Int32) (aAV : Nat -> Int32), (-1 <= Int32.toInt r /\ Int32.toInt r <= 65535) -> (0 <= Int32.toInt aAY /\ Int32.toInt aAY <= 65535) -> (∀ k : Nat, 0 <= Int32.toInt (aBC k) /\ Int32.toInt (aBC k) <= 65535) -> (0 <= Int32.toInt zV /\ Int32.toInt zV <= 16) -> post r aAY aBC zV aAV) : wp_X9_both post p0 p1 oY rD dN bD uU gF qF mX oE dY jE eW eY gJ jG qB jK := by
  have l0 := aI2
  have l1 := aE0
  have l2 := aEc
  have l3 := li_16
  have f2 := aAT p0
  refine And.intro (fun c1 => ?_) (fun c1 => ?_)
  · skip
    have c1 := (aAd _ _).mp c1
    refine And.intro (fun _ => ?_) (fun h9 => absurd h9 (by decide))
    exact hpost _ _ _ _ _ (by omega) aAE zR aAK
  · skip
    have c1 := mt (aAd _ _).mpr c1
    refine And.intro (fun c3 => ?_) (fun c3 => ?_)
    · skip
      have c3 := (aAO _ _).mp c3
      refine And.intro (fun _ => ?_) (fun h9 => absurd h9 (by decide))
      exact hpost _ _ _ _ _ (by omega) aAE zR aAK
    · skip
      have c3 := mt (aAO _ _).mpr c3
      refine And.intro (fun h9 => absurd h9 (by decide)) (fun _ => ?_)
      have f5 := aAT p1
      refine And.intro (fun c4 => ?_) (fun c4 => ?_)
      · skip
        have c4 := (aAd _ _).mp c4
        refine And.intro (fun _ => ?_) (fun h9 => absurd h9 (by decide))
        exact hpost _ _ _ _ _ (by omega) aAE zR aAK
      · skip
        have c4 := mt (aAd _ _).mpr c4
        refine And.intro (fun c6 => ?_) (fun c6 => ?_)
        · skip
          have c6 := (aAO _ _).mp c6
          refine And.intro (fun _ => ?_) (fun h9 => absurd h9 (by decide))
          exact hpost _ _ _ _ _ (by omega) aAE zR aAK
        · skip
          have c6 := mt (aAO _ _).mpr c6
          refine And.intro (fun h9 => absurd h9 (by decide)) (fun _ => ?_)
          refine And.intro (fun c7 => ?_) (fun c7 => ?_)
          · skip
            have c7 := mt (zJ _ _).mpr c7
            refine aVe zK aAE zR xL wX (fun pl_wanted_8 pl_near_9 h_pl_wanted_8 h_pl_near_9 => ?_)
            refine And.intro (aBZ (by omega)) ?_
            refine And.intro (aBZ (by omega)) ?_
            intro v10 ev10
            have f13 := h_pl_near_9 p0.toNatClampNeg
            have f12 := aAQ pl_wanted_8 (pl_near_9 p0.toNatClampNeg) (by omega)
            have f14 := aBx pl_wanted_8 (pl_near_9 p0.toNatClampNeg) (by omega)
            have f15 := aBx (pl_wanted_8 &&& (pl_near_9 p0.toNatClampNeg)) ((pl_wanted_8 &&& (pl_near_9 p1.toNatClampNeg)) ^^^ (-1)) (by omega)
            have hv10 := congrArg Int32.toInt ev10
            intro v16 ev16
            have f19 := h_pl_near_9 p1.toNatClampNeg
            have f18 := aAQ pl_wanted_8 (pl_near_9 p1.toNatClampNeg) (by omega)
            have f20 := aBx pl_wanted_8 (pl_near_9 p1.toNatClampNeg) (by omega)
            have f21 := aBx (pl_wanted_8 &&& (pl_near_9 p1.toNatClampNeg)) ((pl_wanted_8 &&& (pl_near_9 p0.toNatClampNeg)) ^^^ (-1)) (by omega)
            have hv16 := congrArg Int32.toInt ev16
            refine And.intro (fun h9 => absurd h9 (by decide)) (fun _ => ?_)
            refine And.intro (aBZ (by omega)) ?_
            intro v22 ev22
            have f23 : Int32.toInt (0 + 1) = Int32.toInt (0 : Int32) + Int32.toInt (1 : Int32) := aAD _ _ (by omega)
            rw [<- ev22] at f23
            refine And.intro (fun c24 => ?_) (fun c24 => ?_)
            · skip
              have c24 := (aAO _ _).mp c24
              exfalso; omega
            · skip
              have c24 := mt (aAO _ _).mpr c24
              refine And.intro (aBZ (by omega)) ?_
              intro v25 ev25
              have f26 : Int32.toInt (v22 + 1) = Int32.toInt v22 + Int32.toInt (1 : Int32) := aAD _ _ (by omega)
              rw [<- ev25] at f26
              have f27 := aAQ (pl_wanted_8 &&& (pl_near_9 p0.toNatClampNeg)) (pl_wanted_8 &&& (pl_near_9 p1.toNatClampNeg)) (by omega)
              have f28 := aBx (pl_wanted_8 &&& (pl_near_9 p0.toNatClampNeg)) (pl_wanted_8 &&& (pl_near_9 p1.toNatClampNeg)) (by omega)
              exact hpost _ _ _ _ _ (by omega) h_pl_wanted_8 h_pl_near_9 (by omega)
          · skip
            have c7 := (zJ _ _).mp c7
            exact hpost _ _ _ _ _ (by omega) aAE zR aAK
set_option maxHeartbeats 8000000 in
set_option maxRecDepth 200000 in
theorem ts_X3_leanNeeded_2 {post : Int32 -> Prop} {next : Int32 -> Int32 -> Int32 -> Prop} {n2 : Int} (uU gF mX oE dY : Nat -> Int32) (hpost : ∀ (r : Int32) , (-2 <= Int32.toInt r /\ Int32.toInt r <= 30) -> post r) (hKn : ∀ (x1 : Int32) (x2 : Int32) (x3 : Int32), (0 <= Int32.toInt x1 /\ Int32.toInt x1 <= 15) -> (0 <= Int32.toInt x2 /\ Int32.toInt x2 <= 7) -> (0 <= Int32.toInt x3 /\ Int32.toInt x3 <= 31) -> (31 - Int32.toInt x3 < n2) -> next x1 x2 x3) (x1 x2 x3 : Int32) (aBK : 0 <= Int32.toInt x1 /\ Int32.toInt x1 <= 15) (aBN : 0 <= Int32.toInt x2 /\ Int32.toInt x2 <= 7) (aCH : 0 <= Int32.toInt x3 /\ Int32.toInt x3 <= 31) (hn2 : 31 - Int32.toInt x3 <= n2) : ws_X3_leanNeeded_2 post next uU gF mX oE dY x1 x2 x3 := by
  have l0 := li_m2
  have l1 := aE0
  have l2 := aEc
  have l3 := li_30
  refine And.intro (fun c1 => ?_) (fun c1 => ?_)
  · skip
    have c1 := (aAd _ _).mp c1
    exact hpost _ (by omega)
  · skip
    have c1 := mt (aAd _ _).mpr c1
    intro v2 ev2
    have hv2 := congrArg Int32.toInt ev2
    intro v4 ev4
    have hv4 := congrArg Int32.toInt ev4
    refine And.intro (aBZ (by omega)) ?_
    intro v6 ev6
    have hv6 := congrArg Int32.toInt ev6
    refine And.intro (aBZ (by omega)) ?_
    have f9 := aAT v6
    refine And.intro (fun c8 => ?_) (fun c8 => ?_)
    · skip
      have c8 := (aAO _ _).mp c8
      refine And.intro (aBZ (by omega)) ?_
      intro v11 ev11
      have hv11 := congrArg Int32.toInt ev11
      refine And.intro (aBZ (by omega)) ?_
      refine And.intro (aBZ (by omega)) ?_
      intro v12 ev12
      have hv12 := congrArg Int32.toInt ev12
      refine And.intro (aBZ (by omega)) ?_
      have f15 := aAT v12
      refine And.intro (fun c14 => ?_) (fun c14 => ?_)
      · skip
        have c14 := (aAO _ _).mp c14
        intro v17 ev17
        have hv17 := congrArg Int32.toInt ev17
        intro v19 ev19
        have f21 := aAT v17
        have f22 : Int32.toInt (0 * 0) = Int32.toInt (0 : Int32) * 0 := ta_mulc _ _ (by decide) (by omega)
        have f20 : Int32.toInt (v17 + (0 * 0)) = Int32.toInt v17 + Int32.toInt (0 * 0) := aAD _ _ (by omega)
        rw [<- ev19] at f20
        have f24 := aAT v19
        refine And.intro (fun c23 => ?_) (fun c23 => ?_)
        · skip
          have c23 := (aAd _ _).mp c23
          refine And.intro (fun _ => ?_) (fun h9 => absurd h9 (by decide))
          intro v26 ev26
          have f27 : Int32.toInt (x3 + 1) = Int32.toInt x3 + Int32.toInt (1 : Int32) := aAD _ _ (by omega)
          rw [<- ev26] at f27
          exact hKn x1 x2 v26 aBK aBN (by omega) (by omega)
        · skip
          have c23 := mt (aAd _ _).mpr c23
          refine And.intro (fun h9 => absurd h9 (by decide)) (fun _ => ?_)
          exact hpost _ (by omega)
      · skip
        have c14 := mt (aAO _ _).mpr c14
        refine And.intro (aBZ (by omega)) ?_
        intro v28 ev28
        have hv28 := congrArg Int32.toInt ev28
        refine And.intro (aBZ (by omega)) ?_
        intro v29 ev29
        have hv29 := congrArg Int32.toInt ev29
        intro v31 ev31
        have hv31 := congrArg Int32.toInt ev31
        intro v33 ev33
        have hv33 := congrArg Int32.toInt ev33
        have f36 := aAT v33
        refine And.intro (fun c35 => ?_) (fun c35 => ?_)
        · skip
          have c35 := (aAd _ _).mp c35
          refine And.intro (fun _ => ?_) (fun h9 => absurd h9 (by decide))
          intro v38 ev38
          have f39 : Int32.toInt (x3 + 1) = Int32.toInt x3 + Int32.toInt (1 : Int32) := aAD _ _ (by omega)
          rw [<- ev38] at f39
          exact hKn x1 x2 v38 aBK aBN (by omega) (by omega)
        · skip
          have c35 := mt (aAd _ _).mpr c35
          refine And.intro (fun h9 => absurd h9 (by decide)) (fun _ => ?_)
          exact hpost _ (by omega)
    · skip
      have c8 := mt (aAO _ _).mpr c8
      refine And.intro (aBZ (by omega)) ?_
      intro v40 ev40
      have hv40 := congrArg Int32.toInt ev40
      refine And.intro (aBZ (by omega)) ?_
      intro v41 ev41
      have hv41 := congrArg Int32.toInt ev41
      refine And.intro (aBZ (by omega)) ?_
      intro v43 ev43
      have hv43 := congrArg Int32.toInt ev43
      refine And.intro (aBZ (by omega)) ?_
      have f46 := aAT v43
      refine And.intro (fun c45 => ?_) (fun c45 => ?_)
      · skip
        have c45 := (aAO _ _).mp c45
        intro v48 ev48
        have hv48 := congrArg Int32.toInt ev48
        intro v50 ev50
        have f52 := aAT v48
        have f53 : Int32.toInt (0 * 0) = Int32.toInt (0 : Int32) * 0 := ta_mulc _ _ (by decide) (by omega)
        have f51 : Int32.toInt (v48 + (0 * 0)) = Int32.toInt v48 + Int32.toInt (0 * 0) := aAD _ _ (by omega)
        rw [<- ev50] at f51
        have f55 := aAT v50
        refine And.intro (fun c54 => ?_) (fun c54 => ?_)
        · skip
          have c54 := (aAd _ _).mp c54
          refine And.intro (fun _ => ?_) (fun h9 => absurd h9 (by decide))
          intro v57 ev57
          have f58 : Int32.toInt (x3 + 1) = Int32.toInt x3 + Int32.toInt (1 : Int32) := aAD _ _ (by omega)
          rw [<- ev57] at f58
          exact hKn x1 x2 v57 aBK aBN (by omega) (by omega)
        · skip
          have c54 := mt (aAd _ _).mpr c54
          refine And.intro (fun h9 => absurd h9 (by decide)) (fun _ => ?_)
          exact hpost _ (by omega)
      · skip
        have c45 := mt (aAO _ _).mpr c45
        refine And.intro (aBZ (by omega)) ?_
        intro v59 ev59
        have hv59 := congrArg Int32.toInt ev59
        refine And.intro (aBZ (by omega)) ?_
        intro v60 ev60
        have hv60 := congrArg Int32.toInt ev60
        intro v62 ev62
        have hv62 := congrArg Int32.toInt ev62
        intro v64 ev64
        have hv64 := congrArg Int32.toInt ev64
        have f67 := aAT v64
        refine And.intro (fun c66 => ?_) (fun c66 => ?_)
        · skip
          have c66 := (aAd _ _).mp c66
          refine And.intro (fun _ => ?_) (fun h9 => absurd h9 (by decide))
          intro v69 ev69
          have f70 : Int32.toInt (x3 + 1) = Int32.toInt x3 + Int32.toInt (1 : Int32) := aAD _ _ (by omega)
          rw [<- ev69] at f70
          exact hKn x1 x2 v69 aBK aBN (by omega) (by omega)
        · skip
          have c66 := mt (aAd _ _).mpr c66
          refine And.intro (fun h9 => absurd h9 (by decide)) (fun _ => ?_)
          exact hpost _ (by omega)
set_option maxHeartbeats 8000000 in
set_option maxRecDepth 200000 in
theorem tb_X3_leanNeeded_2 {post : Int32 -> Prop} (uU gF mX oE dY : Nat -> Int32) (hpost : ∀ (r : Int32) , (-2 <= Int32.toInt r /\ Int32.toInt r <= 30) -> post r) : ∀ (n : Nat) (x1 x2 x3 : Int32), (0 <= Int32.toInt x1 /\ Int32.toInt x1 <= 15) -> (0 <= Int32.toInt x2 /\ Int32.toInt x2 <= 7) -> (0 <= Int32.toInt x3 /\ Int32.toInt x3 <= 31) -> (31 - Int32.toInt x3 < (n : Int)) -> wb_X3_leanNeeded_2 post uU gF mX oE dY n x1 x2 x3 := by
  intro n
  induction n with
  | zero =>
    intro x1 x2 x3 aBK aBN aCH hm
    exfalso; omega
  | succ n ih =>
    intro x1 x2 x3 aBK aBN aCH hm
    exact ts_X3_leanNeeded_2 uU gF mX oE dY hpost ih x1 x2 x3 aBK aBN aCH (by omega)
set_option maxHeartbeats 8000000 in
set_option maxRecDepth 200000 in
theorem t_X3_leanNeeded {post : Int32 -> Prop} {p0 p1 : Int32} {uU gF mX oE dY : Nat -> Int32} (h_p0 : 0 <= Int32.toInt p0 /\ Int32.toInt p0 <= 15) (h_p1 : 0 <= Int32.toInt p1 /\ Int32.toInt p1 <= 7) (hpost : ∀ (r : Int32) , (-2 <= Int32.toInt r /\ Int32.toInt r <= 30) -> post r) : bCY post p0 p1 uU gF mX oE dY := by
  have l0 := aE0
  exact ⟨33, tb_X3_leanNeeded_2 uU gF mX oE dY hpost _ p0 p1 0 h_p0 h_p1 (by omega) (by omega)⟩
set_option maxHeartbeats 8000000 in
set_option maxRecDepth 200000 in
theorem ts_X9_nearest_63 {post : Int32 -> Int32 -> (Nat -> Int32) -> Prop} {K22 : Int32 -> Int32 -> Int32 -> Int32 -> Int32 -> (Nat -> Int32) -> Prop} {n22 : Int} (dN bD : Int32) (uU gF mX oE dY : Nat -> Int32) (xL : 0 <= Int32.toInt dN /\ Int32.toInt dN <= 16) (wX : 0 <= Int32.toInt bD /\ Int32.toInt bD <= 8) (hpost : ∀ (r : Int32) (zV : Int32) (aAV : Nat -> Int32), (-2 <= Int32.toInt r /\ Int32.toInt r <= 7) -> (0 <= Int32.toInt zV /\ Int32.toInt zV <= 16) -> post r zV aAV) (hK22 : ∀ (x1 : Int32) (x2 : Int32) (x3 : Int32) (x4 : Int32) (qB : Int32) (jK : Nat -> Int32), (0 <= Int32.toInt x1 /\ Int32.toInt x1 <= 15) -> (-2 <= Int32.toInt x2 /\ Int32.toInt x2 <= 7) -> (0 <= Int32.toInt x3 /\ Int32.toInt x3 <= 31) -> (0 <= Int32.toInt x4 /\ Int32.toInt x4 <= 8) -> (0 <= Int32.toInt qB /\ Int32.toInt qB <= 16) -> (8 - Int32.toInt x4 < n22) -> K22 x1 x2 x3 x4 qB jK) (x1 x2 x3 x4 qB : Int32) (jK : Nat -> Int32) (aBK : 0 <= Int32.toInt x1 /\ Int32.toInt x1 <= 15) (aBN : -2 <= Int32.toInt x2 /\ Int32.toInt x2 <= 7) (aCH : 0 <= Int32.toInt x3 /\ Int32.toInt x3 <= 31) (aDO : 0 <= Int32.toInt x4 /\ Int32.toInt x4 <= 7) (aAK : 0 <= Int32.toInt qB /\ Int32.toInt qB <= 16) (hn22 : 8 - Int32.toInt x4 <= n22) : bCa post K22 dN bD uU gF mX oE dY x1 x2 x3 x4 qB jK := by
  have l0 := aEc
  intro v1 ev1
  have f2 : Int32.toInt (x4 + 1) = Int32.toInt x4 + Int32.toInt (1 : Int32) := aAD _ _ (by omega)
  rw [<- ev1] at f2
  exact hK22 x1 x2 x3 v1 qB jK aBK aBN aCH (by omega) aAK (by omega)
set_option maxHeartbeats 8000000 in
set_option maxRecDepth 200000 in
theorem ts_X9_nearest_22 {post : Int32 -> Int32 -> (Nat -> Int32) -> Prop} {next : Int32 -> Int32 -> Int32 -> Int32 -> Int32 -> (Nat -> Int32) -> Prop} {n22 : Int} (dN bD : Int32) (uU gF mX oE dY : Nat -> Int32) (xL : 0 <= Int32.toInt dN /\ Int32.toInt dN <= 16) (wX : 0 <= Int32.toInt bD /\ Int32.toInt bD <= 8) (hpost : ∀ (r : Int32) (zV : Int32) (aAV : Nat -> Int32), (-2 <= Int32.toInt r /\ Int32.toInt r <= 7) -> (0 <= Int32.toInt zV /\ Int32.toInt zV <= 16) -> post r zV aAV) (hKn : ∀ (x1 : Int32) (x2 : Int32) (x3 : Int32) (x4 : Int32) (qB : Int32) (jK : Nat -> Int32), (0 <= Int32.toInt x1 /\ Int32.toInt x1 <= 15) -> (-2 <= Int32.toInt x2 /\ Int32.toInt x2 <= 7) -> (0 <= Int32.toInt x3 /\ Int32.toInt x3 <= 31) -> (0 <= Int32.toInt x4 /\ Int32.toInt x4 <= 8) -> (0 <= Int32.toInt qB /\ Int32.toInt qB <= 16) -> (8 - Int32.toInt x4 < n22) -> next x1 x2 x3 x4 qB jK) (x1 x2 x3 x4 qB : Int32) (jK : Nat -> Int32) (aBK : 0 <= Int32.toInt x1 /\ Int32.toInt x1 <= 15) (aBN : -2 <= Int32.toInt x2 /\ Int32.toInt x2 <= 7) (aCH : 0 <= Int32.toInt x3 /\ Int32.toInt x3 <= 31) (aDO : 0 <= Int32.toInt x4 /\ Int32.toInt x4 <= 8) (aAK : 0 <= Int32.toInt qB /\ Int32.toInt qB <= 16) (hn22 : 8 - Int32.toInt x4 <= n22) : ws_X9_nearest_22 post next dN bD uU gF mX oE dY x1 x2 x3 x4 qB jK := by
  have l0 := aE0
  have l1 := aEc
  refine And.intro (fun c3 => ?_) (fun c3 => ?_)
  · skip
    have c3 := (aAO _ _).mp c3
    refine And.intro (fun c4 => ?_) (fun c4 => ?_)
    · skip
      have c4 := (aAd _ _).mp c4
      exact hpost _ _ _ aBN aAK
    · skip
      have c4 := mt (aAd _ _).mpr c4
      refine And.intro (fun h9 => absurd h9 (by decide)) (fun _ => ?_)
      refine And.intro (aBZ (by omega)) ?_
      intro v5 ev5
      have f6 : Int32.toInt (0 + 1) = Int32.toInt (0 : Int32) + Int32.toInt (1 : Int32) := aAD _ _ (by omega)
      rw [<- ev5] at f6
      exact hpost _ _ _ aBN (by omega)
  · skip
    have c3 := mt (aAO _ _).mpr c3
    refine t_X3_leanNeeded aBK (by omega) (fun r7 h_r7 => ?_)
    refine And.intro (fun c8 => ?_) (fun c8 => ?_)
    · skip
      have c8 := (aAd _ _).mp c8
      exact ts_X9_nearest_63 dN bD uU gF mX oE dY xL wX hpost hKn x1 x2 x3 x4 qB jK aBK aBN aCH (by omega) aAK hn22
    · skip
      have c8 := mt (aAd _ _).mpr c8
      refine And.intro (fun c9 => ?_) (fun c9 => ?_)
      · skip
        have c9 := (aAO _ _).mp c9
        exact ts_X9_nearest_63 dN bD uU gF mX oE dY xL wX hpost hKn x1 x2 x3 x4 qB jK aBK aBN aCH (by omega) aAK hn22
      · skip
        have c9 := mt (aAO _ _).mpr c9
        exact ts_X9_nearest_63 dN bD uU gF mX oE dY xL wX hpost hKn x1 x4 r7 x4 qB jK aBK (by omega) (by omega) (by omega) aAK hn22
set_option maxHeartbeats 8000000 in
set_option maxRecDepth 200000 in
theorem tb_X9_nearest_22 {post : Int32 -> Int32 -> (Nat -> Int32) -> Prop} (dN bD : Int32) (uU gF mX oE dY : Nat -> Int32) (xL : 0 <= Int32.toInt dN /\ Int32.toInt dN <= 16) (wX : 0 <= Int32.toInt bD /\ Int32.toInt bD <= 8) (hpost : ∀ (r : Int32) (zV : Int32) (aAV : Nat -> Int32), (-2 <= Int32.toInt r /\ Int32.toInt r <= 7) -> (0 <= Int32.toInt zV /\ Int32.toInt zV <= 16) -> post r zV aAV) : ∀ (n : Nat) (x1 x2 x3 x4 qB : Int32) (jK : Nat -> Int32), (0 <= Int32.toInt x1 /\ Int32.toInt x1 <= 15) -> (-2 <= Int32.toInt x2 /\ Int32.toInt x2 <= 7) -> (0 <= Int32.toInt x3 /\ Int32.toInt x3 <= 31) -> (0 <= Int32.toInt x4 /\ Int32.toInt x4 <= 8) -> (0 <= Int32.toInt qB /\ Int32.toInt qB <= 16) -> (8 - Int32.toInt x4 < (n : Int)) -> wb_X9_nearest_22 post dN bD uU gF mX oE dY n x1 x2 x3 x4 qB jK := by
  intro n
  induction n with
  | zero =>
    intro x1 x2 x3 x4 qB jK aBK aBN aCH aDO aAK hm
    exfalso; omega
  | succ n ih =>
    intro x1 x2 x3 x4 qB jK aBK aBN aCH aDO aAK hm
    exact ts_X9_nearest_22 dN bD uU gF mX oE dY xL wX hpost ih x1 x2 x3 x4 qB jK aBK aBN aCH aDO aAK (by omega)
set_option maxHeartbeats 8000000 in
set_option maxRecDepth 200000 in
theorem t_X9_nearest {post : Int32 -> Int32 -> (Nat -> Int32) -> Prop} {p0 dN bD : Int32} {uU gF mX oE dY : Nat -> Int32} {qB : Int32} {jK : Nat -> Int32} (xL : 0 <= Int32.toInt dN /\ Int32.toInt dN <= 16) (wX : 0 <= Int32.toInt bD /\ Int32.toInt bD <= 8) (aAK : 0 <= Int32.toInt qB /\ Int32.toInt qB <= 16) (hpost : ∀ (r : Int32) (zV : Int32) (aAV : Nat -> Int32), (-2 <= Int32.toInt r /\ Int32.toInt r <= 7) -> (0 <= Int32.toInt zV /\ Int32.toInt zV <= 16) -> post r zV aAV) : wp_X9_nearest post p0 dN bD uU gF mX oE dY qB jK := by
  have l0 := aI2
  have l1 := li_m2
  have l2 := aE0
  have l3 := li_31
  have f11 := aAT p0
  refine And.intro (fun c10 => ?_) (fun c10 => ?_)
  · skip
    have c10 := (aAd _ _).mp c10
    refine And.intro (fun h9 => absurd h9 (by decide)) (fun _ => ?_)
    exact hpost _ _ _ (by omega) aAK
  · skip
    have c10 := mt (aAd _ _).mpr c10
    refine And.intro (fun c12 => ?_) (fun c12 => ?_)
    · skip
      have c12 := (aAO _ _).mp c12
      refine And.intro (fun h9 => absurd h9 (by decide)) (fun _ => ?_)
      exact hpost _ _ _ (by omega) aAK
    · skip
      have c12 := mt (aAO _ _).mpr c12
      refine And.intro (fun _ => ?_) (fun h9 => absurd h9 (by decide))
      exact ⟨10, tb_X9_nearest_22 dN bD uU gF mX oE dY xL wX hpost _ p0 (-2) 31 0 qB jK (by omega) (by omega) (by omega) (by omega) aAK (by omega)⟩
set_option maxHeartbeats 8000000 in
set_option maxRecDepth 200000 in
theorem ts_X5_isEarlier_31 {post : Int32 -> Prop} (hpost : ∀ (r : Int32) , (0 <= Int32.toInt r /\ Int32.toInt r <= 1) -> post r) : ws_X5_isEarlier_31 post := by
  have l0 := aEc
  exact hpost _ (by omega)
set_option maxHeartbeats 8000000 in
set_option maxRecDepth 200000 in
theorem t_X5_isEarlier {post : Int32 -> Prop} {p0 p1 : Int32} (h_p0 : 0 <= Int32.toInt p0 /\ Int32.toInt p0 <= 255) (h_p1 : 0 <= Int32.toInt p1 /\ Int32.toInt p1 <= 255) (hpost : ∀ (r : Int32) , (0 <= Int32.toInt r /\ Int32.toInt r <= 1) -> post r) : wp_X5_isEarlier post p0 p1 := by
  have l0 := aE0
  have l1 := aKH
  have l2 := aJ8
  have l3 := li_63
  have l4 := aJ9
  intro v1 ev1
  intro v2 ev2
  have f4 := aAQ v1 1431655765 (by omega)
  have f3 : Int32.toInt (p0 - (v1 &&& 1431655765)) = Int32.toInt p0 - Int32.toInt (v1 &&& 1431655765) := aCA _ _ (by omega)
  rw [<- ev2] at f3
  intro v5 ev5
  have f6 := aAQ v2 858993459 (by omega)
  have hv5 := congrArg Int32.toInt ev5
  intro v7 ev7
  intro v8 ev8
  have f10 := aAQ v7 858993459 (by omega)
  have f9 : Int32.toInt (v5 + (v7 &&& 858993459)) = Int32.toInt v5 + Int32.toInt (v7 &&& 858993459) := aAD _ _ (by omega)
  rw [<- ev8] at f9
  intro v11 ev11
  have hv11 := congrArg Int32.toInt ev11
  intro v13 ev13
  have f14 := aAQ v11 252645135 (by omega)
  have hv13 := congrArg Int32.toInt ev13
  intro v15 ev15
  have hv15 := congrArg Int32.toInt ev15
  intro v17 ev17
  have hv17 := congrArg Int32.toInt ev17
  intro v19 ev19
  intro v20 ev20
  have f22 := aAQ v19 1431655765 (by omega)
  have f21 : Int32.toInt (p1 - (v19 &&& 1431655765)) = Int32.toInt p1 - Int32.toInt (v19 &&& 1431655765) := aCA _ _ (by omega)
  rw [<- ev20] at f21
  intro v23 ev23
  have f24 := aAQ v20 858993459 (by omega)
  have hv23 := congrArg Int32.toInt ev23
  intro v25 ev25
  intro v26 ev26
  have f28 := aAQ v25 858993459 (by omega)
  have f27 : Int32.toInt (v23 + (v25 &&& 858993459)) = Int32.toInt v23 + Int32.toInt (v25 &&& 858993459) := aAD _ _ (by omega)
  rw [<- ev26] at f27
  intro v29 ev29
  have hv29 := congrArg Int32.toInt ev29
  intro v31 ev31
  have f32 := aAQ v29 252645135 (by omega)
  have hv31 := congrArg Int32.toInt ev31
  intro v33 ev33
  have hv33 := congrArg Int32.toInt ev33
  intro v35 ev35
  have hv35 := congrArg Int32.toInt ev35
  intro v37 ev37
  have f39 := aAQ v17 63 (by omega)
  have f40 := aAQ v35 63 (by omega)
  have f38 : Int32.toInt ((v17 &&& 63) - (v35 &&& 63)) = Int32.toInt (v17 &&& 63) - Int32.toInt (v35 &&& 63) := aCA _ _ (by omega)
  rw [<- ev37] at f38
  intro v41 ev41
  have f42 := ti_xor 8 256 p0 p1 (by decide) (by omega) (by omega)
  have hv41 := congrArg Int32.toInt ev41
  refine And.intro (fun c43 => ?_) (fun c43 => ?_)
  · skip
    have c43 := (aAd _ _).mp c43
    exact ts_X5_isEarlier_31 hpost 
  · skip
    have c43 := mt (aAd _ _).mpr c43
    refine And.intro (fun c44 => ?_) (fun c44 => ?_)
    · skip
      have c44 := mt (zJ _ _).mpr c44
      exact hpost _ (by omega)
    · skip
      have c44 := (zJ _ _).mp c44
      intro v45 ev45
      have f46 := aAQ p0 v41 (by omega)
      have f47 := aBx p0 v41 (by omega)
      have hv45 := congrArg Int32.toInt ev45
      have f50 := aBx v45 (-v41) (by omega)
      refine And.intro (fun c48 => ?_) (fun c48 => ?_)
      · skip
        have c48 := (zJ _ _).mp c48
        exact hpost _ (by omega)
      · skip
        have c48 := mt (zJ _ _).mpr c48
        exact ts_X5_isEarlier_31 hpost 
set_option maxHeartbeats 8000000 in
set_option maxRecDepth 200000 in
theorem ts_X5_smallestCover_45 {post : Int32 -> Prop} {K5 : Int32 -> Int32 -> Int32 -> Int32 -> Prop} {n5 : Int} (rD : Nat -> Int32) (bD : Int32) (zR : ∀ k : Nat, 0 <= Int32.toInt (rD k) /\ Int32.toInt (rD k) <= 65535) (wX : 0 <= Int32.toInt bD /\ Int32.toInt bD <= 8) (hpost : ∀ (r : Int32) , (0 <= Int32.toInt r /\ Int32.toInt r <= 255) -> post r) (hK5 : ∀ (x1 : Int32) (x2 : Int32) (x3 : Int32) (x4 : Int32), (0 <= Int32.toInt x1 /\ Int32.toInt x1 <= 65535) -> (0 <= Int32.toInt x2 /\ Int32.toInt x2 <= 255) -> (0 <= Int32.toInt x3 /\ Int32.toInt x3 <= 255) -> (0 <= Int32.toInt x4 /\ Int32.toInt x4 <= 256) -> (256 - Int32.toInt x4 < n5) -> K5 x1 x2 x3 x4) (x1 x2 x3 x4 : Int32) (aBK : 0 <= Int32.toInt x1 /\ Int32.toInt x1 <= 65535) (aBN : 1 <= Int32.toInt x2 /\ Int32.toInt x2 <= 255) (aCH : 0 <= Int32.toInt x3 /\ Int32.toInt x3 <= 255) (aDO : 0 <= Int32.toInt x4 /\ Int32.toInt x4 <= 255) (hn5 : 256 - Int32.toInt x4 <= n5) : aYj post K5 rD bD x1 x2 x3 x4 := by
  have l0 := aEc
  intro v1 ev1
  have f2 : Int32.toInt (x4 + 1) = Int32.toInt x4 + Int32.toInt (1 : Int32) := aAD _ _ (by omega)
  rw [<- ev1] at f2
  exact hK5 x1 x2 x3 v1 aBK (by omega) aCH (by omega) (by omega)
set_option maxHeartbeats 8000000 in
set_option maxRecDepth 200000 in
theorem ts_X5_smallestCover_5 {post : Int32 -> Prop} {next : Int32 -> Int32 -> Int32 -> Int32 -> Prop} {n5 : Int} (rD : Nat -> Int32) (bD : Int32) (zR : ∀ k : Nat, 0 <= Int32.toInt (rD k) /\ Int32.toInt (rD k) <= 65535) (wX : 0 <= Int32.toInt bD /\ Int32.toInt bD <= 8) (hpost : ∀ (r : Int32) , (0 <= Int32.toInt r /\ Int32.toInt r <= 255) -> post r) (hKn : ∀ (x1 : Int32) (x2 : Int32) (x3 : Int32) (x4 : Int32), (0 <= Int32.toInt x1 /\ Int32.toInt x1 <= 65535) -> (0 <= Int32.toInt x2 /\ Int32.toInt x2 <= 255) -> (0 <= Int32.toInt x3 /\ Int32.toInt x3 <= 255) -> (0 <= Int32.toInt x4 /\ Int32.toInt x4 <= 256) -> (256 - Int32.toInt x4 < n5) -> next x1 x2 x3 x4) (x1 x2 x3 x4 : Int32) (aBK : 0 <= Int32.toInt x1 /\ Int32.toInt x1 <= 65535) (aBN : 0 <= Int32.toInt x2 /\ Int32.toInt x2 <= 255) (aCH : 0 <= Int32.toInt x3 /\ Int32.toInt x3 <= 255) (aDO : 0 <= Int32.toInt x4 /\ Int32.toInt x4 <= 256) (hn5 : 256 - Int32.toInt x4 <= n5) : ws_X5_smallestCover_5 post next rD bD x1 x2 x3 x4 := by
  have l0 := aE0
  refine And.intro (fun c3 => ?_) (fun c3 => ?_)
  · skip
    have c3 := (aAO _ _).mp c3
    exact hpost _ aCH
  · skip
    have c3 := mt (aAO _ _).mpr c3
    have f6 := aBx x4 (x2 ^^^ (-1)) (by omega)
    refine And.intro (fun c4 => ?_) (fun c4 => ?_)
    · skip
      have c4 := mt (zJ _ _).mpr c4
      exact ts_X5_smallestCover_45 rD bD zR wX hpost hKn x1 x2 x3 x4 aBK (by omega) aCH (by omega) hn5
    · skip
      have c4Z := c4
      have c4 := (zJ _ _).mp c4
      have s7 := ti_subset x4 x2 (c4Z) (by omega)
      refine aUy (by omega) zR wX (fun r8 h_r8 => ?_)
      have f11 := aBx x1 (r8 ^^^ (-1)) (by omega)
      refine And.intro (fun c9 => ?_) (fun c9 => ?_)
      · skip
        have c9 := mt (zJ _ _).mpr c9
        exact ts_X5_smallestCover_45 rD bD zR wX hpost hKn x1 x2 x3 x4 aBK (by omega) aCH (by omega) hn5
      · skip
        have c9Z := c9
        have c9 := (zJ _ _).mp c9
        have s12 := ti_subset x1 r8 (c9Z) (by omega)
        refine t_X5_isEarlier (by omega) aCH (fun r13 h_r13 => ?_)
        refine And.intro (fun c14 => ?_) (fun c14 => ?_)
        · skip
          have c14 := (zJ _ _).mp c14
          exact ts_X5_smallestCover_45 rD bD zR wX hpost hKn x1 x2 x3 x4 aBK (by omega) aCH (by omega) hn5
        · skip
          have c14 := mt (zJ _ _).mpr c14
          exact ts_X5_smallestCover_45 rD bD zR wX hpost hKn x1 x2 x4 x4 aBK (by omega) (by omega) (by omega) hn5
set_option maxHeartbeats 8000000 in
set_option maxRecDepth 200000 in
theorem tb_X5_smallestCover_5 {post : Int32 -> Prop} (rD : Nat -> Int32) (bD : Int32) (zR : ∀ k : Nat, 0 <= Int32.toInt (rD k) /\ Int32.toInt (rD k) <= 65535) (wX : 0 <= Int32.toInt bD /\ Int32.toInt bD <= 8) (hpost : ∀ (r : Int32) , (0 <= Int32.toInt r /\ Int32.toInt r <= 255) -> post r) : ∀ (n : Nat) (x1 x2 x3 x4 : Int32), (0 <= Int32.toInt x1 /\ Int32.toInt x1 <= 65535) -> (0 <= Int32.toInt x2 /\ Int32.toInt x2 <= 255) -> (0 <= Int32.toInt x3 /\ Int32.toInt x3 <= 255) -> (0 <= Int32.toInt x4 /\ Int32.toInt x4 <= 256) -> (256 - Int32.toInt x4 < (n : Int)) -> wb_X5_smallestCover_5 post rD bD n x1 x2 x3 x4 := by
  intro n
  induction n with
  | zero =>
    intro x1 x2 x3 x4 aBK aBN aCH aDO hm
    exfalso; omega
  | succ n ih =>
    intro x1 x2 x3 x4 aBK aBN aCH aDO hm
    exact ts_X5_smallestCover_5 rD bD zR wX hpost ih x1 x2 x3 x4 aBK aBN aCH aDO (by omega)
set_option maxHeartbeats 8000000 in
set_option maxRecDepth 200000 in
theorem t_X5_smallestCover {post : Int32 -> Prop} {p0 p1 : Int32} {rD : Nat -> Int32} {bD : Int32} (h_p0 : 0 <= Int32.toInt p0 /\ Int32.toInt p0 <= 65535) (h_p1 : 0 <= Int32.toInt p1 /\ Int32.toInt p1 <= 255) (zR : ∀ k : Nat, 0 <= Int32.toInt (rD k) /\ Int32.toInt (rD k) <= 65535) (wX : 0 <= Int32.toInt bD /\ Int32.toInt bD <= 8) (hpost : ∀ (r : Int32) , (0 <= Int32.toInt r /\ Int32.toInt r <= 255) -> post r) : aXB post p0 p1 rD bD := by
  have l0 := aE0
  exact ⟨258, tb_X5_smallestCover_5 rD bD zR wX hpost _ p0 p1 p1 0 h_p0 h_p1 h_p1 (by omega) (by omega)⟩
set_option maxHeartbeats 8000000 in
set_option maxRecDepth 200000 in
theorem ts_X9_tellMembers_31 {post : Int32 -> Int32 -> (Nat -> Int32) -> Prop} {K9 : Int32 -> Int32 -> Int32 -> (Nat -> Int32) -> Prop} {n9 : Int} (hpost : ∀ (r : Int32) (zV : Int32) (aAV : Nat -> Int32), (0 <= Int32.toInt r /\ Int32.toInt r <= 16) -> (0 <= Int32.toInt zV /\ Int32.toInt zV <= 16) -> post r zV aAV) (hK9 : ∀ (x1 : Int32) (x2 : Int32) (qB : Int32) (jK : Nat -> Int32), (0 <= Int32.toInt x1 /\ Int32.toInt x1 <= 255) -> (0 <= Int32.toInt x2 /\ Int32.toInt x2 <= 8) -> (0 <= Int32.toInt qB /\ Int32.toInt qB <= 16) -> (8 - Int32.toInt x2 < n9) -> K9 x1 x2 qB jK) (x1 x2 qB : Int32) (jK : Nat -> Int32) (aBK : 0 <= Int32.toInt x1 /\ Int32.toInt x1 <= 255) (aBN : 0 <= Int32.toInt x2 /\ Int32.toInt x2 <= 7) (aAK : 0 <= Int32.toInt qB /\ Int32.toInt qB <= 16) (hn9 : 8 - Int32.toInt x2 <= n9) : ws_X9_tellMembers_31 post K9 x1 x2 qB jK := by
  have l0 := aEc
  intro v1 ev1
  have f2 : Int32.toInt (x2 + 1) = Int32.toInt x2 + Int32.toInt (1 : Int32) := aAD _ _ (by omega)
  rw [<- ev1] at f2
  exact hK9 x1 v1 qB jK aBK (by omega) aAK (by omega)
set_option maxHeartbeats 8000000 in
set_option maxRecDepth 200000 in
theorem ts_X9_tellMembers_9 {post : Int32 -> Int32 -> (Nat -> Int32) -> Prop} {next : Int32 -> Int32 -> Int32 -> (Nat -> Int32) -> Prop} {n9 : Int} (hpost : ∀ (r : Int32) (zV : Int32) (aAV : Nat -> Int32), (0 <= Int32.toInt r /\ Int32.toInt r <= 16) -> (0 <= Int32.toInt zV /\ Int32.toInt zV <= 16) -> post r zV aAV) (hKn : ∀ (x1 : Int32) (x2 : Int32) (qB : Int32) (jK : Nat -> Int32), (0 <= Int32.toInt x1 /\ Int32.toInt x1 <= 255) -> (0 <= Int32.toInt x2 /\ Int32.toInt x2 <= 8) -> (0 <= Int32.toInt qB /\ Int32.toInt qB <= 16) -> (8 - Int32.toInt x2 < n9) -> next x1 x2 qB jK) (x1 x2 qB : Int32) (jK : Nat -> Int32) (aBK : 0 <= Int32.toInt x1 /\ Int32.toInt x1 <= 255) (aBN : 0 <= Int32.toInt x2 /\ Int32.toInt x2 <= 8) (aAK : 0 <= Int32.toInt qB /\ Int32.toInt qB <= 16) (hn9 : 8 - Int32.toInt x2 <= n9) : ws_X9_tellMembers_9 post next x1 x2 qB jK := by
  have l0 := aE0
  have l1 := aEc
  have l2 := li_16
  have l3 := li_8
  refine And.intro (fun c3 => ?_) (fun c3 => ?_)
  · skip
    have c3 := (aAO _ _).mp c3
    exact hpost _ _ _ aAK aAK
  · skip
    have c3 := mt (aAO _ _).mpr c3
    intro v4 ev4
    have f5 := aRJ x1 x2 (by omega)
    have hv4 := congrArg Int32.toInt ev4
    have f7 := aAQ v4 1 (by omega)
    have f8 := aBx v4 1 (by omega)
    refine And.intro (fun c6 => ?_) (fun c6 => ?_)
    · skip
      have c6 := (zJ _ _).mp c6
      exact ts_X9_tellMembers_31 hpost hKn x1 x2 qB jK aBK (by omega) aAK hn9
    · skip
      have c6 := mt (zJ _ _).mpr c6
      refine And.intro (fun c9 => ?_) (fun c9 => ?_)
      · skip
        have c9 := (aAO _ _).mp c9
        exact ts_X9_tellMembers_31 hpost hKn x1 x2 qB jK aBK (by omega) aAK hn9
      · skip
        have c9 := mt (aAO _ _).mpr c9
        refine And.intro (aBZ (by omega)) ?_
        intro v10 ev10
        have f11 : Int32.toInt (qB + 1) = Int32.toInt qB + Int32.toInt (1 : Int32) := aAD _ _ (by omega)
        rw [<- ev10] at f11
        exact ts_X9_tellMembers_31 hpost hKn x1 x2 v10 (upd jK qB.toNatClampNeg x2) aBK (by omega) (by omega) hn9
set_option maxHeartbeats 8000000 in
set_option maxRecDepth 200000 in
theorem tb_X9_tellMembers_9 {post : Int32 -> Int32 -> (Nat -> Int32) -> Prop} (hpost : ∀ (r : Int32) (zV : Int32) (aAV : Nat -> Int32), (0 <= Int32.toInt r /\ Int32.toInt r <= 16) -> (0 <= Int32.toInt zV /\ Int32.toInt zV <= 16) -> post r zV aAV) : ∀ (n : Nat) (x1 x2 qB : Int32) (jK : Nat -> Int32), (0 <= Int32.toInt x1 /\ Int32.toInt x1 <= 255) -> (0 <= Int32.toInt x2 /\ Int32.toInt x2 <= 8) -> (0 <= Int32.toInt qB /\ Int32.toInt qB <= 16) -> (8 - Int32.toInt x2 < (n : Int)) -> wb_X9_tellMembers_9 post n x1 x2 qB jK := by
  intro n
  induction n with
  | zero =>
    intro x1 x2 qB jK aBK aBN aAK hm
    exfalso; omega
  | succ n ih =>
    intro x1 x2 qB jK aBK aBN aAK hm
    exact ts_X9_tellMembers_9 hpost ih x1 x2 qB jK aBK aBN aAK (by omega)
set_option maxHeartbeats 8000000 in
set_option maxRecDepth 200000 in
theorem t_X9_tellMembers {post : Int32 -> Int32 -> (Nat -> Int32) -> Prop} {p0 qB : Int32} {jK : Nat -> Int32} (h_p0 : 0 <= Int32.toInt p0 /\ Int32.toInt p0 <= 255) (aAK : 0 <= Int32.toInt qB /\ Int32.toInt qB <= 16) (hpost : ∀ (r : Int32) (zV : Int32) (aAV : Nat -> Int32), (0 <= Int32.toInt r /\ Int32.toInt r <= 16) -> (0 <= Int32.toInt zV /\ Int32.toInt zV <= 16) -> post r zV aAV) : wp_X9_tellMembers post p0 qB jK := by
  have l0 := aE0
  exact ⟨10, tb_X9_tellMembers_9 hpost _ p0 0 0 jK h_p0 (by omega) (by omega) (by omega)⟩
set_option maxHeartbeats 8000000 in
set_option maxRecDepth 200000 in
theorem t_X9_fewest {post : Int32 -> Int32 -> (Nat -> Int32) -> Int32 -> (Nat -> Int32) -> Prop} {oY : Int32} {rD : Nat -> Int32} {dN bD : Int32} {uU gF qF mX oE dY : Nat -> Int32} {jE eW eY gJ jG qB : Int32} {jK : Nat -> Int32} (aAE : 0 <= Int32.toInt oY /\ Int32.toInt oY <= 65535) (zR : ∀ k : Nat, 0 <= Int32.toInt (rD k) /\ Int32.toInt (rD k) <= 65535) (xL : 0 <= Int32.toInt dN /\ Int32.toInt dN <= 16) (wX : 0 <= Int32.toInt bD /\ Int32.toInt bD <= 8) (zK : 0 <= Int32.toInt jG /\ Int32.toInt jG <= 9) (aAK : 0 <= Int32.toInt qB /\ Int32.toInt qB <= 16) (hpost : ∀ (r : Int32) (aAY : Int32) (aBC : Nat -> Int32) (zV : Int32) (aAV : Nat -> Int32), (0 <= Int32.toInt r /\ Int32.toInt r <= 16) -> (0 <= Int32.toInt aAY /\ Int32.toInt aAY <= 65535) -> (∀ k : Nat, 0 <= Int32.toInt (aBC k) /\ Int32.toInt (aBC k) <= 65535) -> (0 <= Int32.toInt zV /\ Int32.toInt zV <= 16) -> post r aAY aBC zV aAV) : wp_X9_fewest post oY rD dN bD uU gF qF mX oE dY jE eW eY gJ jG qB jK := by
  have l0 := aEc
  refine aVe zK aAE zR xL wX (fun aBo aCo h_pl_wanted_1 h_pl_near_2 => ?_)
  intro v3 ev3
  have f4 := aDv 8 256 bD (by decide) (by omega)
  have hv3 := congrArg Int32.toInt ev3
  have f6 : Int32.toInt (v3 - 1) = Int32.toInt v3 - Int32.toInt (1 : Int32) := aCA _ _ (by omega)
  refine t_X5_smallestCover h_pl_wanted_1 (by omega) h_pl_near_2 wX (fun r5 h_r5 => ?_)
  refine t_X9_tellMembers h_r5 aAK (fun r9 ro_size_7 aO7 h_r9 h_ro_size_7 => ?_)
  exact hpost _ _ _ _ _ h_r9 h_pl_wanted_1 h_pl_near_2 h_ro_size_7
set_option maxHeartbeats 8000000 in
set_option maxRecDepth 200000 in
theorem ts_X9_needed_76 {post : Int32 -> Int32 -> (Nat -> Int32) -> Int32 -> (Nat -> Int32) -> Prop} {K13 : Int32 -> Int32 -> Int32 -> Int32 -> (Nat -> Int32) -> Int32 -> (Nat -> Int32) -> Prop} {n13 : Int} (dN bD : Int32) (uU gF qF mX oE dY : Nat -> Int32) (jE eW eY gJ jG : Int32) (xL : 0 <= Int32.toInt dN /\ Int32.toInt dN <= 16) (wX : 0 <= Int32.toInt bD /\ Int32.toInt bD <= 8) (zK : 0 <= Int32.toInt jG /\ Int32.toInt jG <= 9) (hpost : ∀ (r : Int32) (aAY : Int32) (aBC : Nat -> Int32) (zV : Int32) (aAV : Nat -> Int32), (0 <= Int32.toInt r /\ Int32.toInt r <= 255) -> (0 <= Int32.toInt aAY /\ Int32.toInt aAY <= 65535) -> (∀ k : Nat, 0 <= Int32.toInt (aBC k) /\ Int32.toInt (aBC k) <= 65535) -> (1 <= Int32.toInt zV /\ Int32.toInt zV <= 1) -> post r aAY aBC zV aAV) (hK13 : ∀ (x1 : Int32) (x2 : Int32) (x3 : Int32) (oY : Int32) (rD : Nat -> Int32) (qB : Int32) (jK : Nat -> Int32), (0 <= Int32.toInt x1 /\ Int32.toInt x1 <= 255) -> (0 <= Int32.toInt x2 /\ Int32.toInt x2 <= 65535) -> (0 <= Int32.toInt x3 /\ Int32.toInt x3 <= 8) -> (0 <= Int32.toInt oY /\ Int32.toInt oY <= 65535) -> (∀ k : Nat, 0 <= Int32.toInt (rD k) /\ Int32.toInt (rD k) <= 65535) -> (0 <= Int32.toInt qB /\ Int32.toInt qB <= 16) -> (8 - Int32.toInt x3 < n13) -> K13 x1 x2 x3 oY rD qB jK) (x1 x2 x3 oY : Int32) (rD : Nat -> Int32) (qB : Int32) (jK : Nat -> Int32) (aBK : 0 <= Int32.toInt x1 /\ Int32.toInt x1 <= 255) (aBN : 0 <= Int32.toInt x2 /\ Int32.toInt x2 <= 65535) (aCH : 0 <= Int32.toInt x3 /\ Int32.toInt x3 <= 7) (aAE : 0 <= Int32.toInt oY /\ Int32.toInt oY <= 65535) (zR : ∀ k : Nat, 0 <= Int32.toInt (rD k) /\ Int32.toInt (rD k) <= 65535) (aAK : 0 <= Int32.toInt qB /\ Int32.toInt qB <= 16) (hn13 : 8 - Int32.toInt x3 <= n13) : ws_X9_needed_76 post K13 dN bD uU gF qF mX oE dY jE eW eY gJ jG x1 x2 x3 oY rD qB jK := by
  have l0 := aEc
  intro v1 ev1
  have f2 : Int32.toInt (x3 + 1) = Int32.toInt x3 + Int32.toInt (1 : Int32) := aAD _ _ (by omega)
  rw [<- ev1] at f2
  exact hK13 x1 x2 v1 oY rD qB jK aBK aBN (by omega) aAE zR aAK (by omega)
set_option maxHeartbeats 8000000 in
set_option maxRecDepth 200000 in
theorem ts_X9_needed_13 {post : Int32 -> Int32 -> (Nat -> Int32) -> Int32 -> (Nat -> Int32) -> Prop} {next : Int32 -> Int32 -> Int32 -> Int32 -> (Nat -> Int32) -> Int32 -> (Nat -> Int32) -> Prop} {n13 : Int} (dN bD : Int32) (uU gF qF mX oE dY : Nat -> Int32) (jE eW eY gJ jG : Int32) (xL : 0 <= Int32.toInt dN /\ Int32.toInt dN <= 16) (wX : 0 <= Int32.toInt bD /\ Int32.toInt bD <= 8) (zK : 0 <= Int32.toInt jG /\ Int32.toInt jG <= 9) (hpost : ∀ (r : Int32) (aAY : Int32) (aBC : Nat -> Int32) (zV : Int32) (aAV : Nat -> Int32), (0 <= Int32.toInt r /\ Int32.toInt r <= 255) -> (0 <= Int32.toInt aAY /\ Int32.toInt aAY <= 65535) -> (∀ k : Nat, 0 <= Int32.toInt (aBC k) /\ Int32.toInt (aBC k) <= 65535) -> (1 <= Int32.toInt zV /\ Int32.toInt zV <= 1) -> post r aAY aBC zV aAV) (hKn : ∀ (x1 : Int32) (x2 : Int32) (x3 : Int32) (oY : Int32) (rD : Nat -> Int32) (qB : Int32) (jK : Nat -> Int32), (0 <= Int32.toInt x1 /\ Int32.toInt x1 <= 255) -> (0 <= Int32.toInt x2 /\ Int32.toInt x2 <= 65535) -> (0 <= Int32.toInt x3 /\ Int32.toInt x3 <= 8) -> (0 <= Int32.toInt oY /\ Int32.toInt oY <= 65535) -> (∀ k : Nat, 0 <= Int32.toInt (rD k) /\ Int32.toInt (rD k) <= 65535) -> (0 <= Int32.toInt qB /\ Int32.toInt qB <= 16) -> (8 - Int32.toInt x3 < n13) -> next x1 x2 x3 oY rD qB jK) (x1 x2 x3 oY : Int32) (rD : Nat -> Int32) (qB : Int32) (jK : Nat -> Int32) (aBK : 0 <= Int32.toInt x1 /\ Int32.toInt x1 <= 255) (aBN : 0 <= Int32.toInt x2 /\ Int32.toInt x2 <= 65535) (aCH : 0 <= Int32.toInt x3 /\ Int32.toInt x3 <= 8) (aAE : 0 <= Int32.toInt oY /\ Int32.toInt oY <= 65535) (zR : ∀ k : Nat, 0 <= Int32.toInt (rD k) /\ Int32.toInt (rD k) <= 65535) (aAK : 0 <= Int32.toInt qB /\ Int32.toInt qB <= 16) (hn13 : 8 - Int32.toInt x3 <= n13) : ws_X9_needed_13 post next dN bD uU gF qF mX oE dY jE eW eY gJ jG x1 x2 x3 oY rD qB jK := by
  have l0 := aE0
  have l1 := aEc
  refine And.intro (fun c3 => ?_) (fun c3 => ?_)
  · skip
    have c3 := (aAO _ _).mp c3
    refine And.intro (fun h9 => absurd h9 (by decide)) (fun _ => ?_)
    refine And.intro (aBZ (by omega)) ?_
    intro v4 ev4
    have f5 : Int32.toInt (0 + 1) = Int32.toInt (0 : Int32) + Int32.toInt (1 : Int32) := aAD _ _ (by omega)
    rw [<- ev4] at f5
    exact hpost _ _ _ _ _ aBK aAE zR (by omega)
  · skip
    have c3 := mt (aAO _ _).mpr c3
    intro v6 ev6
    have f7 := aDv 8 256 bD (by decide) (by omega)
    have hv6 := congrArg Int32.toInt ev6
    intro v8 ev8
    have f9 := aDv 7 128 x3 (by decide) (by omega)
    have hv8 := congrArg Int32.toInt ev8
    intro v10 ev10
    have f12 : Int32.toInt (v6 - 1) = Int32.toInt v6 - Int32.toInt (1 : Int32) := aCA _ _ (by omega)
    have f13 := aBx (v6 - 1) (v8 ^^^ (-1)) (by omega)
    have hv10 := congrArg Int32.toInt ev10
    refine aUy (by omega) zR wX (fun r14 h_r14 => ?_)
    intro v15 ev15
    have f17 := aBx oY (r14 ^^^ (-1)) (by omega)
    have hv15 := congrArg Int32.toInt ev15
    refine And.intro (fun c18 => ?_) (fun c18 => ?_)
    · skip
      have c18 := (zJ _ _).mp c18
      exact ts_X9_needed_76 dN bD uU gF qF mX oE dY jE eW eY gJ jG xL wX zK hpost hKn x1 x2 x3 oY rD qB jK aBK aBN (by omega) aAE zR aAK hn13
    · skip
      have c18 := mt (zJ _ _).mpr c18
      intro v19 ev19
      have f20 := ti_or 8 256 x1 (1 <<< (x3 &&& 31)) (by decide) (by omega) (by omega)
      have hv19 := congrArg Int32.toInt ev19
      intro v21 ev21
      have f22 := ti_or 16 65536 x2 v15 (by decide) (by omega) (by omega)
      have hv21 := congrArg Int32.toInt ev21
      exact ts_X9_needed_76 dN bD uU gF qF mX oE dY jE eW eY gJ jG xL wX zK hpost hKn v19 v21 x3 oY rD qB jK (by omega) (by omega) (by omega) aAE zR aAK hn13
set_option maxHeartbeats 8000000 in
set_option maxRecDepth 200000 in
theorem tb_X9_needed_13 {post : Int32 -> Int32 -> (Nat -> Int32) -> Int32 -> (Nat -> Int32) -> Prop} (dN bD : Int32) (uU gF qF mX oE dY : Nat -> Int32) (jE eW eY gJ jG : Int32) (xL : 0 <= Int32.toInt dN /\ Int32.toInt dN <= 16) (wX : 0 <= Int32.toInt bD /\ Int32.toInt bD <= 8) (zK : 0 <= Int32.toInt jG /\ Int32.toInt jG <= 9) (hpost : ∀ (r : Int32) (aAY : Int32) (aBC : Nat -> Int32) (zV : Int32) (aAV : Nat -> Int32), (0 <= Int32.toInt r /\ Int32.toInt r <= 255) -> (0 <= Int32.toInt aAY /\ Int32.toInt aAY <= 65535) -> (∀ k : Nat, 0 <= Int32.toInt (aBC k) /\ Int32.toInt (aBC k) <= 65535) -> (1 <= Int32.toInt zV /\ Int32.toInt zV <= 1) -> post r aAY aBC zV aAV) : ∀ (n : Nat) (x1 x2 x3 oY : Int32) (rD : Nat -> Int32) (qB : Int32) (jK : Nat -> Int32), (0 <= Int32.toInt x1 /\ Int32.toInt x1 <= 255) -> (0 <= Int32.toInt x2 /\ Int32.toInt x2 <= 65535) -> (0 <= Int32.toInt x3 /\ Int32.toInt x3 <= 8) -> (0 <= Int32.toInt oY /\ Int32.toInt oY <= 65535) -> (∀ k : Nat, 0 <= Int32.toInt (rD k) /\ Int32.toInt (rD k) <= 65535) -> (0 <= Int32.toInt qB /\ Int32.toInt qB <= 16) -> (8 - Int32.toInt x3 < (n : Int)) -> wb_X9_needed_13 post dN bD uU gF qF mX oE dY jE eW eY gJ jG n x1 x2 x3 oY rD qB jK := by
  intro n
  induction n with
  | zero =>
    intro x1 x2 x3 oY rD qB jK aBK aBN aCH aAE zR aAK hm
    exfalso; omega
  | succ n ih =>
    intro x1 x2 x3 oY rD qB jK aBK aBN aCH aAE zR aAK hm
    exact ts_X9_needed_13 dN bD uU gF qF mX oE dY jE eW eY gJ jG xL wX zK hpost ih x1 x2 x3 oY rD qB jK aBK aBN aCH aAE zR aAK (by omega)
set_option maxHeartbeats 8000000 in
set_option maxRecDepth 200000 in
theorem t_X9_needed {post : Int32 -> Int32 -> (Nat -> Int32) -> Int32 -> (Nat -> Int32) -> Prop} {oY : Int32} {rD : Nat -> Int32} {dN bD : Int32} {uU gF qF mX oE dY : Nat -> Int32} {jE eW eY gJ jG qB : Int32} {jK : Nat -> Int32} (aAE : 0 <= Int32.toInt oY /\ Int32.toInt oY <= 65535) (zR : ∀ k : Nat, 0 <= Int32.toInt (rD k) /\ Int32.toInt (rD k) <= 65535) (xL : 0 <= Int32.toInt dN /\ Int32.toInt dN <= 16) (wX : 0 <= Int32.toInt bD /\ Int32.toInt bD <= 8) (zK : 0 <= Int32.toInt jG /\ Int32.toInt jG <= 9) (aAK : 0 <= Int32.toInt qB /\ Int32.toInt qB <= 16) (hpost : ∀ (r : Int32) (aAY : Int32) (aBC : Nat -> Int32) (zV : Int32) (aAV : Nat -> Int32), (0 <= Int32.toInt r /\ Int32.toInt r <= 255) -> (0 <= Int32.toInt aAY /\ Int32.toInt aAY <= 65535) -> (∀ k : Nat, 0 <= Int32.toInt (aBC k) /\ Int32.toInt (aBC k) <= 65535) -> (1 <= Int32.toInt zV /\ Int32.toInt zV <= 1) -> post r aAY aBC zV aAV) : wp_X9_needed post oY rD dN bD uU gF qF mX oE dY jE eW eY gJ jG qB jK := by
  have l0 := aE0
  refine aVe zK aAE zR xL wX (fun pl_wanted_23 pl_near_24 h_pl_wanted_23 h_pl_near_24 => ?_)
  exact ⟨10, tb_X9_needed_13 dN bD uU gF qF mX oE dY jE eW eY gJ jG xL wX zK hpost _ 0 0 0 pl_wanted_23 pl_near_24 qB jK (by omega) (by omega) (by omega) h_pl_wanted_23 h_pl_near_24 aAK (by omega)⟩
set_option maxHeartbeats 8000000 in
set_option maxRecDepth 200000 in
theorem ts_X9_isFewer_23 {post : Int32 -> Prop} (hpost : ∀ (r : Int32) , (0 <= Int32.toInt r /\ Int32.toInt r <= 1) -> post r) : ws_X9_isFewer_23 post := by
  have l0 := aEc
  exact hpost _ (by omega)
set_option maxHeartbeats 8000000 in
set_option maxRecDepth 200000 in
theorem t_X9_isFewer {post : Int32 -> Prop} {p0 p1 : Int32} (h_p0 : 0 <= Int32.toInt p0 /\ Int32.toInt p0 <= 255) (h_p1 : 0 <= Int32.toInt p1 /\ Int32.toInt p1 <= 255) (hpost : ∀ (r : Int32) , (0 <= Int32.toInt r /\ Int32.toInt r <= 1) -> post r) : wp_X9_isFewer post p0 p1 := by
  have l0 := aE0
  have l1 := aKH
  have l2 := aJ8
  have l3 := li_63
  have l4 := aJ9
  intro v1 ev1
  intro v2 ev2
  have f4 := aAQ v1 1431655765 (by omega)
  have f3 : Int32.toInt (p0 - (v1 &&& 1431655765)) = Int32.toInt p0 - Int32.toInt (v1 &&& 1431655765) := aCA _ _ (by omega)
  rw [<- ev2] at f3
  intro v5 ev5
  have f6 := aAQ v2 858993459 (by omega)
  have hv5 := congrArg Int32.toInt ev5
  intro v7 ev7
  intro v8 ev8
  have f10 := aAQ v7 858993459 (by omega)
  have f9 : Int32.toInt (v5 + (v7 &&& 858993459)) = Int32.toInt v5 + Int32.toInt (v7 &&& 858993459) := aAD _ _ (by omega)
  rw [<- ev8] at f9
  intro v11 ev11
  have hv11 := congrArg Int32.toInt ev11
  intro v13 ev13
  have f14 := aAQ v11 252645135 (by omega)
  have hv13 := congrArg Int32.toInt ev13
  intro v15 ev15
  have hv15 := congrArg Int32.toInt ev15
  intro v17 ev17
  have hv17 := congrArg Int32.toInt ev17
  intro v19 ev19
  intro v20 ev20
  have f22 := aAQ v19 1431655765 (by omega)
  have f21 : Int32.toInt (p1 - (v19 &&& 1431655765)) = Int32.toInt p1 - Int32.toInt (v19 &&& 1431655765) := aCA _ _ (by omega)
  rw [<- ev20] at f21
  intro v23 ev23
  have f24 := aAQ v20 858993459 (by omega)
  have hv23 := congrArg Int32.toInt ev23
  intro v25 ev25
  intro v26 ev26
  have f28 := aAQ v25 858993459 (by omega)
  have f27 : Int32.toInt (v23 + (v25 &&& 858993459)) = Int32.toInt v23 + Int32.toInt (v25 &&& 858993459) := aAD _ _ (by omega)
  rw [<- ev26] at f27
  intro v29 ev29
  have hv29 := congrArg Int32.toInt ev29
  intro v31 ev31
  have f32 := aAQ v29 252645135 (by omega)
  have hv31 := congrArg Int32.toInt ev31
  intro v33 ev33
  have hv33 := congrArg Int32.toInt ev33
  intro v35 ev35
  have hv35 := congrArg Int32.toInt ev35
  intro v37 ev37
  have f39 := aAQ v17 63 (by omega)
  have f40 := aAQ v35 63 (by omega)
  have f38 : Int32.toInt ((v17 &&& 63) - (v35 &&& 63)) = Int32.toInt (v17 &&& 63) - Int32.toInt (v35 &&& 63) := aCA _ _ (by omega)
  rw [<- ev37] at f38
  refine And.intro (fun c41 => ?_) (fun c41 => ?_)
  · skip
    have c41 := (aAd _ _).mp c41
    exact ts_X9_isFewer_23 hpost 
  · skip
    have c41 := mt (aAd _ _).mpr c41
    refine And.intro (fun c42 => ?_) (fun c42 => ?_)
    · skip
      have c42 := mt (zJ _ _).mpr c42
      exact hpost _ (by omega)
    · skip
      have c42 := (zJ _ _).mp c42
      refine And.intro (fun c43 => ?_) (fun c43 => ?_)
      · skip
        have c43 := (aAO _ _).mp c43
        exact hpost _ (by omega)
      · skip
        have c43 := mt (aAO _ _).mpr c43
        exact ts_X9_isFewer_23 hpost 
set_option maxHeartbeats 8000000 in
set_option maxRecDepth 200000 in
theorem ts_X9_birds_92 {post : Int32 -> Int32 -> (Nat -> Int32) -> Int32 -> (Nat -> Int32) -> Prop} {K33 : Int32 -> Int32 -> Int32 -> Int32 -> Int32 -> (Nat -> Int32) -> Int32 -> (Nat -> Int32) -> Prop} {n33 : Int} (dN bD : Int32) (uU gF pL qF mX oE dY : Nat -> Int32) (jE eW eY dU gJ jG : Int32) (xL : 0 <= Int32.toInt dN /\ Int32.toInt dN <= 16) (wX : 0 <= Int32.toInt bD /\ Int32.toInt bD <= 8) (zK : 0 <= Int32.toInt jG /\ Int32.toInt jG <= 9) (hpost : ∀ (r : Int32) (aAY : Int32) (aBC : Nat -> Int32) (zV : Int32) (aAV : Nat -> Int32), (0 <= Int32.toInt aAY /\ Int32.toInt aAY <= 65535) -> (∀ k : Nat, 0 <= Int32.toInt (aBC k) /\ Int32.toInt (aBC k) <= 65535) -> (0 <= Int32.toInt zV /\ Int32.toInt zV <= 16) -> post r aAY aBC zV aAV) (hK33 : ∀ (x1 : Int32) (x2 : Int32) (x3 : Int32) (x4 : Int32) (oY : Int32) (rD : Nat -> Int32) (qB : Int32) (jK : Nat -> Int32), (0 <= Int32.toInt x1 /\ Int32.toInt x1 <= 8) -> (0 <= Int32.toInt x2 /\ Int32.toInt x2 <= 255) -> (1 <= Int32.toInt x4 /\ Int32.toInt x4 <= 256) -> (0 <= Int32.toInt oY /\ Int32.toInt oY <= 65535) -> (∀ k : Nat, 0 <= Int32.toInt (rD k) /\ Int32.toInt (rD k) <= 65535) -> (0 <= Int32.toInt qB /\ Int32.toInt qB <= 16) -> (256 - Int32.toInt x4 < n33) -> K33 x1 x2 x3 x4 oY rD qB jK) (x1 x2 x3 x4 oY : Int32) (rD : Nat -> Int32) (qB : Int32) (jK : Nat -> Int32) (aBK : 0 <= Int32.toInt x1 /\ Int32.toInt x1 <= 8) (aBN : 0 <= Int32.toInt x2 /\ Int32.toInt x2 <= 255) (aDO : 1 <= Int32.toInt x4 /\ Int32.toInt x4 <= 255) (aAE : 0 <= Int32.toInt oY /\ Int32.toInt oY <= 65535) (zR : ∀ k : Nat, 0 <= Int32.toInt (rD k) /\ Int32.toInt (rD k) <= 65535) (aAK : 0 <= Int32.toInt qB /\ Int32.toInt qB <= 16) (hn33 : 256 - Int32.toInt x4 <= n33) : ws_X9_birds_92 post K33 dN bD uU gF pL qF mX oE dY jE eW eY dU gJ jG x1 x2 x3 x4 oY rD qB jK := by
  have l0 := aEc
  intro v1 ev1
  have f2 : Int32.toInt (x4 + 1) = Int32.toInt x4 + Int32.toInt (1 : Int32) := aAD _ _ (by omega)
  rw [<- ev1] at f2
  have f3 := aAT x3
  exact hK33 x1 x2 x3 v1 oY rD qB jK aBK aBN (by omega) aAE zR aAK (by omega)
set_option maxHeartbeats 8000000 in
set_option maxRecDepth 200000 in
theorem ts_X9_birds_86 {post : Int32 -> Int32 -> (Nat -> Int32) -> Int32 -> (Nat -> Int32) -> Prop} {K33 : Int32 -> Int32 -> Int32 -> Int32 -> Int32 -> (Nat -> Int32) -> Int32 -> (Nat -> Int32) -> Prop} {n33 : Int} (dN bD : Int32) (uU gF pL qF mX oE dY : Nat -> Int32) (jE eW eY dU gJ jG : Int32) (xL : 0 <= Int32.toInt dN /\ Int32.toInt dN <= 16) (wX : 0 <= Int32.toInt bD /\ Int32.toInt bD <= 8) (zK : 0 <= Int32.toInt jG /\ Int32.toInt jG <= 9) (hpost : ∀ (r : Int32) (aAY : Int32) (aBC : Nat -> Int32) (zV : Int32) (aAV : Nat -> Int32), (0 <= Int32.toInt aAY /\ Int32.toInt aAY <= 65535) -> (∀ k : Nat, 0 <= Int32.toInt (aBC k) /\ Int32.toInt (aBC k) <= 65535) -> (0 <= Int32.toInt zV /\ Int32.toInt zV <= 16) -> post r aAY aBC zV aAV) (hK33 : ∀ (x1 : Int32) (x2 : Int32) (x3 : Int32) (x4 : Int32) (oY : Int32) (rD : Nat -> Int32) (qB : Int32) (jK : Nat -> Int32), (0 <= Int32.toInt x1 /\ Int32.toInt x1 <= 8) -> (0 <= Int32.toInt x2 /\ Int32.toInt x2 <= 255) -> (1 <= Int32.toInt x4 /\ Int32.toInt x4 <= 256) -> (0 <= Int32.toInt oY /\ Int32.toInt oY <= 65535) -> (∀ k : Nat, 0 <= Int32.toInt (rD k) /\ Int32.toInt (rD k) <= 65535) -> (0 <= Int32.toInt qB /\ Int32.toInt qB <= 16) -> (256 - Int32.toInt x4 < n33) -> K33 x1 x2 x3 x4 oY rD qB jK) (x1 x4 x5 oY : Int32) (rD : Nat -> Int32) (qB : Int32) (jK : Nat -> Int32) (aBK : 0 <= Int32.toInt x1 /\ Int32.toInt x1 <= 8) (aDO : 1 <= Int32.toInt x4 /\ Int32.toInt x4 <= 255) (aAE : 0 <= Int32.toInt oY /\ Int32.toInt oY <= 65535) (zR : ∀ k : Nat, 0 <= Int32.toInt (rD k) /\ Int32.toInt (rD k) <= 65535) (aAK : 0 <= Int32.toInt qB /\ Int32.toInt qB <= 16) (hn33 : 256 - Int32.toInt x4 <= n33) : ws_X9_birds_86 post K33 dN bD uU gF pL qF mX oE dY jE eW eY dU gJ jG x1 x4 x5 oY rD qB jK := by
  have f4 := aAT x5
  exact ts_X9_birds_92 dN bD uU gF pL qF mX oE dY jE eW eY dU gJ jG xL wX zK hpost hK33 x1 x4 x5 x4 oY rD qB jK aBK (by omega) aDO aAE zR aAK hn33
set_option maxHeartbeats 8000000 in
set_option maxRecDepth 200000 in
theorem ts_X9_birds_33 {post : Int32 -> Int32 -> (Nat -> Int32) -> Int32 -> (Nat -> Int32) -> Prop} {next : Int32 -> Int32 -> Int32 -> Int32 -> Int32 -> (Nat -> Int32) -> Int32 -> (Nat -> Int32) -> Prop} {n33 : Int} (dN bD : Int32) (uU gF pL qF mX oE dY : Nat -> Int32) (jE eW eY dU gJ jG : Int32) (xL : 0 <= Int32.toInt dN /\ Int32.toInt dN <= 16) (wX : 0 <= Int32.toInt bD /\ Int32.toInt bD <= 8) (zK : 0 <= Int32.toInt jG /\ Int32.toInt jG <= 9) (hpost : ∀ (r : Int32) (aAY : Int32) (aBC : Nat -> Int32) (zV : Int32) (aAV : Nat -> Int32), (0 <= Int32.toInt aAY /\ Int32.toInt aAY <= 65535) -> (∀ k : Nat, 0 <= Int32.toInt (aBC k) /\ Int32.toInt (aBC k) <= 65535) -> (0 <= Int32.toInt zV /\ Int32.toInt zV <= 16) -> post r aAY aBC zV aAV) (hKn : ∀ (x1 : Int32) (x2 : Int32) (x3 : Int32) (x4 : Int32) (oY : Int32) (rD : Nat -> Int32) (qB : Int32) (jK : Nat -> Int32), (0 <= Int32.toInt x1 /\ Int32.toInt x1 <= 8) -> (0 <= Int32.toInt x2 /\ Int32.toInt x2 <= 255) -> (1 <= Int32.toInt x4 /\ Int32.toInt x4 <= 256) -> (0 <= Int32.toInt oY /\ Int32.toInt oY <= 65535) -> (∀ k : Nat, 0 <= Int32.toInt (rD k) /\ Int32.toInt (rD k) <= 65535) -> (0 <= Int32.toInt qB /\ Int32.toInt qB <= 16) -> (256 - Int32.toInt x4 < n33) -> next x1 x2 x3 x4 oY rD qB jK) (x1 x2 x3 x4 oY : Int32) (rD : Nat -> Int32) (qB : Int32) (jK : Nat -> Int32) (aBK : 0 <= Int32.toInt x1 /\ Int32.toInt x1 <= 8) (aBN : 0 <= Int32.toInt x2 /\ Int32.toInt x2 <= 255) (aDO : 1 <= Int32.toInt x4 /\ Int32.toInt x4 <= 256) (aAE : 0 <= Int32.toInt oY /\ Int32.toInt oY <= 65535) (zR : ∀ k : Nat, 0 <= Int32.toInt (rD k) /\ Int32.toInt (rD k) <= 65535) (aAK : 0 <= Int32.toInt qB /\ Int32.toInt qB <= 16) (hn33 : 256 - Int32.toInt x4 <= n33) : ws_X9_birds_33 post next dN bD uU gF pL qF mX oE dY jE eW eY dU gJ jG x1 x2 x3 x4 oY rD qB jK := by
  have l0 := aE0
  have l1 := aEc
  have l2 := aKH
  have l3 := li_16
  have l4 := aJ8
  have l5 := li_63
  have l6 := aJ9
  intro v5 ev5
  have f6 := aDv 8 256 bD (by decide) (by omega)
  have hv5 := congrArg Int32.toInt ev5
  have f8 : Int32.toInt (v5 - 1) = Int32.toInt v5 - Int32.toInt (1 : Int32) := aCA _ _ (by omega)
  refine And.intro (fun c7 => ?_) (fun c7 => ?_)
  · skip
    have c7 := (aAd _ _).mp c7
    refine aUy aBN zR wX (fun r9 h_r9 => ?_)
    intro v10 ev10
    have f12 := aBx oY (r9 ^^^ (-1)) (by omega)
    have hv10 := congrArg Int32.toInt ev10
    refine And.intro (fun h9 => absurd h9 (by decide)) (fun _ => ?_)
    refine And.intro (aBZ (by omega)) ?_
    intro v13 ev13
    have f14 : Int32.toInt (0 + 1) = Int32.toInt (0 : Int32) + Int32.toInt (1 : Int32) := aAD _ _ (by omega)
    rw [<- ev13] at f14
    refine And.intro (fun c15 => ?_) (fun c15 => ?_)
    · skip
      have c15 := (aAO _ _).mp c15
      exfalso; omega
    · skip
      have c15 := mt (aAO _ _).mpr c15
      refine And.intro (aBZ (by omega)) ?_
      intro v16 ev16
      have f17 : Int32.toInt (v13 + 1) = Int32.toInt v13 + Int32.toInt (1 : Int32) := aAD _ _ (by omega)
      rw [<- ev16] at f17
      exact hpost _ _ _ _ _ aAE zR (by omega)
  · skip
    have c7 := mt (aAd _ _).mpr c7
    intro v18 ev18
    intro v19 ev19
    have f21 := aAQ v18 1431655765 (by omega)
    have f20 : Int32.toInt (x4 - (v18 &&& 1431655765)) = Int32.toInt x4 - Int32.toInt (v18 &&& 1431655765) := aCA _ _ (by omega)
    rw [<- ev19] at f20
    intro v22 ev22
    have f23 := aAQ v19 858993459 (by omega)
    have hv22 := congrArg Int32.toInt ev22
    intro v24 ev24
    intro v25 ev25
    have f27 := aAQ v24 858993459 (by omega)
    have f26 : Int32.toInt (v22 + (v24 &&& 858993459)) = Int32.toInt v22 + Int32.toInt (v24 &&& 858993459) := aAD _ _ (by omega)
    rw [<- ev25] at f26
    intro v28 ev28
    have hv28 := congrArg Int32.toInt ev28
    intro v30 ev30
    have f31 := aAQ v28 252645135 (by omega)
    have hv30 := congrArg Int32.toInt ev30
    intro v32 ev32
    have hv32 := congrArg Int32.toInt ev32
    intro v34 ev34
    have hv34 := congrArg Int32.toInt ev34
    have f37 := aAQ v34 63 (by omega)
    refine And.intro (fun c36 => ?_) (fun c36 => ?_)
    · skip
      have c36 := (aAd _ _).mp c36
      have f38 := aAT x3
      exact ts_X9_birds_92 dN bD uU gF pL qF mX oE dY jE eW eY dU gJ jG xL wX zK hpost hKn x1 x2 x3 x4 oY rD qB jK aBK aBN (by omega) aAE zR aAK hn33
    · skip
      have c36 := mt (aAd _ _).mpr c36
      refine aUy (by omega) zR wX (fun r39 h_r39 => ?_)
      intro v40 ev40
      have f42 := aBx oY (r39 ^^^ (-1)) (by omega)
      have hv40 := congrArg Int32.toInt ev40
      refine aUx xL (fun r43 => ?_)
      have f45 := aAT r43
      have f46 := aAT x3
      refine And.intro (fun c44 => ?_) (fun c44 => ?_)
      · skip
        have c44 := (aAd _ _).mp c44
        exact ts_X9_birds_86 dN bD uU gF pL qF mX oE dY jE eW eY dU gJ jG xL wX zK hpost hKn x1 x4 r43 oY rD qB jK aBK (by omega) aAE zR aAK hn33
      · skip
        have c44 := mt (aAd _ _).mpr c44
        refine And.intro (fun c47 => ?_) (fun c47 => ?_)
        · skip
          have c47 := mt (zJ _ _).mpr c47
          exact ts_X9_birds_92 dN bD uU gF pL qF mX oE dY jE eW eY dU gJ jG xL wX zK hpost hKn x1 x2 x3 x4 oY rD qB jK aBK aBN (by omega) aAE zR aAK hn33
        · skip
          have c47 := (zJ _ _).mp c47
          refine t_X9_isFewer (by omega) aBN (fun r48 h_r48 => ?_)
          refine And.intro (fun c49 => ?_) (fun c49 => ?_)
          · skip
            have c49 := (zJ _ _).mp c49
            exact ts_X9_birds_92 dN bD uU gF pL qF mX oE dY jE eW eY dU gJ jG xL wX zK hpost hKn x1 x2 x3 x4 oY rD qB jK aBK aBN (by omega) aAE zR aAK hn33
          · skip
            have c49 := mt (zJ _ _).mpr c49
            exact ts_X9_birds_86 dN bD uU gF pL qF mX oE dY jE eW eY dU gJ jG xL wX zK hpost hKn x1 x4 r43 oY rD qB jK aBK (by omega) aAE zR aAK hn33
set_option maxHeartbeats 8000000 in
set_option maxRecDepth 200000 in
theorem tb_X9_birds_33 {post : Int32 -> Int32 -> (Nat -> Int32) -> Int32 -> (Nat -> Int32) -> Prop} (dN bD : Int32) (uU gF pL qF mX oE dY : Nat -> Int32) (jE eW eY dU gJ jG : Int32) (xL : 0 <= Int32.toInt dN /\ Int32.toInt dN <= 16) (wX : 0 <= Int32.toInt bD /\ Int32.toInt bD <= 8) (zK : 0 <= Int32.toInt jG /\ Int32.toInt jG <= 9) (hpost : ∀ (r : Int32) (aAY : Int32) (aBC : Nat -> Int32) (zV : Int32) (aAV : Nat -> Int32), (0 <= Int32.toInt aAY /\ Int32.toInt aAY <= 65535) -> (∀ k : Nat, 0 <= Int32.toInt (aBC k) /\ Int32.toInt (aBC k) <= 65535) -> (0 <= Int32.toInt zV /\ Int32.toInt zV <= 16) -> post r aAY aBC zV aAV) : ∀ (n : Nat) (x1 x2 x3 x4 oY : Int32) (rD : Nat -> Int32) (qB : Int32) (jK : Nat -> Int32), (0 <= Int32.toInt x1 /\ Int32.toInt x1 <= 8) -> (0 <= Int32.toInt x2 /\ Int32.toInt x2 <= 255) -> (1 <= Int32.toInt x4 /\ Int32.toInt x4 <= 256) -> (0 <= Int32.toInt oY /\ Int32.toInt oY <= 65535) -> (∀ k : Nat, 0 <= Int32.toInt (rD k) /\ Int32.toInt (rD k) <= 65535) -> (0 <= Int32.toInt qB /\ Int32.toInt qB <= 16) -> (256 - Int32.toInt x4 < (n : Int)) -> wb_X9_birds_33 post dN bD uU gF pL qF mX oE dY jE eW eY dU gJ jG n x1 x2 x3 x4 oY rD qB jK := by
  intro n
  induction n with
  | zero =>
    intro x1 x2 x3 x4 oY rD qB jK aBK aBN aDO aAE zR aAK hm
    exfalso; omega
  | succ n ih =>
    intro x1 x2 x3 x4 oY rD qB jK aBK aBN aDO aAE zR aAK hm
    exact ts_X9_birds_33 dN bD uU gF pL qF mX oE dY jE eW eY dU gJ jG xL wX zK hpost ih x1 x2 x3 x4 oY rD qB jK aBK aBN aDO aAE zR aAK (by omega)
set_option maxHeartbeats 8000000 in
set_option maxRecDepth 200000 in
theorem t_X9_birds {post : Int32 -> Int32 -> (Nat -> Int32) -> Int32 -> (Nat -> Int32) -> Prop} {p0 oY : Int32} {rD : Nat -> Int32} {dN bD : Int32} {uU gF pL qF mX oE dY : Nat -> Int32} {jE eW eY dU gJ jG qB : Int32} {jK : Nat -> Int32} (aAE : 0 <= Int32.toInt oY /\ Int32.toInt oY <= 65535) (zR : ∀ k : Nat, 0 <= Int32.toInt (rD k) /\ Int32.toInt (rD k) <= 65535) (xL : 0 <= Int32.toInt dN /\ Int32.toInt dN <= 16) (wX : 0 <= Int32.toInt bD /\ Int32.toInt bD <= 8) (zK : 0 <= Int32.toInt jG /\ Int32.toInt jG <= 9) (aAK : 0 <= Int32.toInt qB /\ Int32.toInt qB <= 16) (hpost : ∀ (r : Int32) (aAY : Int32) (aBC : Nat -> Int32) (zV : Int32) (aAV : Nat -> Int32), (0 <= Int32.toInt aAY /\ Int32.toInt aAY <= 65535) -> (∀ k : Nat, 0 <= Int32.toInt (aBC k) /\ Int32.toInt (aBC k) <= 65535) -> (0 <= Int32.toInt zV /\ Int32.toInt zV <= 16) -> post r aAY aBC zV aAV) : wp_X9_birds post p0 oY rD dN bD uU gF pL qF mX oE dY jE eW eY dU gJ jG qB jK := by
  have l0 := aE0
  have l1 := aEc
  have l2 := li_8
  have f51 := aAT p0
  refine And.intro (fun c50 => ?_) (fun c50 => ?_)
  · skip
    have c50 := (aAd _ _).mp c50
    exact hpost _ _ _ _ _ aAE zR aAK
  · skip
    have c50 := mt (aAd _ _).mpr c50
    refine And.intro (fun c52 => ?_) (fun c52 => ?_)
    · skip
      have c52 := (aAO _ _).mp c52
      refine aVe zK aAE zR xL wX (fun pl_wanted_53 pl_near_54 h_pl_wanted_53 h_pl_near_54 => ?_)
      refine aUy (by omega) h_pl_near_54 wX (fun r55 h_r55 => ?_)
      intro v56 ev56
      have f58 := aBx pl_wanted_53 (r55 ^^^ (-1)) (by omega)
      have hv56 := congrArg Int32.toInt ev56
      refine aUx xL (fun r59 => ?_)
      have f60 := aAT r59
      exact ⟨257, tb_X9_birds_33 dN bD uU gF pL qF mX oE dY jE eW eY dU gJ jG xL wX zK hpost _ p0 0 r59 1 pl_wanted_53 pl_near_54 qB jK (by omega) (by omega) (by omega) h_pl_wanted_53 h_pl_near_54 aAK (by omega)⟩
    · skip
      have c52 := mt (aAO _ _).mpr c52
      exact hpost _ _ _ _ _ aAE zR aAK
set_option maxHeartbeats 8000000 in
set_option maxRecDepth 200000 in
theorem ts_X9_next_80 {post : Int32 -> Int32 -> (Nat -> Int32) -> Int32 -> (Nat -> Int32) -> Prop} {K28 : Int32 -> Int32 -> Int32 -> Int32 -> Int32 -> (Nat -> Int32) -> Int32 -> (Nat -> Int32) -> Prop} {n28 : Int} (dN bD : Int32) (uU gF pL qF mX oE dY : Nat -> Int32) (jE eW eY dU gJ jG : Int32) (xL : 0 <= Int32.toInt dN /\ Int32.toInt dN <= 16) (wX : 0 <= Int32.toInt bD /\ Int32.toInt bD <= 8) (zK : 0 <= Int32.toInt jG /\ Int32.toInt jG <= 9) (hpost : ∀ (r : Int32) (aAY : Int32) (aBC : Nat -> Int32) (zV : Int32) (aAV : Nat -> Int32), (-2 <= Int32.toInt r /\ Int32.toInt r <= 7) -> (0 <= Int32.toInt aAY /\ Int32.toInt aAY <= 65535) -> (∀ k : Nat, 0 <= Int32.toInt (aBC k) /\ Int32.toInt (aBC k) <= 65535) -> (0 <= Int32.toInt zV /\ Int32.toInt zV <= 16) -> post r aAY aBC zV aAV) (hK28 : ∀ (x1 : Int32) (x2 : Int32) (x3 : Int32) (x4 : Int32) (oY : Int32) (rD : Nat -> Int32) (qB : Int32) (jK : Nat -> Int32), (0 <= Int32.toInt x1 /\ Int32.toInt x1 <= 255) -> (-2 <= Int32.toInt x2 /\ Int32.toInt x2 <= 7) -> (0 <= Int32.toInt x4 /\ Int32.toInt x4 <= 8) -> (0 <= Int32.toInt oY /\ Int32.toInt oY <= 65535) -> (∀ k : Nat, 0 <= Int32.toInt (rD k) /\ Int32.toInt (rD k) <= 65535) -> (0 <= Int32.toInt qB /\ Int32.toInt qB <= 16) -> (8 - Int32.toInt x4 < n28) -> K28 x1 x2 x3 x4 oY rD qB jK) (x1 x2 x3 x4 oY : Int32) (rD : Nat -> Int32) (qB : Int32) (jK : Nat -> Int32) (aBK : 0 <= Int32.toInt x1 /\ Int32.toInt x1 <= 255) (aBN : -2 <= Int32.toInt x2 /\ Int32.toInt x2 <= 7) (aDO : 0 <= Int32.toInt x4 /\ Int32.toInt x4 <= 7) (aAE : 0 <= Int32.toInt oY /\ Int32.toInt oY <= 65535) (zR : ∀ k : Nat, 0 <= Int32.toInt (rD k) /\ Int32.toInt (rD k) <= 65535) (aAK : 0 <= Int32.toInt qB /\ Int32.toInt qB <= 16) (hn28 : 8 - Int32.toInt x4 <= n28) : ws_X9_next_80 post K28 dN bD uU gF pL qF mX oE dY jE eW eY dU gJ jG x1 x2 x3 x4 oY rD qB jK := by
  have l0 := aEc
  intro v1 ev1
  have f2 : Int32.toInt (x4 + 1) = Int32.toInt x4 + Int32.toInt (1 : Int32) := aAD _ _ (by omega)
  rw [<- ev1] at f2
  have f3 := aAT x3
  exact hK28 x1 x2 x3 v1 oY rD qB jK aBK aBN (by omega) aAE zR aAK (by omega)
set_option maxHeartbeats 8000000 in
set_option maxRecDepth 200000 in
theorem ts_X9_next_74 {post : Int32 -> Int32 -> (Nat -> Int32) -> Int32 -> (Nat -> Int32) -> Prop} {K28 : Int32 -> Int32 -> Int32 -> Int32 -> Int32 -> (Nat -> Int32) -> Int32 -> (Nat -> Int32) -> Prop} {n28 : Int} (dN bD : Int32) (uU gF pL qF mX oE dY : Nat -> Int32) (jE eW eY dU gJ jG : Int32) (xL : 0 <= Int32.toInt dN /\ Int32.toInt dN <= 16) (wX : 0 <= Int32.toInt bD /\ Int32.toInt bD <= 8) (zK : 0 <= Int32.toInt jG /\ Int32.toInt jG <= 9) (hpost : ∀ (r : Int32) (aAY : Int32) (aBC : Nat -> Int32) (zV : Int32) (aAV : Nat -> Int32), (-2 <= Int32.toInt r /\ Int32.toInt r <= 7) -> (0 <= Int32.toInt aAY /\ Int32.toInt aAY <= 65535) -> (∀ k : Nat, 0 <= Int32.toInt (aBC k) /\ Int32.toInt (aBC k) <= 65535) -> (0 <= Int32.toInt zV /\ Int32.toInt zV <= 16) -> post r aAY aBC zV aAV) (hK28 : ∀ (x1 : Int32) (x2 : Int32) (x3 : Int32) (x4 : Int32) (oY : Int32) (rD : Nat -> Int32) (qB : Int32) (jK : Nat -> Int32), (0 <= Int32.toInt x1 /\ Int32.toInt x1 <= 255) -> (-2 <= Int32.toInt x2 /\ Int32.toInt x2 <= 7) -> (0 <= Int32.toInt x4 /\ Int32.toInt x4 <= 8) -> (0 <= Int32.toInt oY /\ Int32.toInt oY <= 65535) -> (∀ k : Nat, 0 <= Int32.toInt (rD k) /\ Int32.toInt (rD k) <= 65535) -> (0 <= Int32.toInt qB /\ Int32.toInt qB <= 16) -> (8 - Int32.toInt x4 < n28) -> K28 x1 x2 x3 x4 oY rD qB jK) (x1 x4 x5 oY : Int32) (rD : Nat -> Int32) (qB : Int32) (jK : Nat -> Int32) (aBK : 0 <= Int32.toInt x1 /\ Int32.toInt x1 <= 255) (aDO : 0 <= Int32.toInt x4 /\ Int32.toInt x4 <= 7) (aAE : 0 <= Int32.toInt oY /\ Int32.toInt oY <= 65535) (zR : ∀ k : Nat, 0 <= Int32.toInt (rD k) /\ Int32.toInt (rD k) <= 65535) (aAK : 0 <= Int32.toInt qB /\ Int32.toInt qB <= 16) (hn28 : 8 - Int32.toInt x4 <= n28) : ws_X9_next_74 post K28 dN bD uU gF pL qF mX oE dY jE eW eY dU gJ jG x1 x4 x5 oY rD qB jK := by
  have f4 := aAT x5
  exact ts_X9_next_80 dN bD uU gF pL qF mX oE dY jE eW eY dU gJ jG xL wX zK hpost hK28 x1 x4 x5 x4 oY rD qB jK aBK (by omega) aDO aAE zR aAK hn28
set_option maxHeartbeats 8000000 in
set_option maxRecDepth 200000 in
theorem ts_X9_next_28 {post : Int32 -> Int32 -> (Nat -> Int32) -> Int32 -> (Nat -> Int32) -> Prop} {next : Int32 -> Int32 -> Int32 -> Int32 -> Int32 -> (Nat -> Int32) -> Int32 -> (Nat -> Int32) -> Prop} {n28 : Int} (dN bD : Int32) (uU gF pL qF mX oE dY : Nat -> Int32) (jE eW eY dU gJ jG : Int32) (xL : 0 <= Int32.toInt dN /\ Int32.toInt dN <= 16) (wX : 0 <= Int32.toInt bD /\ Int32.toInt bD <= 8) (zK : 0 <= Int32.toInt jG /\ Int32.toInt jG <= 9) (hpost : ∀ (r : Int32) (aAY : Int32) (aBC : Nat -> Int32) (zV : Int32) (aAV : Nat -> Int32), (-2 <= Int32.toInt r /\ Int32.toInt r <= 7) -> (0 <= Int32.toInt aAY /\ Int32.toInt aAY <= 65535) -> (∀ k : Nat, 0 <= Int32.toInt (aBC k) /\ Int32.toInt (aBC k) <= 65535) -> (0 <= Int32.toInt zV /\ Int32.toInt zV <= 16) -> post r aAY aBC zV aAV) (hKn : ∀ (x1 : Int32) (x2 : Int32) (x3 : Int32) (x4 : Int32) (oY : Int32) (rD : Nat -> Int32) (qB : Int32) (jK : Nat -> Int32), (0 <= Int32.toInt x1 /\ Int32.toInt x1 <= 255) -> (-2 <= Int32.toInt x2 /\ Int32.toInt x2 <= 7) -> (0 <= Int32.toInt x4 /\ Int32.toInt x4 <= 8) -> (0 <= Int32.toInt oY /\ Int32.toInt oY <= 65535) -> (∀ k : Nat, 0 <= Int32.toInt (rD k) /\ Int32.toInt (rD k) <= 65535) -> (0 <= Int32.toInt qB /\ Int32.toInt qB <= 16) -> (8 - Int32.toInt x4 < n28) -> next x1 x2 x3 x4 oY rD qB jK) (x1 x2 x3 x4 oY : Int32) (rD : Nat -> Int32) (qB : Int32) (jK : Nat -> Int32) (aBK : 0 <= Int32.toInt x1 /\ Int32.toInt x1 <= 255) (aBN : -2 <= Int32.toInt x2 /\ Int32.toInt x2 <= 7) (aDO : 0 <= Int32.toInt x4 /\ Int32.toInt x4 <= 8) (aAE : 0 <= Int32.toInt oY /\ Int32.toInt oY <= 65535) (zR : ∀ k : Nat, 0 <= Int32.toInt (rD k) /\ Int32.toInt (rD k) <= 65535) (aAK : 0 <= Int32.toInt qB /\ Int32.toInt qB <= 16) (hn28 : 8 - Int32.toInt x4 <= n28) : ws_X9_next_28 post next dN bD uU gF pL qF mX oE dY jE eW eY dU gJ jG x1 x2 x3 x4 oY rD qB jK := by
  have l0 := aE0
  have l1 := aEc
  have l2 := li_16
  refine And.intro (fun c5 => ?_) (fun c5 => ?_)
  · skip
    have c5 := (aAO _ _).mp c5
    refine And.intro (fun c6 => ?_) (fun c6 => ?_)
    · skip
      have c6 := (aAd _ _).mp c6
      exact hpost _ _ _ _ _ aBN aAE zR aAK
    · skip
      have c6 := mt (aAd _ _).mpr c6
      refine aUy aBK zR wX (fun r7 h_r7 => ?_)
      intro v8 ev8
      have f10 := aBx oY (r7 ^^^ (-1)) (by omega)
      have hv8 := congrArg Int32.toInt ev8
      refine aUx xL (fun r11 => ?_)
      refine And.intro (fun h9 => absurd h9 (by decide)) (fun _ => ?_)
      refine And.intro (aBZ (by omega)) ?_
      intro v12 ev12
      have f13 : Int32.toInt (0 + 1) = Int32.toInt (0 : Int32) + Int32.toInt (1 : Int32) := aAD _ _ (by omega)
      rw [<- ev12] at f13
      refine And.intro (fun c14 => ?_) (fun c14 => ?_)
      · skip
        have c14 := (aAO _ _).mp c14
        exfalso; omega
      · skip
        have c14 := mt (aAO _ _).mpr c14
        refine And.intro (aBZ (by omega)) ?_
        intro v15 ev15
        have f16 : Int32.toInt (v12 + 1) = Int32.toInt v12 + Int32.toInt (1 : Int32) := aAD _ _ (by omega)
        rw [<- ev15] at f16
        exact hpost _ _ _ _ _ aBN aAE zR (by omega)
  · skip
    have c5 := mt (aAO _ _).mpr c5
    intro v17 ev17
    have f18 := aRJ x1 x4 (by omega)
    have hv17 := congrArg Int32.toInt ev17
    have f20 := aAQ v17 1 (by omega)
    have f21 := aBx v17 1 (by omega)
    refine And.intro (fun c19 => ?_) (fun c19 => ?_)
    · skip
      have c19 := mt (zJ _ _).mpr c19
      have f22 := aAT x3
      exact ts_X9_next_80 dN bD uU gF pL qF mX oE dY jE eW eY dU gJ jG xL wX zK hpost hKn x1 x2 x3 x4 oY rD qB jK aBK aBN (by omega) aAE zR aAK hn28
    · skip
      have c19 := (zJ _ _).mp c19
      intro v23 ev23
      have f25 := aDv 7 128 x4 (by decide) (by omega)
      have f24 := ti_or 8 256 x1 (1 <<< (x4 &&& 31)) (by decide) (by omega) (by omega)
      have hv23 := congrArg Int32.toInt ev23
      refine aUy (by omega) zR wX (fun r26 h_r26 => ?_)
      intro v27 ev27
      have f29 := aBx oY (r26 ^^^ (-1)) (by omega)
      have hv27 := congrArg Int32.toInt ev27
      refine aUx xL (fun r30 => ?_)
      refine And.intro (fun c31 => ?_) (fun c31 => ?_)
      · skip
        have c31 := (aAd _ _).mp c31
        have f32 := aAT r30
        exact ts_X9_next_74 dN bD uU gF pL qF mX oE dY jE eW eY dU gJ jG xL wX zK hpost hKn x1 x4 r30 oY rD qB jK aBK (by omega) aAE zR aAK hn28
      · skip
        have c31 := mt (aAd _ _).mpr c31
        have f34 := aAT r30
        have f35 := aAT x3
        refine And.intro (fun c33 => ?_) (fun c33 => ?_)
        · skip
          have c33 := (aAO _ _).mp c33
          exact ts_X9_next_80 dN bD uU gF pL qF mX oE dY jE eW eY dU gJ jG xL wX zK hpost hKn x1 x2 x3 x4 oY rD qB jK aBK aBN (by omega) aAE zR aAK hn28
        · skip
          have c33 := mt (aAO _ _).mpr c33
          exact ts_X9_next_74 dN bD uU gF pL qF mX oE dY jE eW eY dU gJ jG xL wX zK hpost hKn x1 x4 r30 oY rD qB jK aBK (by omega) aAE zR aAK hn28
set_option maxHeartbeats 8000000 in
set_option maxRecDepth 200000 in
theorem tb_X9_next_28 {post : Int32 -> Int32 -> (Nat -> Int32) -> Int32 -> (Nat -> Int32) -> Prop} (dN bD : Int32) (uU gF pL qF mX oE dY : Nat -> Int32) (jE eW eY dU gJ jG : Int32) (xL : 0 <= Int32.toInt dN /\ Int32.toInt dN <= 16) (wX : 0 <= Int32.toInt bD /\ Int32.toInt bD <= 8) (zK : 0 <= Int32.toInt jG /\ Int32.toInt jG <= 9) (hpost : ∀ (r : Int32) (aAY : Int32) (aBC : Nat -> Int32) (zV : Int32) (aAV : Nat -> Int32), (-2 <= Int32.toInt r /\ Int32.toInt r <= 7) -> (0 <= Int32.toInt aAY /\ Int32.toInt aAY <= 65535) -> (∀ k : Nat, 0 <= Int32.toInt (aBC k) /\ Int32.toInt (aBC k) <= 65535) -> (0 <= Int32.toInt zV /\ Int32.toInt zV <= 16) -> post r aAY aBC zV aAV) : ∀ (n : Nat) (x1 x2 x3 x4 oY : Int32) (rD : Nat -> Int32) (qB : Int32) (jK : Nat -> Int32), (0 <= Int32.toInt x1 /\ Int32.toInt x1 <= 255) -> (-2 <= Int32.toInt x2 /\ Int32.toInt x2 <= 7) -> (0 <= Int32.toInt x4 /\ Int32.toInt x4 <= 8) -> (0 <= Int32.toInt oY /\ Int32.toInt oY <= 65535) -> (∀ k : Nat, 0 <= Int32.toInt (rD k) /\ Int32.toInt (rD k) <= 65535) -> (0 <= Int32.toInt qB /\ Int32.toInt qB <= 16) -> (8 - Int32.toInt x4 < (n : Int)) -> wb_X9_next_28 post dN bD uU gF pL qF mX oE dY jE eW eY dU gJ jG n x1 x2 x3 x4 oY rD qB jK := by
  intro n
  induction n with
  | zero =>
    intro x1 x2 x3 x4 oY rD qB jK aBK aBN aDO aAE zR aAK hm
    exfalso; omega
  | succ n ih =>
    intro x1 x2 x3 x4 oY rD qB jK aBK aBN aDO aAE zR aAK hm
    exact ts_X9_next_28 dN bD uU gF pL qF mX oE dY jE eW eY dU gJ jG xL wX zK hpost ih x1 x2 x3 x4 oY rD qB jK aBK aBN aDO aAE zR aAK (by omega)
set_option maxHeartbeats 8000000 in
set_option maxRecDepth 200000 in
theorem t_X9_next {post : Int32 -> Int32 -> (Nat -> Int32) -> Int32 -> (Nat -> Int32) -> Prop} {p0 oY : Int32} {rD : Nat -> Int32} {dN bD : Int32} {uU gF pL qF mX oE dY : Nat -> Int32} {jE eW eY dU gJ jG qB : Int32} {jK : Nat -> Int32} (aAE : 0 <= Int32.toInt oY /\ Int32.toInt oY <= 65535) (zR : ∀ k : Nat, 0 <= Int32.toInt (rD k) /\ Int32.toInt (rD k) <= 65535) (xL : 0 <= Int32.toInt dN /\ Int32.toInt dN <= 16) (wX : 0 <= Int32.toInt bD /\ Int32.toInt bD <= 8) (zK : 0 <= Int32.toInt jG /\ Int32.toInt jG <= 9) (aAK : 0 <= Int32.toInt qB /\ Int32.toInt qB <= 16) (hpost : ∀ (r : Int32) (aAY : Int32) (aBC : Nat -> Int32) (zV : Int32) (aAV : Nat -> Int32), (-2 <= Int32.toInt r /\ Int32.toInt r <= 7) -> (0 <= Int32.toInt aAY /\ Int32.toInt aAY <= 65535) -> (∀ k : Nat, 0 <= Int32.toInt (aBC k) /\ Int32.toInt (aBC k) <= 65535) -> (0 <= Int32.toInt zV /\ Int32.toInt zV <= 16) -> post r aAY aBC zV aAV) : wp_X9_next post p0 oY rD dN bD uU gF pL qF mX oE dY jE eW eY dU gJ jG qB jK := by
  have l0 := aI2
  have l1 := li_m2
  have l2 := aE0
  have l3 := aEc
  intro v36 ev36
  have f37 := aDv 8 256 bD (by decide) (by omega)
  have hv36 := congrArg Int32.toInt ev36
  refine And.intro (fun c38 => ?_) (fun c38 => ?_)
  · skip
    have c38 := mt (zJ _ _).mpr c38
    refine And.intro (fun h9 => absurd h9 (by decide)) (fun _ => ?_)
    exact hpost _ _ _ _ _ (by omega) aAE zR aAK
  · skip
    have c38Z := c38
    have c38 := (zJ _ _).mp c38
    have f40 : Int32.toInt (v36 - 1) = Int32.toInt v36 - Int32.toInt (1 : Int32) := aCA _ _ (by omega)
    have s41 := ti_subset p0 (v36 - 1) (c38Z) (by omega)
    refine And.intro (fun _ => ?_) (fun h9 => absurd h9 (by decide))
    refine aVe zK aAE zR xL wX (fun pl_wanted_42 pl_near_43 h_pl_wanted_42 h_pl_near_43 => ?_)
    exact ⟨10, tb_X9_next_28 dN bD uU gF pL qF mX oE dY jE eW eY dU gJ jG xL wX zK hpost _ p0 (-2) 0 0 pl_wanted_42 pl_near_43 qB jK (by omega) (by omega) (by omega) h_pl_wanted_42 h_pl_near_43 aAK (by omega)⟩
set_option maxHeartbeats 8000000 in
set_option maxRecDepth 200000 in
theorem ts_X3_waySeconds_67 {post : Int32 -> Prop} {K21 : Int32 -> Int32 -> Int32 -> Int32 -> Int32 -> Int32 -> Prop} {n21 : Int} (bD : Int32) (mX dY : Nat -> Int32) (wX : 0 <= Int32.toInt bD /\ Int32.toInt bD <= 8) (hpost : ∀ (r : Int32) , post r) (hK21 : ∀ (x1 : Int32) (x2 : Int32) (x3 : Int32) (x4 : Int32) (x5 : Int32) (x6 : Int32), (-1 <= Int32.toInt x1 /\ Int32.toInt x1 <= 7) -> (0 <= Int32.toInt x2 /\ Int32.toInt x2 <= 255) -> (1 <= Int32.toInt x3 /\ Int32.toInt x3 <= 63) -> (-2147483648 <= Int32.toInt x4 /\ Int32.toInt x4 <= 99) -> (0 <= Int32.toInt x5 /\ Int32.toInt x5 <= 2147483647) -> (0 <= Int32.toInt x6 /\ Int32.toInt x6 <= 8) -> (8 - Int32.toInt x6 < n21) -> K21 x1 x2 x3 x4 x5 x6) (x1 x2 x3 x4 x5 x6 : Int32) (aBK : -1 <= Int32.toInt x1 /\ Int32.toInt x1 <= 7) (aBN : 0 <= Int32.toInt x2 /\ Int32.toInt x2 <= 255) (aCH : 1 <= Int32.toInt x3 /\ Int32.toInt x3 <= 63) (aDO : -2147483648 <= Int32.toInt x4 /\ Int32.toInt x4 <= 99) (aF7 : 0 <= Int32.toInt x5 /\ Int32.toInt x5 <= 2147483647) (h_x6 : 0 <= Int32.toInt x6 /\ Int32.toInt x6 <= 7) (hn21 : 8 - Int32.toInt x6 <= n21) : ws_X3_waySeconds_67 post K21 bD mX dY x1 x2 x3 x4 x5 x6 := by
  have l0 := aEc
  intro v1 ev1
  have f2 : Int32.toInt (x6 + 1) = Int32.toInt x6 + Int32.toInt (1 : Int32) := aAD _ _ (by omega)
  rw [<- ev1] at f2
  have f3 := aAT x4
  have f4 := aAT x5
  exact hK21 x1 x2 x3 x4 x5 v1 aBK aBN aCH aDO aF7 (by omega) (by omega)
set_option maxHeartbeats 8000000 in
set_option maxRecDepth 200000 in
theorem ts_X3_waySeconds_117 {post : Int32 -> Prop} (bD : Int32) (mX dY : Nat -> Int32) (wX : 0 <= Int32.toInt bD /\ Int32.toInt bD <= 8) (hpost : ∀ (r : Int32) , post r) (x3 x6 : Int32) (aCH : 1 <= Int32.toInt x3 /\ Int32.toInt x3 <= 63) : ws_X3_waySeconds_117 post bD mX dY x3 x6 := by
  have l0 := li_3
  have l1 := li_9
  intro v5 ev5
  have f6 : Int32.toInt (9 * x3) = Int32.toInt x3 * 9 := ta_cmul _ _ (by decide) (by omega)
  rw [<- ev5] at f6
  intro v7 ev7
  have hv7 := congrArg Int32.toInt ev7
  exact hpost _ 
set_option maxHeartbeats 8000000 in
set_option maxRecDepth 200000 in
theorem ts_X3_waySeconds_21 {post : Int32 -> Prop} {next : Int32 -> Int32 -> Int32 -> Int32 -> Int32 -> Int32 -> Prop} {n21 : Int} (bD : Int32) (mX dY : Nat -> Int32) (wX : 0 <= Int32.toInt bD /\ Int32.toInt bD <= 8) (hpost : ∀ (r : Int32) , post r) (hKn : ∀ (x1 : Int32) (x2 : Int32) (x3 : Int32) (x4 : Int32) (x5 : Int32) (x6 : Int32), (-1 <= Int32.toInt x1 /\ Int32.toInt x1 <= 7) -> (0 <= Int32.toInt x2 /\ Int32.toInt x2 <= 255) -> (1 <= Int32.toInt x3 /\ Int32.toInt x3 <= 63) -> (-2147483648 <= Int32.toInt x4 /\ Int32.toInt x4 <= 99) -> (0 <= Int32.toInt x5 /\ Int32.toInt x5 <= 2147483647) -> (0 <= Int32.toInt x6 /\ Int32.toInt x6 <= 8) -> (8 - Int32.toInt x6 < n21) -> next x1 x2 x3 x4 x5 x6) (x1 x2 x3 x4 x5 x6 : Int32) (aBK : -1 <= Int32.toInt x1 /\ Int32.toInt x1 <= 7) (aBN : 0 <= Int32.toInt x2 /\ Int32.toInt x2 <= 255) (aCH : 1 <= Int32.toInt x3 /\ Int32.toInt x3 <= 63) (aDO : -2147483648 <= Int32.toInt x4 /\ Int32.toInt x4 <= 99) (aF7 : 0 <= Int32.toInt x5 /\ Int32.toInt x5 <= 2147483647) (h_x6 : 0 <= Int32.toInt x6 /\ Int32.toInt x6 <= 8) (hn21 : 8 - Int32.toInt x6 <= n21) : ws_X3_waySeconds_21 post next bD mX dY x1 x2 x3 x4 x5 x6 := by
  have l0 := aI2
  have l1 := aE0
  have l2 := aEc
  refine And.intro (fun c9 => ?_) (fun c9 => ?_)
  · skip
    have c9 := (aAO _ _).mp c9
    intro v10 ev10
    have hv10 := congrArg Int32.toInt ev10
    refine And.intro (fun c12 => ?_) (fun c12 => ?_)
    · skip
      have c12 := (zJ _ _).mp c12
      have f13 := aAT v10
      exact ts_X3_waySeconds_117 bD mX dY wX hpost x3 v10 aCH
    · skip
      have c12 := mt (zJ _ _).mpr c12
      refine And.intro (aBZ (by omega)) ?_
      intro v14 ev14
      have hv14 := congrArg Int32.toInt ev14
      intro v16 ev16
      have hv16 := congrArg Int32.toInt ev16
      intro v18 ev18
      have hv18 := congrArg Int32.toInt ev18
      refine And.intro (aBZ (by omega)) ?_
      intro v20 ev20
      have hv20 := congrArg Int32.toInt ev20
      intro v21 ev21
      have hv21 := congrArg Int32.toInt ev21
      intro v23 ev23
      have hv23 := congrArg Int32.toInt ev23
      intro v25 ev25
      have f27 := aAT v18
      have f28 := aAT v23
      have f26 := ti_min v18 v23
      have hv25 := congrArg Int32.toInt ev25
      intro v29 ev29
      have hv29 := congrArg Int32.toInt ev29
      have f31 := aAT v29
      exact ts_X3_waySeconds_117 bD mX dY wX hpost x3 v29 aCH
  · skip
    have c9 := mt (aAO _ _).mpr c9
    intro v32 ev32
    have f33 := aRJ x2 x6 (by omega)
    have hv32 := congrArg Int32.toInt ev32
    have f35 := aAQ v32 1 (by omega)
    have f36 := aBx v32 1 (by omega)
    refine And.intro (fun c34 => ?_) (fun c34 => ?_)
    · skip
      have c34 := (zJ _ _).mp c34
      have f37 := aAT x4
      have f38 := aAT x5
      exact ts_X3_waySeconds_67 bD mX dY wX hpost hKn x1 x2 x3 x4 x5 x6 aBK aBN aCH aDO aF7 (by omega) hn21
    · skip
      have c34 := mt (zJ _ _).mpr c34
      refine And.intro (aBZ (by omega)) ?_
      intro v39 ev39
      have hv39 := congrArg Int32.toInt ev39
      intro v41 ev41
      have f42 := aAT (if v39 < x4 then v39 else x4)
      have f44 := aAT x4
      have f45 := aAT v39
      have f43 := ti_min x4 v39
      have hv41 := congrArg Int32.toInt ev41
      refine And.intro (aBZ (by omega)) ?_
      intro v46 ev46
      have hv46 := congrArg Int32.toInt ev46
      intro v47 ev47
      have f48 := aAT (if x5 < v46 then v46 else x5)
      have f50 := aAT x5
      have f51 := aAT v46
      have f49 := ti_max x5 v46
      have hv47 := congrArg Int32.toInt ev47
      have f52 := aAT v41
      have f53 := aAT v47
      exact ts_X3_waySeconds_67 bD mX dY wX hpost hKn x1 x2 x3 v41 v47 x6 aBK aBN aCH (by omega) (by omega) (by omega) hn21
set_option maxHeartbeats 8000000 in
set_option maxRecDepth 200000 in
theorem tb_X3_waySeconds_21 {post : Int32 -> Prop} (bD : Int32) (mX dY : Nat -> Int32) (wX : 0 <= Int32.toInt bD /\ Int32.toInt bD <= 8) (hpost : ∀ (r : Int32) , post r) : ∀ (n : Nat) (x1 x2 x3 x4 x5 x6 : Int32), (-1 <= Int32.toInt x1 /\ Int32.toInt x1 <= 7) -> (0 <= Int32.toInt x2 /\ Int32.toInt x2 <= 255) -> (1 <= Int32.toInt x3 /\ Int32.toInt x3 <= 63) -> (-2147483648 <= Int32.toInt x4 /\ Int32.toInt x4 <= 99) -> (0 <= Int32.toInt x5 /\ Int32.toInt x5 <= 2147483647) -> (0 <= Int32.toInt x6 /\ Int32.toInt x6 <= 8) -> (8 - Int32.toInt x6 < (n : Int)) -> wb_X3_waySeconds_21 post bD mX dY n x1 x2 x3 x4 x5 x6 := by
  intro n
  induction n with
  | zero =>
    intro x1 x2 x3 x4 x5 x6 aBK aBN aCH aDO aF7 h_x6 hm
    exfalso; omega
  | succ n ih =>
    intro x1 x2 x3 x4 x5 x6 aBK aBN aCH aDO aF7 h_x6 hm
    exact ts_X3_waySeconds_21 bD mX dY wX hpost ih x1 x2 x3 x4 x5 x6 aBK aBN aCH aDO aF7 h_x6 (by omega)
set_option maxHeartbeats 8000000 in
set_option maxRecDepth 200000 in
theorem t_X3_waySeconds {post : Int32 -> Prop} {p0 p1 bD : Int32} {mX dY : Nat -> Int32} (h_p0 : -1 <= Int32.toInt p0 /\ Int32.toInt p0 <= 7) (h_p1 : 0 <= Int32.toInt p1 /\ Int32.toInt p1 <= 255) (wX : 0 <= Int32.toInt bD /\ Int32.toInt bD <= 8) (hpost : ∀ (r : Int32) , post r) : wp_X3_waySeconds post p0 p1 bD mX dY := by
  have l0 := aE0
  have l1 := aKH
  have l2 := aJ8
  have l3 := li_63
  have l4 := aJ9
  have l5 := li_99
  intro v54 ev54
  intro v55 ev55
  have f57 := aAQ v54 1431655765 (by omega)
  have f56 : Int32.toInt (p1 - (v54 &&& 1431655765)) = Int32.toInt p1 - Int32.toInt (v54 &&& 1431655765) := aCA _ _ (by omega)
  rw [<- ev55] at f56
  intro v58 ev58
  have f59 := aAQ v55 858993459 (by omega)
  have hv58 := congrArg Int32.toInt ev58
  intro v60 ev60
  intro v61 ev61
  have f63 := aAQ v60 858993459 (by omega)
  have f62 : Int32.toInt (v58 + (v60 &&& 858993459)) = Int32.toInt v58 + Int32.toInt (v60 &&& 858993459) := aAD _ _ (by omega)
  rw [<- ev61] at f62
  intro v64 ev64
  have hv64 := congrArg Int32.toInt ev64
  intro v66 ev66
  have f67 := aAQ v64 252645135 (by omega)
  have hv66 := congrArg Int32.toInt ev66
  intro v68 ev68
  have hv68 := congrArg Int32.toInt ev68
  intro v70 ev70
  have hv70 := congrArg Int32.toInt ev70
  have f73 := aAQ v70 63 (by omega)
  refine And.intro (fun c72 => ?_) (fun c72 => ?_)
  · skip
    have c72 := mt (zJ _ _).mpr c72
    exact ⟨10, tb_X3_waySeconds_21 bD mX dY wX hpost _ p0 p1 (v70 &&& 63) 99 0 0 h_p0 h_p1 (by omega) (by omega) (by omega) (by omega) (by omega)⟩
  · skip
    have c72 := (zJ _ _).mp c72
    exact hpost _ 
set_option maxHeartbeats 8000000 in
set_option maxRecDepth 200000 in
theorem ts_X3_firstOfWay_50 {post : Int32 -> Prop} {K3 : Int32 -> Int32 -> Int32 -> Int32 -> Prop} {n3 : Int} (bD : Int32) (mX dY : Nat -> Int32) (wX : 0 <= Int32.toInt bD /\ Int32.toInt bD <= 8) (hpost : ∀ (r : Int32) , (-1 <= Int32.toInt r /\ Int32.toInt r <= 7) -> post r) (hK3 : ∀ (x1 : Int32) (x2 : Int32) (x3 : Int32) (x4 : Int32), (-1 <= Int32.toInt x1 /\ Int32.toInt x1 <= 7) -> (1 <= Int32.toInt x2 /\ Int32.toInt x2 <= 255) -> (0 <= Int32.toInt x4 /\ Int32.toInt x4 <= 8) -> (8 - Int32.toInt x4 < n3) -> K3 x1 x2 x3 x4) (x1 x2 x3 x4 : Int32) (aBK : -1 <= Int32.toInt x1 /\ Int32.toInt x1 <= 7) (aBN : 1 <= Int32.toInt x2 /\ Int32.toInt x2 <= 255) (aDO : 0 <= Int32.toInt x4 /\ Int32.toInt x4 <= 7) (hn3 : 8 - Int32.toInt x4 <= n3) : ws_X3_firstOfWay_50 post K3 bD mX dY x1 x2 x3 x4 := by
  have l0 := aEc
  intro v1 ev1
  have f2 : Int32.toInt (x4 + 1) = Int32.toInt x4 + Int32.toInt (1 : Int32) := aAD _ _ (by omega)
  rw [<- ev1] at f2
  have f3 := aAT x3
  exact hK3 x1 x2 x3 v1 aBK aBN (by omega) (by omega)
set_option maxHeartbeats 8000000 in
set_option maxRecDepth 200000 in
theorem ts_X3_firstOfWay_3 {post : Int32 -> Prop} {next : Int32 -> Int32 -> Int32 -> Int32 -> Prop} {n3 : Int} (bD : Int32) (mX dY : Nat -> Int32) (wX : 0 <= Int32.toInt bD /\ Int32.toInt bD <= 8) (hpost : ∀ (r : Int32) , (-1 <= Int32.toInt r /\ Int32.toInt r <= 7) -> post r) (hKn : ∀ (x1 : Int32) (x2 : Int32) (x3 : Int32) (x4 : Int32), (-1 <= Int32.toInt x1 /\ Int32.toInt x1 <= 7) -> (1 <= Int32.toInt x2 /\ Int32.toInt x2 <= 255) -> (0 <= Int32.toInt x4 /\ Int32.toInt x4 <= 8) -> (8 - Int32.toInt x4 < n3) -> next x1 x2 x3 x4) (x1 x2 x3 x4 : Int32) (aBK : -1 <= Int32.toInt x1 /\ Int32.toInt x1 <= 7) (aBN : 1 <= Int32.toInt x2 /\ Int32.toInt x2 <= 255) (aDO : 0 <= Int32.toInt x4 /\ Int32.toInt x4 <= 8) (hn3 : 8 - Int32.toInt x4 <= n3) : ws_X3_firstOfWay_3 post next bD mX dY x1 x2 x3 x4 := by
  have l0 := aI2
  have l1 := aE0
  have l2 := aEc
  have l3 := li_3
  refine And.intro (fun c4 => ?_) (fun c4 => ?_)
  · skip
    have c4 := (aAO _ _).mp c4
    exact hpost _ (by omega)
  · skip
    have c4 := mt (aAO _ _).mpr c4
    intro v5 ev5
    have f6 := aRJ x2 x4 (by omega)
    have hv5 := congrArg Int32.toInt ev5
    have f8 := aAQ v5 1 (by omega)
    have f9 := aBx v5 1 (by omega)
    refine And.intro (fun c7 => ?_) (fun c7 => ?_)
    · skip
      have c7 := (zJ _ _).mp c7
      have f10 := aAT x3
      exact ts_X3_firstOfWay_50 bD mX dY wX hpost hKn x1 x2 x3 x4 aBK aBN (by omega) hn3
    · skip
      have c7 := mt (zJ _ _).mpr c7
      refine And.intro (fun c11 => ?_) (fun c11 => ?_)
      · skip
        have c11 := mt (zJ _ _).mpr c11
        intro v12 ev12
        have hv12 := congrArg Int32.toInt ev12
        refine And.intro (aBZ (by omega)) ?_
        intro v14 ev14
        have hv14 := congrArg Int32.toInt ev14
        refine And.intro (aBZ (by omega)) ?_
        intro v16 ev16
        have hv16 := congrArg Int32.toInt ev16
        intro v18 ev18
        have hv18 := congrArg Int32.toInt ev18
        intro v20 ev20
        have f21 := aDv 7 128 x4 (by decide) (by omega)
        have hv20 := congrArg Int32.toInt ev20
        intro v22 ev22
        have f24 := aBx x2 (v20 ^^^ (-1)) (by omega)
        have hv22 := congrArg Int32.toInt ev22
        refine t_X3_waySeconds (by omega) (by omega) wX (fun r25 => ?_)
        intro v26 ev26
        have hv26 := congrArg Int32.toInt ev26
        have f29 := aAT v26
        have f30 := aAT x3
        refine And.intro (fun c28 => ?_) (fun c28 => ?_)
        · skip
          have c28 := mt (zJ _ _).mpr c28
          exact ts_X3_firstOfWay_50 bD mX dY wX hpost hKn x1 x2 x3 x4 aBK aBN (by omega) hn3
        · skip
          have c28 := (zJ _ _).mp c28
          exact hpost _ (by omega)
      · skip
        have c11 := (zJ _ _).mp c11
        intro v31 ev31
        have f32 := aDv 7 128 x4 (by decide) (by omega)
        have hv31 := congrArg Int32.toInt ev31
        intro v33 ev33
        have f35 := aBx x2 (v31 ^^^ (-1)) (by omega)
        have hv33 := congrArg Int32.toInt ev33
        refine t_X3_waySeconds (by omega) (by omega) wX (fun r36 => ?_)
        intro v37 ev37
        have hv37 := congrArg Int32.toInt ev37
        have f40 := aAT v37
        have f41 := aAT x3
        refine And.intro (fun c39 => ?_) (fun c39 => ?_)
        · skip
          have c39 := mt (zJ _ _).mpr c39
          exact ts_X3_firstOfWay_50 bD mX dY wX hpost hKn x1 x2 x3 x4 aBK aBN (by omega) hn3
        · skip
          have c39 := (zJ _ _).mp c39
          exact hpost _ (by omega)
set_option maxHeartbeats 8000000 in
set_option maxRecDepth 200000 in
theorem tb_X3_firstOfWay_3 {post : Int32 -> Prop} (bD : Int32) (mX dY : Nat -> Int32) (wX : 0 <= Int32.toInt bD /\ Int32.toInt bD <= 8) (hpost : ∀ (r : Int32) , (-1 <= Int32.toInt r /\ Int32.toInt r <= 7) -> post r) : ∀ (n : Nat) (x1 x2 x3 x4 : Int32), (-1 <= Int32.toInt x1 /\ Int32.toInt x1 <= 7) -> (1 <= Int32.toInt x2 /\ Int32.toInt x2 <= 255) -> (0 <= Int32.toInt x4 /\ Int32.toInt x4 <= 8) -> (8 - Int32.toInt x4 < (n : Int)) -> wb_X3_firstOfWay_3 post bD mX dY n x1 x2 x3 x4 := by
  intro n
  induction n with
  | zero =>
    intro x1 x2 x3 x4 aBK aBN aDO hm
    exfalso; omega
  | succ n ih =>
    intro x1 x2 x3 x4 aBK aBN aDO hm
    exact ts_X3_firstOfWay_3 bD mX dY wX hpost ih x1 x2 x3 x4 aBK aBN aDO (by omega)
set_option maxHeartbeats 8000000 in
set_option maxRecDepth 200000 in
theorem t_X3_firstOfWay {post : Int32 -> Prop} {p0 p1 p2 bD : Int32} {mX dY : Nat -> Int32} (h_p0 : -1 <= Int32.toInt p0 /\ Int32.toInt p0 <= 7) (h_p1 : 1 <= Int32.toInt p1 /\ Int32.toInt p1 <= 255) (wX : 0 <= Int32.toInt bD /\ Int32.toInt bD <= 8) (hpost : ∀ (r : Int32) , (-1 <= Int32.toInt r /\ Int32.toInt r <= 7) -> post r) : wp_X3_firstOfWay post p0 p1 p2 bD mX dY := by
  have l0 := aE0
  have f42 := aAT p2
  exact ⟨10, tb_X3_firstOfWay_3 bD mX dY wX hpost _ p0 p1 p2 0 h_p0 h_p1 (by omega) (by omega)⟩
set_option maxHeartbeats 8000000 in
set_option maxRecDepth 200000 in
theorem ts_X9_route_55 {post : Int32 -> Int32 -> (Nat -> Int32) -> Prop} {next : Int32 -> Int32 -> Int32 -> Int32 -> Int32 -> Int32 -> (Nat -> Int32) -> Prop} {n55 : Int} (bD : Int32) (mX dY : Nat -> Int32) (fY : Int32) (wX : 0 <= Int32.toInt bD /\ Int32.toInt bD <= 8) (aAC : -1 <= Int32.toInt fY /\ Int32.toInt fY <= 7) (hpost : ∀ (r : Int32) (zV : Int32) (aAV : Nat -> Int32), (0 <= Int32.toInt zV /\ Int32.toInt zV <= 16) -> post r zV aAV) (hKn : ∀ (x2 : Int32) (x3 : Int32) (x4 : Int32) (x5 : Int32) (x6 : Int32) (qB : Int32) (jK : Nat -> Int32), (0 <= Int32.toInt x2 /\ Int32.toInt x2 <= 255) -> (-1 <= Int32.toInt x3 /\ Int32.toInt x3 <= 7) -> (0 <= Int32.toInt x6 /\ Int32.toInt x6 <= 8) -> (0 <= Int32.toInt qB /\ Int32.toInt qB <= 16) -> (8 - Int32.toInt x6 < n55) -> next x2 x3 x4 x5 x6 qB jK) (x2 x3 x4 x5 x6 qB : Int32) (jK : Nat -> Int32) (aBN : 0 <= Int32.toInt x2 /\ Int32.toInt x2 <= 255) (aCH : -1 <= Int32.toInt x3 /\ Int32.toInt x3 <= 7) (h_x6 : 0 <= Int32.toInt x6 /\ Int32.toInt x6 <= 8) (aAK : 0 <= Int32.toInt qB /\ Int32.toInt qB <= 16) (hn55 : 8 - Int32.toInt x6 <= n55) : ws_X9_route_55 post next bD mX dY fY x2 x3 x4 x5 x6 qB jK := by
  have l0 := aI2
  have l1 := aE0
  have l2 := aEc
  have l3 := li_16
  have l4 := li_3
  have l5 := li_8
  refine And.intro (fun c1 => ?_) (fun c1 => ?_)
  · skip
    have c1 := (aAO _ _).mp c1
    exact hpost _ _ _ aAK
  · skip
    have c1 := mt (aAO _ _).mpr c1
    refine And.intro (fun c2 => ?_) (fun c2 => ?_)
    · skip
      have c2 := (zJ _ _).mp c2
      exact hpost _ _ _ aAK
    · skip
      have c2 := mt (zJ _ _).mpr c2
      refine t_X3_firstOfWay aCH (by omega) wX (fun r3 h_r3 => ?_)
      refine And.intro (fun c4 => ?_) (fun c4 => ?_)
      · skip
        have c4 := mt (zJ _ _).mpr c4
        refine And.intro (fun c5 => ?_) (fun c5 => ?_)
        · skip
          have c5 := (aAO _ _).mp c5
          refine And.intro (fun c6 => ?_) (fun c6 => ?_)
          · skip
            have c6 := mt (zJ _ _).mpr c6
            intro v7 ev7
            have hv7 := congrArg Int32.toInt ev7
            refine And.intro (aBZ (by omega)) ?_
            intro v9 ev9
            have hv9 := congrArg Int32.toInt ev9
            refine And.intro (aBZ (by omega)) ?_
            intro v11 ev11
            have hv11 := congrArg Int32.toInt ev11
            intro v13 ev13
            have hv13 := congrArg Int32.toInt ev13
            intro v15 ev15
            have hv15 := congrArg Int32.toInt ev15
            intro v17 ev17
            have f18 := aDv 7 128 r3 (by decide) (by omega)
            have hv17 := congrArg Int32.toInt ev17
            intro v19 ev19
            have f21 := aBx x2 (v17 ^^^ (-1)) (by omega)
            have hv19 := congrArg Int32.toInt ev19
            intro v22 ev22
            have f23 : Int32.toInt (x6 + 1) = Int32.toInt x6 + Int32.toInt (1 : Int32) := aAD _ _ (by omega)
            rw [<- ev22] at f23
            have f24 := aAT x4
            have f25 := aAT v15
            exact hKn v19 r3 x4 v15 v22 qB jK (by omega) h_r3 (by omega) aAK (by omega)
          · skip
            have c6 := (zJ _ _).mp c6
            intro v26 ev26
            have hv26 := congrArg Int32.toInt ev26
            intro v28 ev28
            have f29 := aDv 7 128 r3 (by decide) (by omega)
            have hv28 := congrArg Int32.toInt ev28
            intro v30 ev30
            have f32 := aBx x2 (v28 ^^^ (-1)) (by omega)
            have hv30 := congrArg Int32.toInt ev30
            intro v33 ev33
            have f34 : Int32.toInt (x6 + 1) = Int32.toInt x6 + Int32.toInt (1 : Int32) := aAD _ _ (by omega)
            rw [<- ev33] at f34
            have f35 := aAT x4
            have f36 := aAT v26
            exact hKn v30 r3 x4 v26 v33 qB jK (by omega) h_r3 (by omega) aAK (by omega)
        · skip
          have c5 := mt (aAO _ _).mpr c5
          refine And.intro (aBZ (by omega)) ?_
          intro v37 ev37
          have f38 : Int32.toInt (qB + 1) = Int32.toInt qB + Int32.toInt (1 : Int32) := aAD _ _ (by omega)
          rw [<- ev37] at f38
          refine And.intro (fun c39 => ?_) (fun c39 => ?_)
          · skip
            have c39 := mt (zJ _ _).mpr c39
            intro v40 ev40
            have hv40 := congrArg Int32.toInt ev40
            refine And.intro (aBZ (by omega)) ?_
            intro v42 ev42
            have hv42 := congrArg Int32.toInt ev42
            refine And.intro (aBZ (by omega)) ?_
            intro v44 ev44
            have hv44 := congrArg Int32.toInt ev44
            intro v46 ev46
            have hv46 := congrArg Int32.toInt ev46
            intro v48 ev48
            have hv48 := congrArg Int32.toInt ev48
            intro v50 ev50
            have f51 := aDv 7 128 r3 (by decide) (by omega)
            have hv50 := congrArg Int32.toInt ev50
            intro v52 ev52
            have f54 := aBx x2 (v50 ^^^ (-1)) (by omega)
            have hv52 := congrArg Int32.toInt ev52
            intro v55 ev55
            have f56 : Int32.toInt (x6 + 1) = Int32.toInt x6 + Int32.toInt (1 : Int32) := aAD _ _ (by omega)
            rw [<- ev55] at f56
            have f57 := aAT x4
            have f58 := aAT v48
            exact hKn v52 r3 x4 v48 v55 v37 (upd jK qB.toNatClampNeg r3) (by omega) h_r3 (by omega) (by omega) (by omega)
          · skip
            have c39 := (zJ _ _).mp c39
            intro v59 ev59
            have hv59 := congrArg Int32.toInt ev59
            intro v61 ev61
            have f62 := aDv 7 128 r3 (by decide) (by omega)
            have hv61 := congrArg Int32.toInt ev61
            intro v63 ev63
            have f65 := aBx x2 (v61 ^^^ (-1)) (by omega)
            have hv63 := congrArg Int32.toInt ev63
            intro v66 ev66
            have f67 : Int32.toInt (x6 + 1) = Int32.toInt x6 + Int32.toInt (1 : Int32) := aAD _ _ (by omega)
            rw [<- ev66] at f67
            have f68 := aAT x4
            have f69 := aAT v59
            exact hKn v63 r3 x4 v59 v66 v37 (upd jK qB.toNatClampNeg r3) (by omega) h_r3 (by omega) (by omega) (by omega)
      · skip
        have c4 := (zJ _ _).mp c4
        exact hpost _ _ _ aAK
set_option maxHeartbeats 8000000 in
set_option maxRecDepth 200000 in
theorem tb_X9_route_55 {post : Int32 -> Int32 -> (Nat -> Int32) -> Prop} (bD : Int32) (mX dY : Nat -> Int32) (fY : Int32) (wX : 0 <= Int32.toInt bD /\ Int32.toInt bD <= 8) (aAC : -1 <= Int32.toInt fY /\ Int32.toInt fY <= 7) (hpost : ∀ (r : Int32) (zV : Int32) (aAV : Nat -> Int32), (0 <= Int32.toInt zV /\ Int32.toInt zV <= 16) -> post r zV aAV) : ∀ (n : Nat) (x2 x3 x4 x5 x6 qB : Int32) (jK : Nat -> Int32), (0 <= Int32.toInt x2 /\ Int32.toInt x2 <= 255) -> (-1 <= Int32.toInt x3 /\ Int32.toInt x3 <= 7) -> (0 <= Int32.toInt x6 /\ Int32.toInt x6 <= 8) -> (0 <= Int32.toInt qB /\ Int32.toInt qB <= 16) -> (8 - Int32.toInt x6 < (n : Int)) -> wb_X9_route_55 post bD mX dY fY n x2 x3 x4 x5 x6 qB jK := by
  intro n
  induction n with
  | zero =>
    intro x2 x3 x4 x5 x6 qB jK aBN aCH h_x6 aAK hm
    exfalso; omega
  | succ n ih =>
    intro x2 x3 x4 x5 x6 qB jK aBN aCH h_x6 aAK hm
    exact ts_X9_route_55 bD mX dY fY wX aAC hpost ih x2 x3 x4 x5 x6 qB jK aBN aCH h_x6 aAK (by omega)
set_option maxHeartbeats 8000000 in
set_option maxRecDepth 200000 in
theorem t_X9_route {post : Int32 -> Int32 -> (Nat -> Int32) -> Prop} {p0 bD : Int32} {mX dY : Nat -> Int32} {fY qB : Int32} {jK : Nat -> Int32} (wX : 0 <= Int32.toInt bD /\ Int32.toInt bD <= 8) (aAC : -1 <= Int32.toInt fY /\ Int32.toInt fY <= 7) (aAK : 0 <= Int32.toInt qB /\ Int32.toInt qB <= 16) (hpost : ∀ (r : Int32) (zV : Int32) (aAV : Nat -> Int32), (0 <= Int32.toInt zV /\ Int32.toInt zV <= 16) -> post r zV aAV) : wp_X9_route post p0 bD mX dY fY qB jK := by
  have l0 := aI2
  have l1 := aE0
  have l2 := aEc
  intro v70 ev70
  have f71 := aDv 8 256 bD (by decide) (by omega)
  have hv70 := congrArg Int32.toInt ev70
  refine And.intro (fun c72 => ?_) (fun c72 => ?_)
  · skip
    have c72 := mt (zJ _ _).mpr c72
    refine And.intro (fun h9 => absurd h9 (by decide)) (fun _ => ?_)
    exact hpost _ _ _ aAK
  · skip
    have c72Z := c72
    have c72 := (zJ _ _).mp c72
    have f74 : Int32.toInt (v70 - 1) = Int32.toInt v70 - Int32.toInt (1 : Int32) := aCA _ _ (by omega)
    have s75 := ti_subset p0 (v70 - 1) (c72Z) (by omega)
    refine And.intro (fun _ => ?_) (fun h9 => absurd h9 (by decide))
    refine And.intro (fun c76 => ?_) (fun c76 => ?_)
    · skip
      have c76 := mt (zJ _ _).mpr c76
      intro v77 ev77
      have f78 := aDv 7 128 fY (by decide) (by omega)
      have hv77 := congrArg Int32.toInt ev77
      have f81 := aBx p0 (v77 ^^^ (-1)) (by omega)
      refine t_X3_waySeconds aAC (by omega) wX (fun r79 => ?_)
      have f82 := aAT r79
      exact ⟨10, tb_X9_route_55 bD mX dY fY wX aAC hpost _ (p0 &&& (v77 ^^^ (-1))) fY r79 r79 0 0 jK (by omega) aAC (by omega) (by omega) (by omega)⟩
    · skip
      have c76 := (zJ _ _).mp c76
      refine t_X3_waySeconds aAC (by omega) wX (fun r83 => ?_)
      have f84 := aAT r83
      exact ⟨10, tb_X9_route_55 bD mX dY fY wX aAC hpost _ p0 fY r83 r83 0 0 jK (by omega) aAC (by omega) (by omega) (by omega)⟩
set_option maxHeartbeats 8000000 in
set_option maxRecDepth 200000 in
theorem ts_X5_timeAll_60 {post : (Nat -> Int32) -> (Nat -> Int32) -> (Nat -> Int32) -> Prop} {K2 : Int32 -> (Nat -> Int32) -> (Nat -> Int32) -> (Nat -> Int32) -> Prop} {K15 : Int32 -> Int32 -> (Nat -> Int32) -> (Nat -> Int32) -> (Nat -> Int32) -> Prop} {n2 n15 : Int} (oY : Int32) (rD : Nat -> Int32) (dN bD : Int32) (uU gF pL mX oE : Nat -> Int32) (dU pQ : Int32) (pN : Nat -> Int32) (aAE : 0 <= Int32.toInt oY /\ Int32.toInt oY <= 65535) (zR : ∀ k : Nat, 0 <= Int32.toInt (rD k) /\ Int32.toInt (rD k) <= 65535) (xL : 0 <= Int32.toInt dN /\ Int32.toInt dN <= 16) (wX : 0 <= Int32.toInt bD /\ Int32.toInt bD <= 8) (zU : 0 <= Int32.toInt pQ /\ Int32.toInt pQ <= 40) (hpost : ∀ (aC9 : Nat -> Int32) (aCG : Nat -> Int32) (aB4 : Nat -> Int32), (∀ k : Nat, 0 <= Int32.toInt (aC9 k) /\ Int32.toInt (aC9 k) <= 99) -> post aC9 aCG aB4) (hK2 : ∀ (x1 : Int32) (sG : Nat -> Int32) (qY : Nat -> Int32) (qU : Nat -> Int32), (0 <= Int32.toInt x1 /\ Int32.toInt x1 <= 16) -> (∀ k : Nat, 0 <= Int32.toInt (sG k) /\ Int32.toInt (sG k) <= 99) -> (16 - Int32.toInt x1 < n2) -> K2 x1 sG qY qU) (hK15 : ∀ (x1 : Int32) (x2 : Int32) (sG : Nat -> Int32) (qY : Nat -> Int32) (qU : Nat -> Int32), (0 <= Int32.toInt x1 /\ Int32.toInt x1 <= 15) -> (0 <= Int32.toInt x2 /\ Int32.toInt x2 <= 8) -> (∀ k : Nat, 0 <= Int32.toInt (sG k) /\ Int32.toInt (sG k) <= 99) -> (16 - Int32.toInt x1 <= n2) -> (8 - Int32.toInt x2 < n15) -> K15 x1 x2 sG qY qU) (x1 x2 : Int32) (sG qY qU : Nat -> Int32) (aBK : 0 <= Int32.toInt x1 /\ Int32.toInt x1 <= 15) (aBN : 0 <= Int32.toInt x2 /\ Int32.toInt x2 <= 7) (aAX : ∀ k : Nat, 0 <= Int32.toInt (sG k) /\ Int32.toInt (sG k) <= 99) (hn2 : 16 - Int32.toInt x1 <= n2) (hn15 : 8 - Int32.toInt x2 <= n15) : ws_X5_timeAll_60 post K2 K15 oY rD dN bD uU gF pL mX oE dU pQ pN x1 x2 sG qY qU := by
  have l0 := aEc
  intro v1 ev1
  have f2 : Int32.toInt (x2 + 1) = Int32.toInt x2 + Int32.toInt (1 : Int32) := aAD _ _ (by omega)
  rw [<- ev1] at f2
  exact hK15 x1 v1 sG qY qU aBK (by omega) aAX hn2 (by omega)
set_option maxHeartbeats 8000000 in
set_option maxRecDepth 200000 in
theorem ts_X5_timeAll_15 {post : (Nat -> Int32) -> (Nat -> Int32) -> (Nat -> Int32) -> Prop} {K2 : Int32 -> (Nat -> Int32) -> (Nat -> Int32) -> (Nat -> Int32) -> Prop} {next : Int32 -> Int32 -> (Nat -> Int32) -> (Nat -> Int32) -> (Nat -> Int32) -> Prop} {n15 n2 : Int} (oY : Int32) (rD : Nat -> Int32) (dN bD : Int32) (uU gF pL mX oE : Nat -> Int32) (dU pQ : Int32) (pN : Nat -> Int32) (aAE : 0 <= Int32.toInt oY /\ Int32.toInt oY <= 65535) (zR : ∀ k : Nat, 0 <= Int32.toInt (rD k) /\ Int32.toInt (rD k) <= 65535) (xL : 0 <= Int32.toInt dN /\ Int32.toInt dN <= 16) (wX : 0 <= Int32.toInt bD /\ Int32.toInt bD <= 8) (zU : 0 <= Int32.toInt pQ /\ Int32.toInt pQ <= 40) (hpost : ∀ (aC9 : Nat -> Int32) (aCG : Nat -> Int32) (aB4 : Nat -> Int32), (∀ k : Nat, 0 <= Int32.toInt (aC9 k) /\ Int32.toInt (aC9 k) <= 99) -> post aC9 aCG aB4) (hK2 : ∀ (x1 : Int32) (sG : Nat -> Int32) (qY : Nat -> Int32) (qU : Nat -> Int32), (0 <= Int32.toInt x1 /\ Int32.toInt x1 <= 16) -> (∀ k : Nat, 0 <= Int32.toInt (sG k) /\ Int32.toInt (sG k) <= 99) -> (16 - Int32.toInt x1 < n2) -> K2 x1 sG qY qU) (hKn : ∀ (x1 : Int32) (x2 : Int32) (sG : Nat -> Int32) (qY : Nat -> Int32) (qU : Nat -> Int32), (0 <= Int32.toInt x1 /\ Int32.toInt x1 <= 15) -> (0 <= Int32.toInt x2 /\ Int32.toInt x2 <= 8) -> (∀ k : Nat, 0 <= Int32.toInt (sG k) /\ Int32.toInt (sG k) <= 99) -> (16 - Int32.toInt x1 <= n2) -> (8 - Int32.toInt x2 < n15) -> next x1 x2 sG qY qU) (x1 x2 : Int32) (sG qY qU : Nat -> Int32) (aBK : 0 <= Int32.toInt x1 /\ Int32.toInt x1 <= 15) (aBN : 0 <= Int32.toInt x2 /\ Int32.toInt x2 <= 8) (aAX : ∀ k : Nat, 0 <= Int32.toInt (sG k) /\ Int32.toInt (sG k) <= 99) (hn2 : 16 - Int32.toInt x1 <= n2) (hn15 : 8 - Int32.toInt x2 <= n15) : ws_X5_timeAll_15 post K2 next oY rD dN bD uU gF pL mX oE dU pQ pN x1 x2 sG qY qU := by
  have l0 := aE0
  have l1 := aEc
  have l2 := li_8
  refine And.intro (fun c3 => ?_) (fun c3 => ?_)
  · skip
    have c3 := (aAO _ _).mp c3
    intro v4 ev4
    have f5 : Int32.toInt (x1 + 1) = Int32.toInt x1 + Int32.toInt (1 : Int32) := aAD _ _ (by omega)
    rw [<- ev4] at f5
    exact hK2 v4 sG qY qU (by omega) aAX (by omega)
  · skip
    have c3 := mt (aAO _ _).mpr c3
    refine And.intro (aBZ (by omega)) ?_
    intro v6 ev6
    have f9 := zR x2.toNatClampNeg
    have f8 := aAQ oY (rD x2.toNatClampNeg) (by omega)
    have f10 := aBx oY (rD x2.toNatClampNeg) (by omega)
    have f7 := aRJ (oY &&& (rD x2.toNatClampNeg)) x1 (by omega)
    have hv6 := congrArg Int32.toInt ev6
    have f12 := aAQ v6 1 (by omega)
    have f13 := aBx v6 1 (by omega)
    refine And.intro (fun c11 => ?_) (fun c11 => ?_)
    · skip
      have c11 := (zJ _ _).mp c11
      exact ts_X5_timeAll_60 oY rD dN bD uU gF pL mX oE dU pQ pN aAE zR xL wX zU hpost hK2 hKn x1 x2 sG qY qU aBK (by omega) aAX hn2 hn15
    · skip
      have c11 := mt (zJ _ _).mpr c11
      intro v14 ev14
      have f15 : Int32.toInt (x1 * 8) = Int32.toInt x1 * 8 := ta_mulc _ _ (by decide) (by omega)
      rw [<- ev14] at f15
      intro v16 ev16
      have f17 : Int32.toInt (v14 + x2) = Int32.toInt v14 + Int32.toInt x2 := aAD _ _ (by omega)
      rw [<- ev16] at f17
      refine aUV aBK (by omega) (by omega) xL zU (fun r20 ru_given_18 ru_stack_19 h_r20 => ?_)
      refine And.intro (aBZ (by omega)) ?_
      have a21 : ∀ k : Nat, 0 <= Int32.toInt ((upd sG v16.toNatClampNeg r20) k) /\ Int32.toInt ((upd sG v16.toNatClampNeg r20) k) <= 99 := t_upd (fun k => by have q9 := aAX k; omega) (by omega)
      exact ts_X5_timeAll_60 oY rD dN bD uU gF pL mX oE dU pQ pN aAE zR xL wX zU hpost hK2 hKn x1 x2 (upd sG v16.toNatClampNeg r20) ru_given_18 ru_stack_19 aBK (by omega) (fun k => by have q9 := a21 k; omega) hn2 hn15
set_option maxHeartbeats 8000000 in
set_option maxRecDepth 200000 in
theorem tb_X5_timeAll_15 {post : (Nat -> Int32) -> (Nat -> Int32) -> (Nat -> Int32) -> Prop} {K2 : Int32 -> (Nat -> Int32) -> (Nat -> Int32) -> (Nat -> Int32) -> Prop} {n2 : Int} (oY : Int32) (rD : Nat -> Int32) (dN bD : Int32) (uU gF pL mX oE : Nat -> Int32) (dU pQ : Int32) (pN : Nat -> Int32) (aAE : 0 <= Int32.toInt oY /\ Int32.toInt oY <= 65535) (zR : ∀ k : Nat, 0 <= Int32.toInt (rD k) /\ Int32.toInt (rD k) <= 65535) (xL : 0 <= Int32.toInt dN /\ Int32.toInt dN <= 16) (wX : 0 <= Int32.toInt bD /\ Int32.toInt bD <= 8) (zU : 0 <= Int32.toInt pQ /\ Int32.toInt pQ <= 40) (hpost : ∀ (aC9 : Nat -> Int32) (aCG : Nat -> Int32) (aB4 : Nat -> Int32), (∀ k : Nat, 0 <= Int32.toInt (aC9 k) /\ Int32.toInt (aC9 k) <= 99) -> post aC9 aCG aB4) (hK2 : ∀ (x1 : Int32) (sG : Nat -> Int32) (qY : Nat -> Int32) (qU : Nat -> Int32), (0 <= Int32.toInt x1 /\ Int32.toInt x1 <= 16) -> (∀ k : Nat, 0 <= Int32.toInt (sG k) /\ Int32.toInt (sG k) <= 99) -> (16 - Int32.toInt x1 < n2) -> K2 x1 sG qY qU) : ∀ (n : Nat) (x1 x2 : Int32) (sG qY qU : Nat -> Int32), (0 <= Int32.toInt x1 /\ Int32.toInt x1 <= 15) -> (0 <= Int32.toInt x2 /\ Int32.toInt x2 <= 8) -> (∀ k : Nat, 0 <= Int32.toInt (sG k) /\ Int32.toInt (sG k) <= 99) -> (16 - Int32.toInt x1 <= n2) -> (8 - Int32.toInt x2 < (n : Int)) -> wb_X5_timeAll_15 post K2 oY rD dN bD uU gF pL mX oE dU pQ pN n x1 x2 sG qY qU := by
  intro n
  induction n with
  | zero =>
    intro x1 x2 sG qY qU aBK aBN aAX hn2 hm
    exfalso; omega
  | succ n ih =>
    intro x1 x2 sG qY qU aBK aBN aAX hn2 hm
    exact ts_X5_timeAll_15 oY rD dN bD uU gF pL mX oE dU pQ pN aAE zR xL wX zU hpost hK2 ih x1 x2 sG qY qU aBK aBN aAX hn2 (by omega)
set_option maxHeartbeats 8000000 in
set_option maxRecDepth 200000 in
theorem ts_X5_timeAll_2 {post : (Nat -> Int32) -> (Nat -> Int32) -> (Nat -> Int32) -> Prop} {next : Int32 -> (Nat -> Int32) -> (Nat -> Int32) -> (Nat -> Int32) -> Prop} {n2 : Int} (oY : Int32) (rD : Nat -> Int32) (dN bD : Int32) (uU gF pL mX oE : Nat -> Int32) (dU pQ : Int32) (pN : Nat -> Int32) (aAE : 0 <= Int32.toInt oY /\ Int32.toInt oY <= 65535) (zR : ∀ k : Nat, 0 <= Int32.toInt (rD k) /\ Int32.toInt (rD k) <= 65535) (xL : 0 <= Int32.toInt dN /\ Int32.toInt dN <= 16) (wX : 0 <= Int32.toInt bD /\ Int32.toInt bD <= 8) (zU : 0 <= Int32.toInt pQ /\ Int32.toInt pQ <= 40) (hpost : ∀ (aC9 : Nat -> Int32) (aCG : Nat -> Int32) (aB4 : Nat -> Int32), (∀ k : Nat, 0 <= Int32.toInt (aC9 k) /\ Int32.toInt (aC9 k) <= 99) -> post aC9 aCG aB4) (hKn : ∀ (x1 : Int32) (sG : Nat -> Int32) (qY : Nat -> Int32) (qU : Nat -> Int32), (0 <= Int32.toInt x1 /\ Int32.toInt x1 <= 16) -> (∀ k : Nat, 0 <= Int32.toInt (sG k) /\ Int32.toInt (sG k) <= 99) -> (16 - Int32.toInt x1 < n2) -> next x1 sG qY qU) (x1 : Int32) (sG qY qU : Nat -> Int32) (aBK : 0 <= Int32.toInt x1 /\ Int32.toInt x1 <= 16) (aAX : ∀ k : Nat, 0 <= Int32.toInt (sG k) /\ Int32.toInt (sG k) <= 99) (hn2 : 16 - Int32.toInt x1 <= n2) : ws_X5_timeAll_2 post next oY rD dN bD uU gF pL mX oE dU pQ pN x1 sG qY qU := by
  have l0 := aE0
  refine And.intro (fun c22 => ?_) (fun c22 => ?_)
  · skip
    have c22 := (aAO _ _).mp c22
    exact hpost _ _ _ aAX
  · skip
    have c22 := mt (aAO _ _).mpr c22
    exact ⟨10, tb_X5_timeAll_15 oY rD dN bD uU gF pL mX oE dU pQ pN aAE zR xL wX zU hpost hKn _ x1 0 sG qY qU (by omega) (by omega) aAX hn2 (by omega)⟩
set_option maxHeartbeats 8000000 in
set_option maxRecDepth 200000 in
theorem tb_X5_timeAll_2 {post : (Nat -> Int32) -> (Nat -> Int32) -> (Nat -> Int32) -> Prop} (oY : Int32) (rD : Nat -> Int32) (dN bD : Int32) (uU gF pL mX oE : Nat -> Int32) (dU pQ : Int32) (pN : Nat -> Int32) (aAE : 0 <= Int32.toInt oY /\ Int32.toInt oY <= 65535) (zR : ∀ k : Nat, 0 <= Int32.toInt (rD k) /\ Int32.toInt (rD k) <= 65535) (xL : 0 <= Int32.toInt dN /\ Int32.toInt dN <= 16) (wX : 0 <= Int32.toInt bD /\ Int32.toInt bD <= 8) (zU : 0 <= Int32.toInt pQ /\ Int32.toInt pQ <= 40) (hpost : ∀ (aC9 : Nat -> Int32) (aCG : Nat -> Int32) (aB4 : Nat -> Int32), (∀ k : Nat, 0 <= Int32.toInt (aC9 k) /\ Int32.toInt (aC9 k) <= 99) -> post aC9 aCG aB4) : ∀ (n : Nat) (x1 : Int32) (sG qY qU : Nat -> Int32), (0 <= Int32.toInt x1 /\ Int32.toInt x1 <= 16) -> (∀ k : Nat, 0 <= Int32.toInt (sG k) /\ Int32.toInt (sG k) <= 99) -> (16 - Int32.toInt x1 < (n : Int)) -> wb_X5_timeAll_2 post oY rD dN bD uU gF pL mX oE dU pQ pN n x1 sG qY qU := by
  intro n
  induction n with
  | zero =>
    intro x1 sG qY qU aBK aAX hm
    exfalso; omega
  | succ n ih =>
    intro x1 sG qY qU aBK aAX hm
    exact ts_X5_timeAll_2 oY rD dN bD uU gF pL mX oE dU pQ pN aAE zR xL wX zU hpost ih x1 sG qY qU aBK aAX (by omega)
set_option maxHeartbeats 8000000 in
set_option maxRecDepth 200000 in
theorem t_X5_timeAll {post : (Nat -> Int32) -> (Nat -> Int32) -> (Nat -> Int32) -> Prop} {oY : Int32} {rD sG : Nat -> Int32} {dN bD : Int32} {uU gF pL mX oE : Nat -> Int32} {dU pQ : Int32} {qY qU pN : Nat -> Int32} (aAE : 0 <= Int32.toInt oY /\ Int32.toInt oY <= 65535) (zR : ∀ k : Nat, 0 <= Int32.toInt (rD k) /\ Int32.toInt (rD k) <= 65535) (aAX : ∀ k : Nat, 0 <= Int32.toInt (sG k) /\ Int32.toInt (sG k) <= 99) (xL : 0 <= Int32.toInt dN /\ Int32.toInt dN <= 16) (wX : 0 <= Int32.toInt bD /\ Int32.toInt bD <= 8) (zU : 0 <= Int32.toInt pQ /\ Int32.toInt pQ <= 40) (hpost : ∀ (aC9 : Nat -> Int32) (aCG : Nat -> Int32) (aB4 : Nat -> Int32), (∀ k : Nat, 0 <= Int32.toInt (aC9 k) /\ Int32.toInt (aC9 k) <= 99) -> post aC9 aCG aB4) : wp_X5_timeAll post oY rD sG dN bD uU gF pL mX oE dU pQ qY qU pN := by
  have l0 := aE0
  exact ⟨18, tb_X5_timeAll_2 oY rD dN bD uU gF pL mX oE dU pQ pN aAE zR xL wX zU hpost _ 0 sG qY qU (by omega) aAX (by omega)⟩
set_option maxHeartbeats 8000000 in
set_option maxRecDepth 200000 in
theorem ts_X5_quickest_76 {post : Int32 -> Prop} {K8 : Int32 -> Int32 -> Int32 -> Int32 -> Int32 -> Prop} {n8 : Int} (rD sG : Nat -> Int32) (bD : Int32) (zR : ∀ k : Nat, 0 <= Int32.toInt (rD k) /\ Int32.toInt (rD k) <= 65535) (aAX : ∀ k : Nat, 0 <= Int32.toInt (sG k) /\ Int32.toInt (sG k) <= 99) (wX : 0 <= Int32.toInt bD /\ Int32.toInt bD <= 8) (hpost : ∀ (r : Int32) , (-1 <= Int32.toInt r /\ Int32.toInt r <= 7) -> post r) (hK8 : ∀ (x1 : Int32) (x2 : Int32) (x3 : Int32) (x4 : Int32) (x5 : Int32), (0 <= Int32.toInt x1 /\ Int32.toInt x1 <= 15) -> (0 <= Int32.toInt x2 /\ Int32.toInt x2 <= 255) -> (-1 <= Int32.toInt x3 /\ Int32.toInt x3 <= 7) -> (0 <= Int32.toInt x4 /\ Int32.toInt x4 <= 99) -> (0 <= Int32.toInt x5 /\ Int32.toInt x5 <= 8) -> (8 - Int32.toInt x5 < n8) -> K8 x1 x2 x3 x4 x5) (x1 x2 x3 x4 x5 : Int32) (aBK : 0 <= Int32.toInt x1 /\ Int32.toInt x1 <= 15) (aBN : 0 <= Int32.toInt x2 /\ Int32.toInt x2 <= 255) (aCH : -1 <= Int32.toInt x3 /\ Int32.toInt x3 <= 7) (aDO : 0 <= Int32.toInt x4 /\ Int32.toInt x4 <= 99) (aF7 : 0 <= Int32.toInt x5 /\ Int32.toInt x5 <= 7) (hn8 : 8 - Int32.toInt x5 <= n8) : ws_X5_quickest_76 post K8 rD sG bD x1 x2 x3 x4 x5 := by
  have l0 := aEc
  intro v1 ev1
  have f2 : Int32.toInt (x5 + 1) = Int32.toInt x5 + Int32.toInt (1 : Int32) := aAD _ _ (by omega)
  rw [<- ev1] at f2
  exact hK8 x1 x2 x3 x4 v1 aBK aBN aCH aDO (by omega) (by omega)
set_option maxHeartbeats 8000000 in
set_option maxRecDepth 200000 in
theorem ts_X5_quickest_69 {post : Int32 -> Prop} {K8 : Int32 -> Int32 -> Int32 -> Int32 -> Int32 -> Prop} {n8 : Int} (rD sG : Nat -> Int32) (bD : Int32) (zR : ∀ k : Nat, 0 <= Int32.toInt (rD k) /\ Int32.toInt (rD k) <= 65535) (aAX : ∀ k : Nat, 0 <= Int32.toInt (sG k) /\ Int32.toInt (sG k) <= 99) (wX : 0 <= Int32.toInt bD /\ Int32.toInt bD <= 8) (hpost : ∀ (r : Int32) , (-1 <= Int32.toInt r /\ Int32.toInt r <= 7) -> post r) (hK8 : ∀ (x1 : Int32) (x2 : Int32) (x3 : Int32) (x4 : Int32) (x5 : Int32), (0 <= Int32.toInt x1 /\ Int32.toInt x1 <= 15) -> (0 <= Int32.toInt x2 /\ Int32.toInt x2 <= 255) -> (-1 <= Int32.toInt x3 /\ Int32.toInt x3 <= 7) -> (0 <= Int32.toInt x4 /\ Int32.toInt x4 <= 99) -> (0 <= Int32.toInt x5 /\ Int32.toInt x5 <= 8) -> (8 - Int32.toInt x5 < n8) -> K8 x1 x2 x3 x4 x5) (x1 x2 x5 x6 : Int32) (aBK : 0 <= Int32.toInt x1 /\ Int32.toInt x1 <= 15) (aBN : 0 <= Int32.toInt x2 /\ Int32.toInt x2 <= 255) (aF7 : 0 <= Int32.toInt x5 /\ Int32.toInt x5 <= 7) (h_x6 : 0 <= Int32.toInt x6 /\ Int32.toInt x6 <= 99) (hn8 : 8 - Int32.toInt x5 <= n8) : ws_X5_quickest_69 post K8 rD sG bD x1 x2 x5 x6 := by
  exact ts_X5_quickest_76 rD sG bD zR aAX wX hpost hK8 x1 x2 x5 x6 x5 aBK aBN (by omega) h_x6 aF7 hn8
set_option maxHeartbeats 8000000 in
set_option maxRecDepth 200000 in
theorem ts_X5_quickest_8 {post : Int32 -> Prop} {next : Int32 -> Int32 -> Int32 -> Int32 -> Int32 -> Prop} {n8 : Int} (rD sG : Nat -> Int32) (bD : Int32) (zR : ∀ k : Nat, 0 <= Int32.toInt (rD k) /\ Int32.toInt (rD k) <= 65535) (aAX : ∀ k : Nat, 0 <= Int32.toInt (sG k) /\ Int32.toInt (sG k) <= 99) (wX : 0 <= Int32.toInt bD /\ Int32.toInt bD <= 8) (hpost : ∀ (r : Int32) , (-1 <= Int32.toInt r /\ Int32.toInt r <= 7) -> post r) (hKn : ∀ (x1 : Int32) (x2 : Int32) (x3 : Int32) (x4 : Int32) (x5 : Int32), (0 <= Int32.toInt x1 /\ Int32.toInt x1 <= 15) -> (0 <= Int32.toInt x2 /\ Int32.toInt x2 <= 255) -> (-1 <= Int32.toInt x3 /\ Int32.toInt x3 <= 7) -> (0 <= Int32.toInt x4 /\ Int32.toInt x4 <= 99) -> (0 <= Int32.toInt x5 /\ Int32.toInt x5 <= 8) -> (8 - Int32.toInt x5 < n8) -> next x1 x2 x3 x4 x5) (x1 x2 x3 x4 x5 : Int32) (aBK : 0 <= Int32.toInt x1 /\ Int32.toInt x1 <= 15) (aBN : 0 <= Int32.toInt x2 /\ Int32.toInt x2 <= 255) (aCH : -1 <= Int32.toInt x3 /\ Int32.toInt x3 <= 7) (aDO : 0 <= Int32.toInt x4 /\ Int32.toInt x4 <= 99) (aF7 : 0 <= Int32.toInt x5 /\ Int32.toInt x5 <= 8) (hn8 : 8 - Int32.toInt x5 <= n8) : ws_X5_quickest_8 post next rD sG bD x1 x2 x3 x4 x5 := by
  have l0 := aI2
  have l1 := aE0
  have l2 := aEc
  have l3 := li_8
  refine And.intro (fun c3 => ?_) (fun c3 => ?_)
  · skip
    have c3 := (aAO _ _).mp c3
    exact hpost _ aCH
  · skip
    have c3 := mt (aAO _ _).mpr c3
    intro v4 ev4
    have f5 := aRJ x2 x5 (by omega)
    have hv4 := congrArg Int32.toInt ev4
    have f7 := aAQ v4 1 (by omega)
    have f8 := aBx v4 1 (by omega)
    refine And.intro (fun c6 => ?_) (fun c6 => ?_)
    · skip
      have c6 := (zJ _ _).mp c6
      exact ts_X5_quickest_76 rD sG bD zR aAX wX hpost hKn x1 x2 x3 x4 x5 aBK aBN aCH aDO (by omega) hn8
    · skip
      have c6 := mt (zJ _ _).mpr c6
      refine And.intro (aBZ (by omega)) ?_
      intro v9 ev9
      have f10 := zR x5.toNatClampNeg
      have hv9 := congrArg Int32.toInt ev9
      intro v11 ev11
      have f12 := aRJ v9 x1 (by omega)
      have hv11 := congrArg Int32.toInt ev11
      have f14 := aAQ v11 1 (by omega)
      have f15 := aBx v11 1 (by omega)
      refine And.intro (fun c13 => ?_) (fun c13 => ?_)
      · skip
        have c13 := (zJ _ _).mp c13
        exact ts_X5_quickest_76 rD sG bD zR aAX wX hpost hKn x1 x2 x3 x4 x5 aBK aBN aCH aDO (by omega) hn8
      · skip
        have c13 := mt (zJ _ _).mpr c13
        intro v16 ev16
        have f17 : Int32.toInt (x1 * 8) = Int32.toInt x1 * 8 := ta_mulc _ _ (by decide) (by omega)
        rw [<- ev16] at f17
        intro v18 ev18
        have f19 : Int32.toInt (v16 + x5) = Int32.toInt v16 + Int32.toInt x5 := aAD _ _ (by omega)
        rw [<- ev18] at f19
        refine And.intro (aBZ (by omega)) ?_
        intro v20 ev20
        have f21 := aAX v18.toNatClampNeg
        have hv20 := congrArg Int32.toInt ev20
        refine And.intro (fun c22 => ?_) (fun c22 => ?_)
        · skip
          have c22 := (zJ _ _).mp c22
          exact ts_X5_quickest_69 rD sG bD zR aAX wX hpost hKn x1 x2 x5 v20 aBK aBN (by omega) (by omega) hn8
        · skip
          have c22 := mt (zJ _ _).mpr c22
          refine And.intro (fun c23 => ?_) (fun c23 => ?_)
          · skip
            have c23 := (aAO _ _).mp c23
            exact ts_X5_quickest_76 rD sG bD zR aAX wX hpost hKn x1 x2 x3 x4 x5 aBK aBN aCH aDO (by omega) hn8
          · skip
            have c23 := mt (aAO _ _).mpr c23
            exact ts_X5_quickest_69 rD sG bD zR aAX wX hpost hKn x1 x2 x5 v20 aBK aBN (by omega) (by omega) hn8
set_option maxHeartbeats 8000000 in
set_option maxRecDepth 200000 in
theorem tb_X5_quickest_8 {post : Int32 -> Prop} (rD sG : Nat -> Int32) (bD : Int32) (zR : ∀ k : Nat, 0 <= Int32.toInt (rD k) /\ Int32.toInt (rD k) <= 65535) (aAX : ∀ k : Nat, 0 <= Int32.toInt (sG k) /\ Int32.toInt (sG k) <= 99) (wX : 0 <= Int32.toInt bD /\ Int32.toInt bD <= 8) (hpost : ∀ (r : Int32) , (-1 <= Int32.toInt r /\ Int32.toInt r <= 7) -> post r) : ∀ (n : Nat) (x1 x2 x3 x4 x5 : Int32), (0 <= Int32.toInt x1 /\ Int32.toInt x1 <= 15) -> (0 <= Int32.toInt x2 /\ Int32.toInt x2 <= 255) -> (-1 <= Int32.toInt x3 /\ Int32.toInt x3 <= 7) -> (0 <= Int32.toInt x4 /\ Int32.toInt x4 <= 99) -> (0 <= Int32.toInt x5 /\ Int32.toInt x5 <= 8) -> (8 - Int32.toInt x5 < (n : Int)) -> wb_X5_quickest_8 post rD sG bD n x1 x2 x3 x4 x5 := by
  intro n
  induction n with
  | zero =>
    intro x1 x2 x3 x4 x5 aBK aBN aCH aDO aF7 hm
    exfalso; omega
  | succ n ih =>
    intro x1 x2 x3 x4 x5 aBK aBN aCH aDO aF7 hm
    exact ts_X5_quickest_8 rD sG bD zR aAX wX hpost ih x1 x2 x3 x4 x5 aBK aBN aCH aDO aF7 (by omega)
set_option maxHeartbeats 8000000 in
set_option maxRecDepth 200000 in
theorem t_X5_quickest {post : Int32 -> Prop} {p0 p1 : Int32} {rD sG : Nat -> Int32} {bD : Int32} (h_p0 : 0 <= Int32.toInt p0 /\ Int32.toInt p0 <= 15) (h_p1 : 0 <= Int32.toInt p1 /\ Int32.toInt p1 <= 255) (zR : ∀ k : Nat, 0 <= Int32.toInt (rD k) /\ Int32.toInt (rD k) <= 65535) (aAX : ∀ k : Nat, 0 <= Int32.toInt (sG k) /\ Int32.toInt (sG k) <= 99) (wX : 0 <= Int32.toInt bD /\ Int32.toInt bD <= 8) (hpost : ∀ (r : Int32) , (-1 <= Int32.toInt r /\ Int32.toInt r <= 7) -> post r) : wp_X5_quickest post p0 p1 rD sG bD := by
  have l0 := aI2
  have l1 := aE0
  exact ⟨10, tb_X5_quickest_8 rD sG bD zR aAX wX hpost _ p0 p1 (-1) 0 0 h_p0 h_p1 (by omega) (by omega) (by omega) (by omega)⟩
set_option maxHeartbeats 8000000 in
set_option maxRecDepth 200000 in
theorem ts_X5_workSeconds_96 {post : Int32 -> Int32 -> Int32 -> Int32 -> (Nat -> Int32) -> Prop} {K28 : Int32 -> Int32 -> Int32 -> Int32 -> Int32 -> (Nat -> Int32) -> Prop} {n28 : Int} (oY : Int32) (rD sG : Nat -> Int32) (dN bD : Int32) (mX oE dY : Nat -> Int32) (fY : Int32) (aAE : 0 <= Int32.toInt oY /\ Int32.toInt oY <= 65535) (zR : ∀ k : Nat, 0 <= Int32.toInt (rD k) /\ Int32.toInt (rD k) <= 65535) (aAX : ∀ k : Nat, 0 <= Int32.toInt (sG k) /\ Int32.toInt (sG k) <= 99) (xL : 0 <= Int32.toInt dN /\ Int32.toInt dN <= 16) (wX : 0 <= Int32.toInt bD /\ Int32.toInt bD <= 8) (aAC : -1 <= Int32.toInt fY /\ Int32.toInt fY <= 7) (hpost : ∀ (r : Int32) (aJV : Int32) (aGc : Int32) (aJU : Int32) (aLu : Nat -> Int32), post r aJV aGc aJU aLu) (hK28 : ∀ (x1 : Int32) (x2 : Int32) (rJ : Int32) (pX : Int32) (rO : Int32) (vQ : Nat -> Int32), (0 <= Int32.toInt x1 /\ Int32.toInt x1 <= 255) -> (0 <= Int32.toInt x2 /\ Int32.toInt x2 <= 16) -> (16 - Int32.toInt x2 < n28) -> K28 x1 x2 rJ pX rO vQ) (x1 x2 rJ pX rO : Int32) (vQ : Nat -> Int32) (aBK : 0 <= Int32.toInt x1 /\ Int32.toInt x1 <= 255) (aBN : 0 <= Int32.toInt x2 /\ Int32.toInt x2 <= 15) (hn28 : 16 - Int32.toInt x2 <= n28) : ws_X5_workSeconds_96 post K28 oY rD sG dN bD mX oE dY fY x1 x2 rJ pX rO vQ := by
  have l0 := aEc
  intro v1 ev1
  have f2 : Int32.toInt (x2 + 1) = Int32.toInt x2 + Int32.toInt (1 : Int32) := aAD _ _ (by omega)
  rw [<- ev1] at f2
  have f3 := aAT rJ
  have f4 := aAT pX
  have f5 := aAT rO
  exact hK28 x1 v1 rJ pX rO vQ aBK (by omega) (by omega)
set_option maxHeartbeats 8000000 in
set_option maxRecDepth 200000 in
theorem ts_X5_workSeconds_60 {post : Int32 -> Int32 -> Int32 -> Int32 -> (Nat -> Int32) -> Prop} {K28 : Int32 -> Int32 -> Int32 -> Int32 -> Int32 -> (Nat -> Int32) -> Prop} {n28 : Int} (oY : Int32) (rD sG : Nat -> Int32) (dN bD : Int32) (mX oE dY : Nat -> Int32) (fY : Int32) (aAE : 0 <= Int32.toInt oY /\ Int32.toInt oY <= 65535) (zR : ∀ k : Nat, 0 <= Int32.toInt (rD k) /\ Int32.toInt (rD k) <= 65535) (aAX : ∀ k : Nat, 0 <= Int32.toInt (sG k) /\ Int32.toInt (sG k) <= 99) (xL : 0 <= Int32.toInt dN /\ Int32.toInt dN <= 16) (wX : 0 <= Int32.toInt bD /\ Int32.toInt bD <= 8) (aAC : -1 <= Int32.toInt fY /\ Int32.toInt fY <= 7) (hpost : ∀ (r : Int32) (aJV : Int32) (aGc : Int32) (aJU : Int32) (aLu : Nat -> Int32), post r aJV aGc aJU aLu) (hK28 : ∀ (x1 : Int32) (x2 : Int32) (rJ : Int32) (pX : Int32) (rO : Int32) (vQ : Nat -> Int32), (0 <= Int32.toInt x1 /\ Int32.toInt x1 <= 255) -> (0 <= Int32.toInt x2 /\ Int32.toInt x2 <= 16) -> (16 - Int32.toInt x2 < n28) -> K28 x1 x2 rJ pX rO vQ) (x1 x2 k0 rJ pX rO : Int32) (vQ : Nat -> Int32) (aBK : 0 <= Int32.toInt x1 /\ Int32.toInt x1 <= 255) (aBN : 0 <= Int32.toInt x2 /\ Int32.toInt x2 <= 15) (h_k0 : -1 <= Int32.toInt k0 /\ Int32.toInt k0 <= 7) (hn28 : 16 - Int32.toInt x2 <= n28) : ws_X5_workSeconds_60 post K28 oY rD sG dN bD mX oE dY fY x1 x2 k0 rJ pX rO vQ := by
  have l0 := aI2
  have l1 := li_8
  refine And.intro (fun c6 => ?_) (fun c6 => ?_)
  · skip
    have c6 := (zJ _ _).mp c6
    have f7 := aAT rJ
    have f8 := aAT pX
    have f9 := aAT rO
    exact ts_X5_workSeconds_96 oY rD sG dN bD mX oE dY fY aAE zR aAX xL wX aAC hpost hK28 x1 x2 rJ pX rO vQ aBK aBN hn28
  · skip
    have c6 := mt (zJ _ _).mpr c6
    intro v10 ev10
    have f11 : Int32.toInt (x2 * 8) = Int32.toInt x2 * 8 := ta_mulc _ _ (by decide) (by omega)
    rw [<- ev10] at f11
    intro v12 ev12
    have f13 : Int32.toInt (v10 + k0) = Int32.toInt v10 + Int32.toInt k0 := aAD _ _ (by omega)
    rw [<- ev12] at f13
    refine And.intro (aBZ (by omega)) ?_
    intro v14 ev14
    have hv14 := congrArg Int32.toInt ev14
    refine And.intro (aBZ (by omega)) ?_
    intro v16 ev16
    have hv16 := congrArg Int32.toInt ev16
    intro v18 ev18
    have hv18 := congrArg Int32.toInt ev18
    refine And.intro (aBZ (by omega)) ?_
    have f20 := aAT rJ
    have f21 := aAT v14
    have f22 := aAT rO
    exact ts_X5_workSeconds_96 oY rD sG dN bD mX oE dY fY aAE zR aAX xL wX aAC hpost hK28 x1 x2 rJ v14 rO (upd vQ k0.toNatClampNeg v18) aBK aBN hn28
set_option maxHeartbeats 8000000 in
set_option maxRecDepth 200000 in
theorem ts_X5_workSeconds_109 {post : Int32 -> Int32 -> Int32 -> Int32 -> (Nat -> Int32) -> Prop} {next : Int32 -> Int32 -> Int32 -> Int32 -> Int32 -> (Nat -> Int32) -> Prop} {n109 : Int} (oY : Int32) (rD sG : Nat -> Int32) (dN bD : Int32) (mX oE dY : Nat -> Int32) (fY : Int32) (aAE : 0 <= Int32.toInt oY /\ Int32.toInt oY <= 65535) (zR : ∀ k : Nat, 0 <= Int32.toInt (rD k) /\ Int32.toInt (rD k) <= 65535) (aAX : ∀ k : Nat, 0 <= Int32.toInt (sG k) /\ Int32.toInt (sG k) <= 99) (xL : 0 <= Int32.toInt dN /\ Int32.toInt dN <= 16) (wX : 0 <= Int32.toInt bD /\ Int32.toInt bD <= 8) (aAC : -1 <= Int32.toInt fY /\ Int32.toInt fY <= 7) (hpost : ∀ (r : Int32) (aJV : Int32) (aGc : Int32) (aJU : Int32) (aLu : Nat -> Int32), post r aJV aGc aJU aLu) (hKn : ∀ (x1 : Int32) (x2 : Int32) (rJ : Int32) (pX : Int32) (rO : Int32) (vQ : Nat -> Int32), (0 <= Int32.toInt x1 /\ Int32.toInt x1 <= 255) -> (0 <= Int32.toInt x2 /\ Int32.toInt x2 <= 8) -> (8 - Int32.toInt x2 < n109) -> next x1 x2 rJ pX rO vQ) (x1 x2 rJ pX rO : Int32) (vQ : Nat -> Int32) (aBK : 0 <= Int32.toInt x1 /\ Int32.toInt x1 <= 255) (aBN : 0 <= Int32.toInt x2 /\ Int32.toInt x2 <= 8) (hn109 : 8 - Int32.toInt x2 <= n109) : ws_X5_workSeconds_109 post next oY rD sG dN bD mX oE dY fY x1 x2 rJ pX rO vQ := by
  have l0 := aI2
  have l1 := aE0
  have l2 := aEc
  have l3 := li_4
  refine And.intro (fun c23 => ?_) (fun c23 => ?_)
  · skip
    have c23 := (aAO _ _).mp c23
    refine And.intro (fun c24 => ?_) (fun c24 => ?_)
    · skip
      have c24 := mt (zJ _ _).mpr c24
      intro v25 ev25
      have f26 := aDv 7 128 fY (by decide) (by omega)
      have hv25 := congrArg Int32.toInt ev25
      have f29 := aBx x1 (v25 ^^^ (-1)) (by omega)
      refine t_X3_waySeconds aAC (by omega) wX (fun r27 => ?_)
      intro v30 ev30
      have hv30 := congrArg Int32.toInt ev30
      exact hpost _ _ _ _ _ 
    · skip
      have c24 := (zJ _ _).mp c24
      refine t_X3_waySeconds aAC aBK wX (fun r32 => ?_)
      intro v33 ev33
      have hv33 := congrArg Int32.toInt ev33
      exact hpost _ _ _ _ _ 
  · skip
    have c23 := mt (aAO _ _).mpr c23
    refine And.intro (aBZ (by omega)) ?_
    intro v35 ev35
    have hv35 := congrArg Int32.toInt ev35
    intro v37 ev37
    have hv37 := congrArg Int32.toInt ev37
    intro v39 ev39
    have f40 := aAT (if 1 < v37 then v37 else 1)
    have f42 := aAT v37
    have f41 := ti_max (1 : Int32) v37
    have hv39 := congrArg Int32.toInt ev39
    intro v43 ev43
    have hv43 := congrArg Int32.toInt ev43
    intro v45 ev45
    have hv45 := congrArg Int32.toInt ev45
    have f47 := aAT v39
    refine And.intro (mt (zJ _ _).mp (by omega)) ?_
    intro v48 ev48
    refine And.intro (aBZ (by omega)) ?_
    intro v49 ev49
    have hv49 := congrArg Int32.toInt ev49
    intro v51 ev51
    have hv51 := congrArg Int32.toInt ev51
    intro v53 ev53
    have hv53 := congrArg Int32.toInt ev53
    intro v55 ev55
    have f56 : Int32.toInt (x2 + 1) = Int32.toInt x2 + Int32.toInt (1 : Int32) := aAD _ _ (by omega)
    rw [<- ev55] at f56
    have f57 := aAT rJ
    have f58 := aAT pX
    have f59 := aAT v53
    exact hKn x1 v55 rJ pX v53 vQ aBK (by omega) (by omega)
set_option maxHeartbeats 8000000 in
set_option maxRecDepth 200000 in
theorem tb_X5_workSeconds_109 {post : Int32 -> Int32 -> Int32 -> Int32 -> (Nat -> Int32) -> Prop} (oY : Int32) (rD sG : Nat -> Int32) (dN bD : Int32) (mX oE dY : Nat -> Int32) (fY : Int32) (aAE : 0 <= Int32.toInt oY /\ Int32.toInt oY <= 65535) (zR : ∀ k : Nat, 0 <= Int32.toInt (rD k) /\ Int32.toInt (rD k) <= 65535) (aAX : ∀ k : Nat, 0 <= Int32.toInt (sG k) /\ Int32.toInt (sG k) <= 99) (xL : 0 <= Int32.toInt dN /\ Int32.toInt dN <= 16) (wX : 0 <= Int32.toInt bD /\ Int32.toInt bD <= 8) (aAC : -1 <= Int32.toInt fY /\ Int32.toInt fY <= 7) (hpost : ∀ (r : Int32) (aJV : Int32) (aGc : Int32) (aJU : Int32) (aLu : Nat -> Int32), post r aJV aGc aJU aLu) : ∀ (n : Nat) (x1 x2 rJ pX rO : Int32) (vQ : Nat -> Int32), (0 <= Int32.toInt x1 /\ Int32.toInt x1 <= 255) -> (0 <= Int32.toInt x2 /\ Int32.toInt x2 <= 8) -> (8 - Int32.toInt x2 < (n : Int)) -> wb_X5_workSeconds_109 post oY rD sG dN bD mX oE dY fY n x1 x2 rJ pX rO vQ := by
  intro n
  induction n with
  | zero =>
    intro x1 x2 rJ pX rO vQ aBK aBN hm
    exfalso; omega
  | succ n ih =>
    intro x1 x2 rJ pX rO vQ aBK aBN hm
    exact ts_X5_workSeconds_109 oY rD sG dN bD mX oE dY fY aAE zR aAX xL wX aAC hpost ih x1 x2 rJ pX rO vQ aBK aBN (by omega)
set_option maxHeartbeats 8000000 in
set_option maxRecDepth 200000 in
theorem ts_X5_workSeconds_28 {post : Int32 -> Int32 -> Int32 -> Int32 -> (Nat -> Int32) -> Prop} {next : Int32 -> Int32 -> Int32 -> Int32 -> Int32 -> (Nat -> Int32) -> Prop} {n28 : Int} (oY : Int32) (rD sG : Nat -> Int32) (dN bD : Int32) (mX oE dY : Nat -> Int32) (fY : Int32) (aAE : 0 <= Int32.toInt oY /\ Int32.toInt oY <= 65535) (zR : ∀ k : Nat, 0 <= Int32.toInt (rD k) /\ Int32.toInt (rD k) <= 65535) (aAX : ∀ k : Nat, 0 <= Int32.toInt (sG k) /\ Int32.toInt (sG k) <= 99) (xL : 0 <= Int32.toInt dN /\ Int32.toInt dN <= 16) (wX : 0 <= Int32.toInt bD /\ Int32.toInt bD <= 8) (aAC : -1 <= Int32.toInt fY /\ Int32.toInt fY <= 7) (hpost : ∀ (r : Int32) (aJV : Int32) (aGc : Int32) (aJU : Int32) (aLu : Nat -> Int32), post r aJV aGc aJU aLu) (hKn : ∀ (x1 : Int32) (x2 : Int32) (rJ : Int32) (pX : Int32) (rO : Int32) (vQ : Nat -> Int32), (0 <= Int32.toInt x1 /\ Int32.toInt x1 <= 255) -> (0 <= Int32.toInt x2 /\ Int32.toInt x2 <= 16) -> (16 - Int32.toInt x2 < n28) -> next x1 x2 rJ pX rO vQ) (x1 x2 rJ pX rO : Int32) (vQ : Nat -> Int32) (aBK : 0 <= Int32.toInt x1 /\ Int32.toInt x1 <= 255) (aBN : 0 <= Int32.toInt x2 /\ Int32.toInt x2 <= 16) (hn28 : 16 - Int32.toInt x2 <= n28) : ws_X5_workSeconds_28 post next oY rD sG dN bD mX oE dY fY x1 x2 rJ pX rO vQ := by
  have l0 := aI2
  have l1 := aE0
  have l2 := aEc
  refine And.intro (fun c60 => ?_) (fun c60 => ?_)
  · skip
    have c60 := (aAO _ _).mp c60
    have f61 := aAT rJ
    have f62 := aAT pX
    exact ⟨10, tb_X5_workSeconds_109 oY rD sG dN bD mX oE dY fY aAE zR aAX xL wX aAC hpost _ x1 0 rJ pX 0 vQ aBK (by omega) (by omega)⟩
  · skip
    have c60 := mt (aAO _ _).mpr c60
    intro v63 ev63
    have f64 := aRJ oY x2 (by omega)
    have hv63 := congrArg Int32.toInt ev63
    have f66 := aAQ v63 1 (by omega)
    have f67 := aBx v63 1 (by omega)
    refine And.intro (fun c65 => ?_) (fun c65 => ?_)
    · skip
      have c65 := (zJ _ _).mp c65
      have f68 := aAT rJ
      have f69 := aAT pX
      have f70 := aAT rO
      exact ts_X5_workSeconds_60 oY rD sG dN bD mX oE dY fY aAE zR aAX xL wX aAC hpost hKn x1 x2 (-1) rJ pX rO vQ aBK (by omega) (by omega) hn28
    · skip
      have c65 := mt (zJ _ _).mpr c65
      refine t_X5_quickest (by omega) aBK zR aAX wX (fun r71 h_r71 => ?_)
      have f72 := aAT rJ
      have f73 := aAT pX
      have f74 := aAT rO
      exact ts_X5_workSeconds_60 oY rD sG dN bD mX oE dY fY aAE zR aAX xL wX aAC hpost hKn x1 x2 r71 rJ pX rO vQ aBK (by omega) h_r71 hn28
set_option maxHeartbeats 8000000 in
set_option maxRecDepth 200000 in
theorem tb_X5_workSeconds_28 {post : Int32 -> Int32 -> Int32 -> Int32 -> (Nat -> Int32) -> Prop} (oY : Int32) (rD sG : Nat -> Int32) (dN bD : Int32) (mX oE dY : Nat -> Int32) (fY : Int32) (aAE : 0 <= Int32.toInt oY /\ Int32.toInt oY <= 65535) (zR : ∀ k : Nat, 0 <= Int32.toInt (rD k) /\ Int32.toInt (rD k) <= 65535) (aAX : ∀ k : Nat, 0 <= Int32.toInt (sG k) /\ Int32.toInt (sG k) <= 99) (xL : 0 <= Int32.toInt dN /\ Int32.toInt dN <= 16) (wX : 0 <= Int32.toInt bD /\ Int32.toInt bD <= 8) (aAC : -1 <= Int32.toInt fY /\ Int32.toInt fY <= 7) (hpost : ∀ (r : Int32) (aJV : Int32) (aGc : Int32) (aJU : Int32) (aLu : Nat -> Int32), post r aJV aGc aJU aLu) : ∀ (n : Nat) (x1 x2 rJ pX rO : Int32) (vQ : Nat -> Int32), (0 <= Int32.toInt x1 /\ Int32.toInt x1 <= 255) -> (0 <= Int32.toInt x2 /\ Int32.toInt x2 <= 16) -> (16 - Int32.toInt x2 < (n : Int)) -> wb_X5_workSeconds_28 post oY rD sG dN bD mX oE dY fY n x1 x2 rJ pX rO vQ := by
  intro n
  induction n with
  | zero =>
    intro x1 x2 rJ pX rO vQ aBK aBN hm
    exfalso; omega
  | succ n ih =>
    intro x1 x2 rJ pX rO vQ aBK aBN hm
    exact ts_X5_workSeconds_28 oY rD sG dN bD mX oE dY fY aAE zR aAX xL wX aAC hpost ih x1 x2 rJ pX rO vQ aBK aBN (by omega)
set_option maxHeartbeats 8000000 in
set_option maxRecDepth 200000 in
theorem ts_X5_workSeconds_2 {post : Int32 -> Int32 -> Int32 -> Int32 -> (Nat -> Int32) -> Prop} {next : Int32 -> Int32 -> Int32 -> Int32 -> Int32 -> (Nat -> Int32) -> Prop} {n2 : Int} (oY : Int32) (rD sG : Nat -> Int32) (dN bD : Int32) (mX oE dY : Nat -> Int32) (fY : Int32) (aAE : 0 <= Int32.toInt oY /\ Int32.toInt oY <= 65535) (zR : ∀ k : Nat, 0 <= Int32.toInt (rD k) /\ Int32.toInt (rD k) <= 65535) (aAX : ∀ k : Nat, 0 <= Int32.toInt (sG k) /\ Int32.toInt (sG k) <= 99) (xL : 0 <= Int32.toInt dN /\ Int32.toInt dN <= 16) (wX : 0 <= Int32.toInt bD /\ Int32.toInt bD <= 8) (aAC : -1 <= Int32.toInt fY /\ Int32.toInt fY <= 7) (hpost : ∀ (r : Int32) (aJV : Int32) (aGc : Int32) (aJU : Int32) (aLu : Nat -> Int32), post r aJV aGc aJU aLu) (hKn : ∀ (x1 : Int32) (x2 : Int32) (rJ : Int32) (pX : Int32) (rO : Int32) (vQ : Nat -> Int32), (0 <= Int32.toInt x1 /\ Int32.toInt x1 <= 255) -> (0 <= Int32.toInt x2 /\ Int32.toInt x2 <= 8) -> (8 - Int32.toInt x2 < n2) -> next x1 x2 rJ pX rO vQ) (x1 x2 rJ pX rO : Int32) (vQ : Nat -> Int32) (aBK : 0 <= Int32.toInt x1 /\ Int32.toInt x1 <= 255) (aBN : 0 <= Int32.toInt x2 /\ Int32.toInt x2 <= 8) (hn2 : 8 - Int32.toInt x2 <= n2) : ws_X5_workSeconds_2 post next oY rD sG dN bD mX oE dY fY x1 x2 rJ pX rO vQ := by
  have l0 := aE0
  have l1 := aEc
  have l2 := li_8
  refine And.intro (fun c75 => ?_) (fun c75 => ?_)
  · skip
    have c75 := (aAO _ _).mp c75
    have f76 := aAT rJ
    have f77 := aAT rO
    exact ⟨18, tb_X5_workSeconds_28 oY rD sG dN bD mX oE dY fY aAE zR aAX xL wX aAC hpost _ x1 0 rJ 0 rO vQ aBK (by omega) (by omega)⟩
  · skip
    have c75 := mt (aAO _ _).mpr c75
    refine And.intro (aBZ (by omega)) ?_
    intro v78 ev78
    have f79 : Int32.toInt (x2 + 1) = Int32.toInt x2 + Int32.toInt (1 : Int32) := aAD _ _ (by omega)
    rw [<- ev78] at f79
    have f80 := aAT rJ
    have f81 := aAT pX
    have f82 := aAT rO
    exact hKn x1 v78 rJ pX rO (upd vQ x2.toNatClampNeg 0) aBK (by omega) (by omega)
set_option maxHeartbeats 8000000 in
set_option maxRecDepth 200000 in
theorem tb_X5_workSeconds_2 {post : Int32 -> Int32 -> Int32 -> Int32 -> (Nat -> Int32) -> Prop} (oY : Int32) (rD sG : Nat -> Int32) (dN bD : Int32) (mX oE dY : Nat -> Int32) (fY : Int32) (aAE : 0 <= Int32.toInt oY /\ Int32.toInt oY <= 65535) (zR : ∀ k : Nat, 0 <= Int32.toInt (rD k) /\ Int32.toInt (rD k) <= 65535) (aAX : ∀ k : Nat, 0 <= Int32.toInt (sG k) /\ Int32.toInt (sG k) <= 99) (xL : 0 <= Int32.toInt dN /\ Int32.toInt dN <= 16) (wX : 0 <= Int32.toInt bD /\ Int32.toInt bD <= 8) (aAC : -1 <= Int32.toInt fY /\ Int32.toInt fY <= 7) (hpost : ∀ (r : Int32) (aJV : Int32) (aGc : Int32) (aJU : Int32) (aLu : Nat -> Int32), post r aJV aGc aJU aLu) : ∀ (n : Nat) (x1 x2 rJ pX rO : Int32) (vQ : Nat -> Int32), (0 <= Int32.toInt x1 /\ Int32.toInt x1 <= 255) -> (0 <= Int32.toInt x2 /\ Int32.toInt x2 <= 8) -> (8 - Int32.toInt x2 < (n : Int)) -> wb_X5_workSeconds_2 post oY rD sG dN bD mX oE dY fY n x1 x2 rJ pX rO vQ := by
  intro n
  induction n with
  | zero =>
    intro x1 x2 rJ pX rO vQ aBK aBN hm
    exfalso; omega
  | succ n ih =>
    intro x1 x2 rJ pX rO vQ aBK aBN hm
    exact ts_X5_workSeconds_2 oY rD sG dN bD mX oE dY fY aAE zR aAX xL wX aAC hpost ih x1 x2 rJ pX rO vQ aBK aBN (by omega)
set_option maxHeartbeats 8000000 in
set_option maxRecDepth 200000 in
theorem t_X5_workSeconds {post : Int32 -> Int32 -> Int32 -> Int32 -> (Nat -> Int32) -> Prop} {p0 oY rJ pX rO : Int32} {rD sG vQ : Nat -> Int32} {dN bD : Int32} {mX oE dY : Nat -> Int32} {fY : Int32} (h_p0 : 0 <= Int32.toInt p0 /\ Int32.toInt p0 <= 255) (aAE : 0 <= Int32.toInt oY /\ Int32.toInt oY <= 65535) (zR : ∀ k : Nat, 0 <= Int32.toInt (rD k) /\ Int32.toInt (rD k) <= 65535) (aAX : ∀ k : Nat, 0 <= Int32.toInt (sG k) /\ Int32.toInt (sG k) <= 99) (xL : 0 <= Int32.toInt dN /\ Int32.toInt dN <= 16) (wX : 0 <= Int32.toInt bD /\ Int32.toInt bD <= 8) (aAC : -1 <= Int32.toInt fY /\ Int32.toInt fY <= 7) (hpost : ∀ (r : Int32) (aJV : Int32) (aGc : Int32) (aJU : Int32) (aLu : Nat -> Int32), post r aJV aGc aJU aLu) : wp_X5_workSeconds post p0 oY rJ pX rO rD sG vQ dN bD mX oE dY fY := by
  have l0 := aE0
  have f83 := aAT rJ
  have f84 := aAT pX
  have f85 := aAT rO
  exact ⟨10, tb_X5_workSeconds_2 oY rD sG dN bD mX oE dY fY aAE zR aAX xL wX aAC hpost _ p0 0 rJ pX rO vQ h_p0 (by omega) (by omega)⟩
set_option maxHeartbeats 8000000 in
set_option maxRecDepth 200000 in
theorem t_X9_work {post : Int32 -> Int32 -> Int32 -> Int32 -> Int32 -> (Nat -> Int32) -> (Nat -> Int32) -> (Nat -> Int32) -> (Nat -> Int32) -> (Nat -> Int32) -> Int32 -> (Nat -> Int32) -> Prop} {p0 oY rJ pX rO : Int32} {rD sG vQ : Nat -> Int32} {dN bD : Int32} {uU gF pL qF mX oE dY : Nat -> Int32} {jE eW eY dU fY gJ jG pQ : Int32} {qY qU pN : Nat -> Int32} {qB : Int32} {jK : Nat -> Int32} (aAE : 0 <= Int32.toInt oY /\ Int32.toInt oY <= 65535) (zR : ∀ k : Nat, 0 <= Int32.toInt (rD k) /\ Int32.toInt (rD k) <= 65535) (aAX : ∀ k : Nat, 0 <= Int32.toInt (sG k) /\ Int32.toInt (sG k) <= 99) (xL : 0 <= Int32.toInt dN /\ Int32.toInt dN <= 16) (wX : 0 <= Int32.toInt bD /\ Int32.toInt bD <= 8) (aAC : -1 <= Int32.toInt fY /\ Int32.toInt fY <= 7) (zK : 0 <= Int32.toInt jG /\ Int32.toInt jG <= 9) (zU : 0 <= Int32.toInt pQ /\ Int32.toInt pQ <= 40) (aAK : 0 <= Int32.toInt qB /\ Int32.toInt qB <= 16) (hpost : ∀ (r : Int32) (aAY : Int32) (aJV : Int32) (aGc : Int32) (aJU : Int32) (aBC : Nat -> Int32) (aC9 : Nat -> Int32) (aLu : Nat -> Int32) (aCG : Nat -> Int32) (aB4 : Nat -> Int32) (zV : Int32) (aAV : Nat -> Int32), (0 <= Int32.toInt aAY /\ Int32.toInt aAY <= 65535) -> (∀ k : Nat, 0 <= Int32.toInt (aBC k) /\ Int32.toInt (aBC k) <= 65535) -> (∀ k : Nat, 0 <= Int32.toInt (aC9 k) /\ Int32.toInt (aC9 k) <= 99) -> (0 <= Int32.toInt zV /\ Int32.toInt zV <= 16) -> post r aAY aJV aGc aJU aBC aC9 aLu aCG aB4 zV aAV) : wp_X9_work post p0 oY rJ pX rO rD sG vQ dN bD uU gF pL qF mX oE dY jE eW eY dU fY gJ jG pQ qY qU pN qB jK := by
  have l0 := aE0
  have l1 := aEc
  have l2 := li_16
  intro v1 ev1
  have f2 := aDv 8 256 bD (by decide) (by omega)
  have hv1 := congrArg Int32.toInt ev1
  refine And.intro (fun c3 => ?_) (fun c3 => ?_)
  · skip
    have c3 := mt (zJ _ _).mpr c3
    refine And.intro (fun h9 => absurd h9 (by decide)) (fun _ => ?_)
    exact hpost _ _ _ _ _ _ _ _ _ _ _ _ aAE zR aAX aAK
  · skip
    have c3Z := c3
    have c3 := (zJ _ _).mp c3
    have f5 : Int32.toInt (v1 - 1) = Int32.toInt v1 - Int32.toInt (1 : Int32) := aCA _ _ (by omega)
    have s6 := ti_subset p0 (v1 - 1) (c3Z) (by omega)
    refine And.intro (fun _ => ?_) (fun h9 => absurd h9 (by decide))
    refine aVe zK aAE zR xL wX (fun pl_wanted_7 pl_near_8 h_pl_wanted_7 h_pl_near_8 => ?_)
    refine t_X5_timeAll h_pl_wanted_7 h_pl_near_8 aAX xL wX zU (fun pl_seconds_9 ru_given_10 ru_stack_11 h_pl_seconds_9 => ?_)
    refine t_X5_workSeconds (by omega) h_pl_wanted_7 h_pl_near_8 h_pl_seconds_9 xL wX aAC (fun r16 pl_moves_12 pl_picking_13 pl_downs_14 pl_many_15 => ?_)
    refine And.intro (fun h9 => absurd h9 (by decide)) (fun _ => ?_)
    refine And.intro (aBZ (by omega)) ?_
    intro v17 ev17
    have f18 : Int32.toInt (0 + 1) = Int32.toInt (0 : Int32) + Int32.toInt (1 : Int32) := aAD _ _ (by omega)
    rw [<- ev17] at f18
    refine And.intro (fun c19 => ?_) (fun c19 => ?_)
    · skip
      have c19 := (aAO _ _).mp c19
      exfalso; omega
    · skip
      have c19 := mt (aAO _ _).mpr c19
      refine And.intro (aBZ (by omega)) ?_
      intro v20 ev20
      have f21 : Int32.toInt (v17 + 1) = Int32.toInt v17 + Int32.toInt (1 : Int32) := aAD _ _ (by omega)
      rw [<- ev20] at f21
      refine And.intro (fun c22 => ?_) (fun c22 => ?_)
      · skip
        have c22 := (aAO _ _).mp c22
        exfalso; omega
      · skip
        have c22 := mt (aAO _ _).mpr c22
        refine And.intro (aBZ (by omega)) ?_
        intro v23 ev23
        have f24 : Int32.toInt (v20 + 1) = Int32.toInt v20 + Int32.toInt (1 : Int32) := aAD _ _ (by omega)
        rw [<- ev23] at f24
        exact hpost _ _ _ _ _ _ _ _ _ _ _ _ h_pl_wanted_7 h_pl_near_8 h_pl_seconds_9 (by omega)
set_option maxHeartbeats 8000000 in
set_option maxRecDepth 200000 in
theorem ts_X9_soonest_100 {post : Int32 -> Int32 -> Int32 -> Int32 -> Int32 -> (Nat -> Int32) -> (Nat -> Int32) -> (Nat -> Int32) -> (Nat -> Int32) -> (Nat -> Int32) -> Int32 -> (Nat -> Int32) -> Prop} {K33 : Int32 -> Int32 -> Int32 -> Int32 -> Int32 -> Int32 -> Int32 -> (Nat -> Int32) -> (Nat -> Int32) -> (Nat -> Int32) -> (Nat -> Int32) -> (Nat -> Int32) -> Int32 -> (Nat -> Int32) -> Prop} {n33 : Int} (dN bD : Int32) (uU gF pL qF mX oE dY : Nat -> Int32) (jE eW eY dU fY gJ jG pQ : Int32) (pN : Nat -> Int32) (xL : 0 <= Int32.toInt dN /\ Int32.toInt dN <= 16) (wX : 0 <= Int32.toInt bD /\ Int32.toInt bD <= 8) (aAC : -1 <= Int32.toInt fY /\ Int32.toInt fY <= 7) (zK : 0 <= Int32.toInt jG /\ Int32.toInt jG <= 9) (zU : 0 <= Int32.toInt pQ /\ Int32.toInt pQ <= 40) (hpost : ∀ (r : Int32) (aAY : Int32) (aJV : Int32) (aGc : Int32) (aJU : Int32) (aBC : Nat -> Int32) (aC9 : Nat -> Int32) (aLu : Nat -> Int32) (aCG : Nat -> Int32) (aB4 : Nat -> Int32) (zV : Int32) (aAV : Nat -> Int32), (0 <= Int32.toInt aAY /\ Int32.toInt aAY <= 65535) -> (∀ k : Nat, 0 <= Int32.toInt (aBC k) /\ Int32.toInt (aBC k) <= 65535) -> (∀ k : Nat, 0 <= Int32.toInt (aC9 k) /\ Int32.toInt (aC9 k) <= 99) -> (1 <= Int32.toInt zV /\ Int32.toInt zV <= 1) -> post r aAY aJV aGc aJU aBC aC9 aLu aCG aB4 zV aAV) (hK33 : ∀ (x1 : Int32) (x2 : Int32) (x3 : Int32) (oY : Int32) (rJ : Int32) (pX : Int32) (rO : Int32) (rD : Nat -> Int32) (sG : Nat -> Int32) (vQ : Nat -> Int32) (qY : Nat -> Int32) (qU : Nat -> Int32) (qB : Int32) (jK : Nat -> Int32), (0 <= Int32.toInt x1 /\ Int32.toInt x1 <= 255) -> (0 <= Int32.toInt x3 /\ Int32.toInt x3 <= 256) -> (0 <= Int32.toInt oY /\ Int32.toInt oY <= 65535) -> (∀ k : Nat, 0 <= Int32.toInt (rD k) /\ Int32.toInt (rD k) <= 65535) -> (∀ k : Nat, 0 <= Int32.toInt (sG k) /\ Int32.toInt (sG k) <= 99) -> (0 <= Int32.toInt qB /\ Int32.toInt qB <= 16) -> (256 - Int32.toInt x3 < n33) -> K33 x1 x2 x3 oY rJ pX rO rD sG vQ qY qU qB jK) (x1 x2 x3 oY rJ pX rO : Int32) (rD sG vQ qY qU : Nat -> Int32) (qB : Int32) (jK : Nat -> Int32) (aBK : 0 <= Int32.toInt x1 /\ Int32.toInt x1 <= 255) (aCH : 0 <= Int32.toInt x3 /\ Int32.toInt x3 <= 255) (aAE : 0 <= Int32.toInt oY /\ Int32.toInt oY <= 65535) (zR : ∀ k : Nat, 0 <= Int32.toInt (rD k) /\ Int32.toInt (rD k) <= 65535) (aAX : ∀ k : Nat, 0 <= Int32.toInt (sG k) /\ Int32.toInt (sG k) <= 99) (aAK : 0 <= Int32.toInt qB /\ Int32.toInt qB <= 16) (hn33 : 256 - Int32.toInt x3 <= n33) : ws_X9_soonest_100 post K33 dN bD uU gF pL qF mX oE dY jE eW eY dU fY gJ jG pQ pN x1 x2 x3 oY rJ pX rO rD sG vQ qY qU qB jK := by
  have l0 := aEc
  intro v1 ev1
  have f2 : Int32.toInt (x3 + 1) = Int32.toInt x3 + Int32.toInt (1 : Int32) := aAD _ _ (by omega)
  rw [<- ev1] at f2
  have f3 := aAT x2
  have f4 := aAT rJ
  have f5 := aAT pX
  have f6 := aAT rO
  exact hK33 x1 x2 v1 oY rJ pX rO rD sG vQ qY qU qB jK aBK (by omega) aAE zR aAX aAK (by omega)
set_option maxHeartbeats 8000000 in
set_option maxRecDepth 200000 in
theorem ts_X9_soonest_95 {post : Int32 -> Int32 -> Int32 -> Int32 -> Int32 -> (Nat -> Int32) -> (Nat -> Int32) -> (Nat -> Int32) -> (Nat -> Int32) -> (Nat -> Int32) -> Int32 -> (Nat -> Int32) -> Prop} {K33 : Int32 -> Int32 -> Int32 -> Int32 -> Int32 -> Int32 -> Int32 -> (Nat -> Int32) -> (Nat -> Int32) -> (Nat -> Int32) -> (Nat -> Int32) -> (Nat -> Int32) -> Int32 -> (Nat -> Int32) -> Prop} {n33 : Int} (dN bD : Int32) (uU gF pL qF mX oE dY : Nat -> Int32) (jE eW eY dU fY gJ jG pQ : Int32) (pN : Nat -> Int32) (xL : 0 <= Int32.toInt dN /\ Int32.toInt dN <= 16) (wX : 0 <= Int32.toInt bD /\ Int32.toInt bD <= 8) (aAC : -1 <= Int32.toInt fY /\ Int32.toInt fY <= 7) (zK : 0 <= Int32.toInt jG /\ Int32.toInt jG <= 9) (zU : 0 <= Int32.toInt pQ /\ Int32.toInt pQ <= 40) (hpost : ∀ (r : Int32) (aAY : Int32) (aJV : Int32) (aGc : Int32) (aJU : Int32) (aBC : Nat -> Int32) (aC9 : Nat -> Int32) (aLu : Nat -> Int32) (aCG : Nat -> Int32) (aB4 : Nat -> Int32) (zV : Int32) (aAV : Nat -> Int32), (0 <= Int32.toInt aAY /\ Int32.toInt aAY <= 65535) -> (∀ k : Nat, 0 <= Int32.toInt (aBC k) /\ Int32.toInt (aBC k) <= 65535) -> (∀ k : Nat, 0 <= Int32.toInt (aC9 k) /\ Int32.toInt (aC9 k) <= 99) -> (1 <= Int32.toInt zV /\ Int32.toInt zV <= 1) -> post r aAY aJV aGc aJU aBC aC9 aLu aCG aB4 zV aAV) (hK33 : ∀ (x1 : Int32) (x2 : Int32) (x3 : Int32) (oY : Int32) (rJ : Int32) (pX : Int32) (rO : Int32) (rD : Nat -> Int32) (sG : Nat -> Int32) (vQ : Nat -> Int32) (qY : Nat -> Int32) (qU : Nat -> Int32) (qB : Int32) (jK : Nat -> Int32), (0 <= Int32.toInt x1 /\ Int32.toInt x1 <= 255) -> (0 <= Int32.toInt x3 /\ Int32.toInt x3 <= 256) -> (0 <= Int32.toInt oY /\ Int32.toInt oY <= 65535) -> (∀ k : Nat, 0 <= Int32.toInt (rD k) /\ Int32.toInt (rD k) <= 65535) -> (∀ k : Nat, 0 <= Int32.toInt (sG k) /\ Int32.toInt (sG k) <= 99) -> (0 <= Int32.toInt qB /\ Int32.toInt qB <= 16) -> (256 - Int32.toInt x3 < n33) -> K33 x1 x2 x3 oY rJ pX rO rD sG vQ qY qU qB jK) (x3 x4 oY rJ pX rO : Int32) (rD sG vQ qY qU : Nat -> Int32) (qB : Int32) (jK : Nat -> Int32) (aCH : 0 <= Int32.toInt x3 /\ Int32.toInt x3 <= 255) (aAE : 0 <= Int32.toInt oY /\ Int32.toInt oY <= 65535) (zR : ∀ k : Nat, 0 <= Int32.toInt (rD k) /\ Int32.toInt (rD k) <= 65535) (aAX : ∀ k : Nat, 0 <= Int32.toInt (sG k) /\ Int32.toInt (sG k) <= 99) (aAK : 0 <= Int32.toInt qB /\ Int32.toInt qB <= 16) (hn33 : 256 - Int32.toInt x3 <= n33) : ws_X9_soonest_95 post K33 dN bD uU gF pL qF mX oE dY jE eW eY dU fY gJ jG pQ pN x3 x4 oY rJ pX rO rD sG vQ qY qU qB jK := by
  have f7 := aAT x4
  have f8 := aAT rJ
  have f9 := aAT pX
  have f10 := aAT rO
  exact ts_X9_soonest_100 dN bD uU gF pL qF mX oE dY jE eW eY dU fY gJ jG pQ pN xL wX aAC zK zU hpost hK33 x3 x4 x3 oY rJ pX rO rD sG vQ qY qU qB jK aCH aCH aAE zR aAX aAK hn33
set_option maxHeartbeats 8000000 in
set_option maxRecDepth 200000 in
theorem ts_X9_soonest_33 {post : Int32 -> Int32 -> Int32 -> Int32 -> Int32 -> (Nat -> Int32) -> (Nat -> Int32) -> (Nat -> Int32) -> (Nat -> Int32) -> (Nat -> Int32) -> Int32 -> (Nat -> Int32) -> Prop} {next : Int32 -> Int32 -> Int32 -> Int32 -> Int32 -> Int32 -> Int32 -> (Nat -> Int32) -> (Nat -> Int32) -> (Nat -> Int32) -> (Nat -> Int32) -> (Nat -> Int32) -> Int32 -> (Nat -> Int32) -> Prop} {n33 : Int} (dN bD : Int32) (uU gF pL qF mX oE dY : Nat -> Int32) (jE eW eY dU fY gJ jG pQ : Int32) (pN : Nat -> Int32) (xL : 0 <= Int32.toInt dN /\ Int32.toInt dN <= 16) (wX : 0 <= Int32.toInt bD /\ Int32.toInt bD <= 8) (aAC : -1 <= Int32.toInt fY /\ Int32.toInt fY <= 7) (zK : 0 <= Int32.toInt jG /\ Int32.toInt jG <= 9) (zU : 0 <= Int32.toInt pQ /\ Int32.toInt pQ <= 40) (hpost : ∀ (r : Int32) (aAY : Int32) (aJV : Int32) (aGc : Int32) (aJU : Int32) (aBC : Nat -> Int32) (aC9 : Nat -> Int32) (aLu : Nat -> Int32) (aCG : Nat -> Int32) (aB4 : Nat -> Int32) (zV : Int32) (aAV : Nat -> Int32), (0 <= Int32.toInt aAY /\ Int32.toInt aAY <= 65535) -> (∀ k : Nat, 0 <= Int32.toInt (aBC k) /\ Int32.toInt (aBC k) <= 65535) -> (∀ k : Nat, 0 <= Int32.toInt (aC9 k) /\ Int32.toInt (aC9 k) <= 99) -> (1 <= Int32.toInt zV /\ Int32.toInt zV <= 1) -> post r aAY aJV aGc aJU aBC aC9 aLu aCG aB4 zV aAV) (hKn : ∀ (x1 : Int32) (x2 : Int32) (x3 : Int32) (oY : Int32) (rJ : Int32) (pX : Int32) (rO : Int32) (rD : Nat -> Int32) (sG : Nat -> Int32) (vQ : Nat -> Int32) (qY : Nat -> Int32) (qU : Nat -> Int32) (qB : Int32) (jK : Nat -> Int32), (0 <= Int32.toInt x1 /\ Int32.toInt x1 <= 255) -> (0 <= Int32.toInt x3 /\ Int32.toInt x3 <= 256) -> (0 <= Int32.toInt oY /\ Int32.toInt oY <= 65535) -> (∀ k : Nat, 0 <= Int32.toInt (rD k) /\ Int32.toInt (rD k) <= 65535) -> (∀ k : Nat, 0 <= Int32.toInt (sG k) /\ Int32.toInt (sG k) <= 99) -> (0 <= Int32.toInt qB /\ Int32.toInt qB <= 16) -> (256 - Int32.toInt x3 < n33) -> next x1 x2 x3 oY rJ pX rO rD sG vQ qY qU qB jK) (x1 x2 x3 oY rJ pX rO : Int32) (rD sG vQ qY qU : Nat -> Int32) (qB : Int32) (jK : Nat -> Int32) (aBK : 0 <= Int32.toInt x1 /\ Int32.toInt x1 <= 255) (aCH : 0 <= Int32.toInt x3 /\ Int32.toInt x3 <= 256) (aAE : 0 <= Int32.toInt oY /\ Int32.toInt oY <= 65535) (zR : ∀ k : Nat, 0 <= Int32.toInt (rD k) /\ Int32.toInt (rD k) <= 65535) (aAX : ∀ k : Nat, 0 <= Int32.toInt (sG k) /\ Int32.toInt (sG k) <= 99) (aAK : 0 <= Int32.toInt qB /\ Int32.toInt qB <= 16) (hn33 : 256 - Int32.toInt x3 <= n33) : ws_X9_soonest_33 post next dN bD uU gF pL qF mX oE dY jE eW eY dU fY gJ jG pQ pN x1 x2 x3 oY rJ pX rO rD sG vQ qY qU qB jK := by
  have l0 := aE0
  have l1 := aEc
  intro v11 ev11
  have f12 := aDv 8 256 bD (by decide) (by omega)
  have hv11 := congrArg Int32.toInt ev11
  have f14 : Int32.toInt (v11 - 1) = Int32.toInt v11 - Int32.toInt (1 : Int32) := aCA _ _ (by omega)
  refine And.intro (fun c13 => ?_) (fun c13 => ?_)
  · skip
    have c13 := (aAO _ _).mp c13
    refine And.intro (fun h9 => absurd h9 (by decide)) (fun _ => ?_)
    refine And.intro (aBZ (by omega)) ?_
    intro v15 ev15
    have f16 : Int32.toInt (0 + 1) = Int32.toInt (0 : Int32) + Int32.toInt (1 : Int32) := aAD _ _ (by omega)
    rw [<- ev15] at f16
    exact hpost _ _ _ _ _ _ _ _ _ _ _ _ aAE zR aAX (by omega)
  · skip
    have c13 := mt (aAO _ _).mpr c13
    refine aUy (by omega) zR wX (fun r17 h_r17 => ?_)
    have f20 := aBx oY (r17 ^^^ (-1)) (by omega)
    refine And.intro (fun c18 => ?_) (fun c18 => ?_)
    · skip
      have c18 := mt (zJ _ _).mpr c18
      have f21 := aAT x2
      have f22 := aAT rJ
      have f23 := aAT pX
      have f24 := aAT rO
      exact ts_X9_soonest_100 dN bD uU gF pL qF mX oE dY jE eW eY dU fY gJ jG pQ pN xL wX aAC zK zU hpost hKn x1 x2 x3 oY rJ pX rO rD sG vQ qY qU qB jK aBK (by omega) aAE zR aAX aAK hn33
    · skip
      have c18Z := c18
      have c18 := (zJ _ _).mp c18
      have s25 := ti_subset oY r17 (c18Z) (by omega)
      refine t_X5_workSeconds (by omega) aAE zR aAX xL wX aAC (fun r30 pl_moves_26 pl_picking_27 pl_downs_28 pl_many_29 => ?_)
      have f32 := aAT r30
      have f33 := aAT x2
      refine And.intro (fun c31 => ?_) (fun c31 => ?_)
      · skip
        have c31 := (aAd _ _).mp c31
        have f34 := aAT pl_moves_26
        have f35 := aAT pl_picking_27
        have f36 := aAT pl_downs_28
        exact ts_X9_soonest_95 dN bD uU gF pL qF mX oE dY jE eW eY dU fY gJ jG pQ pN xL wX aAC zK zU hpost hKn x3 r30 oY pl_moves_26 pl_picking_27 pl_downs_28 rD sG pl_many_29 qY qU qB jK (by omega) aAE zR aAX aAK hn33
      · skip
        have c31 := mt (aAd _ _).mpr c31
        refine And.intro (fun c37 => ?_) (fun c37 => ?_)
        · skip
          have c37 := mt (zJ _ _).mpr c37
          have f38 := aAT pl_moves_26
          have f39 := aAT pl_picking_27
          have f40 := aAT pl_downs_28
          exact ts_X9_soonest_100 dN bD uU gF pL qF mX oE dY jE eW eY dU fY gJ jG pQ pN xL wX aAC zK zU hpost hKn x1 x2 x3 oY pl_moves_26 pl_picking_27 pl_downs_28 rD sG pl_many_29 qY qU qB jK aBK (by omega) aAE zR aAX aAK hn33
        · skip
          have c37 := (zJ _ _).mp c37
          refine t_X9_isFewer (by omega) aBK (fun r41 h_r41 => ?_)
          refine And.intro (fun c42 => ?_) (fun c42 => ?_)
          · skip
            have c42 := (zJ _ _).mp c42
            have f43 := aAT pl_moves_26
            have f44 := aAT pl_picking_27
            have f45 := aAT pl_downs_28
            exact ts_X9_soonest_100 dN bD uU gF pL qF mX oE dY jE eW eY dU fY gJ jG pQ pN xL wX aAC zK zU hpost hKn x1 x2 x3 oY pl_moves_26 pl_picking_27 pl_downs_28 rD sG pl_many_29 qY qU qB jK aBK (by omega) aAE zR aAX aAK hn33
          · skip
            have c42 := mt (zJ _ _).mpr c42
            have f46 := aAT pl_moves_26
            have f47 := aAT pl_picking_27
            have f48 := aAT pl_downs_28
            exact ts_X9_soonest_95 dN bD uU gF pL qF mX oE dY jE eW eY dU fY gJ jG pQ pN xL wX aAC zK zU hpost hKn x3 r30 oY pl_moves_26 pl_picking_27 pl_downs_28 rD sG pl_many_29 qY qU qB jK (by omega) aAE zR aAX aAK hn33
set_option maxHeartbeats 8000000 in
set_option maxRecDepth 200000 in
theorem tb_X9_soonest_33 {post : Int32 -> Int32 -> Int32 -> Int32 -> Int32 -> (Nat -> Int32) -> (Nat -> Int32) -> (Nat -> Int32) -> (Nat -> Int32) -> (Nat -> Int32) -> Int32 -> (Nat -> Int32) -> Prop} (dN bD : Int32) (uU gF pL qF mX oE dY : Nat -> Int32) (jE eW eY dU fY gJ jG pQ : Int32) (pN : Nat -> Int32) (xL : 0 <= Int32.toInt dN /\ Int32.toInt dN <= 16) (wX : 0 <= Int32.toInt bD /\ Int32.toInt bD <= 8) (aAC : -1 <= Int32.toInt fY /\ Int32.toInt fY <= 7) (zK : 0 <= Int32.toInt jG /\ Int32.toInt jG <= 9) (zU : 0 <= Int32.toInt pQ /\ Int32.toInt pQ <= 40) (hpost : ∀ (r : Int32) (aAY : Int32) (aJV : Int32) (aGc : Int32) (aJU : Int32) (aBC : Nat -> Int32) (aC9 : Nat -> Int32) (aLu : Nat -> Int32) (aCG : Nat -> Int32) (aB4 : Nat -> Int32) (zV : Int32) (aAV : Nat -> Int32), (0 <= Int32.toInt aAY /\ Int32.toInt aAY <= 65535) -> (∀ k : Nat, 0 <= Int32.toInt (aBC k) /\ Int32.toInt (aBC k) <= 65535) -> (∀ k : Nat, 0 <= Int32.toInt (aC9 k) /\ Int32.toInt (aC9 k) <= 99) -> (1 <= Int32.toInt zV /\ Int32.toInt zV <= 1) -> post r aAY aJV aGc aJU aBC aC9 aLu aCG aB4 zV aAV) : ∀ (n : Nat) (x1 x2 x3 oY rJ pX rO : Int32) (rD sG vQ qY qU : Nat -> Int32) (qB : Int32) (jK : Nat -> Int32), (0 <= Int32.toInt x1 /\ Int32.toInt x1 <= 255) -> (0 <= Int32.toInt x3 /\ Int32.toInt x3 <= 256) -> (0 <= Int32.toInt oY /\ Int32.toInt oY <= 65535) -> (∀ k : Nat, 0 <= Int32.toInt (rD k) /\ Int32.toInt (rD k) <= 65535) -> (∀ k : Nat, 0 <= Int32.toInt (sG k) /\ Int32.toInt (sG k) <= 99) -> (0 <= Int32.toInt qB /\ Int32.toInt qB <= 16) -> (256 - Int32.toInt x3 < (n : Int)) -> wb_X9_soonest_33 post dN bD uU gF pL qF mX oE dY jE eW eY dU fY gJ jG pQ pN n x1 x2 x3 oY rJ pX rO rD sG vQ qY qU qB jK := by
  intro n
  induction n with
  | zero =>
    intro x1 x2 x3 oY rJ pX rO rD sG vQ qY qU qB jK aBK aCH aAE zR aAX aAK hm
    exfalso; omega
  | succ n ih =>
    intro x1 x2 x3 oY rJ pX rO rD sG vQ qY qU qB jK aBK aCH aAE zR aAX aAK hm
    exact ts_X9_soonest_33 dN bD uU gF pL qF mX oE dY jE eW eY dU fY gJ jG pQ pN xL wX aAC zK zU hpost ih x1 x2 x3 oY rJ pX rO rD sG vQ qY qU qB jK aBK aCH aAE zR aAX aAK (by omega)
set_option maxHeartbeats 8000000 in
set_option maxRecDepth 200000 in
theorem t_X9_soonest {post : Int32 -> Int32 -> Int32 -> Int32 -> Int32 -> (Nat -> Int32) -> (Nat -> Int32) -> (Nat -> Int32) -> (Nat -> Int32) -> (Nat -> Int32) -> Int32 -> (Nat -> Int32) -> Prop} {oY rJ pX rO : Int32} {rD sG vQ : Nat -> Int32} {dN bD : Int32} {uU gF pL qF mX oE dY : Nat -> Int32} {jE eW eY dU fY gJ jG pQ : Int32} {qY qU pN : Nat -> Int32} {qB : Int32} {jK : Nat -> Int32} (aAE : 0 <= Int32.toInt oY /\ Int32.toInt oY <= 65535) (zR : ∀ k : Nat, 0 <= Int32.toInt (rD k) /\ Int32.toInt (rD k) <= 65535) (aAX : ∀ k : Nat, 0 <= Int32.toInt (sG k) /\ Int32.toInt (sG k) <= 99) (xL : 0 <= Int32.toInt dN /\ Int32.toInt dN <= 16) (wX : 0 <= Int32.toInt bD /\ Int32.toInt bD <= 8) (aAC : -1 <= Int32.toInt fY /\ Int32.toInt fY <= 7) (zK : 0 <= Int32.toInt jG /\ Int32.toInt jG <= 9) (zU : 0 <= Int32.toInt pQ /\ Int32.toInt pQ <= 40) (aAK : 0 <= Int32.toInt qB /\ Int32.toInt qB <= 16) (hpost : ∀ (r : Int32) (aAY : Int32) (aJV : Int32) (aGc : Int32) (aJU : Int32) (aBC : Nat -> Int32) (aC9 : Nat -> Int32) (aLu : Nat -> Int32) (aCG : Nat -> Int32) (aB4 : Nat -> Int32) (zV : Int32) (aAV : Nat -> Int32), (0 <= Int32.toInt aAY /\ Int32.toInt aAY <= 65535) -> (∀ k : Nat, 0 <= Int32.toInt (aBC k) /\ Int32.toInt (aBC k) <= 65535) -> (∀ k : Nat, 0 <= Int32.toInt (aC9 k) /\ Int32.toInt (aC9 k) <= 99) -> (1 <= Int32.toInt zV /\ Int32.toInt zV <= 1) -> post r aAY aJV aGc aJU aBC aC9 aLu aCG aB4 zV aAV) : wp_X9_soonest post oY rJ pX rO rD sG vQ dN bD uU gF pL qF mX oE dY jE eW eY dU fY gJ jG pQ qY qU pN qB jK := by
  have l0 := aE0
  have l1 := aEc
  refine aVe zK aAE zR xL wX (fun pl_wanted_49 pl_near_50 h_pl_wanted_49 h_pl_near_50 => ?_)
  refine t_X5_timeAll h_pl_wanted_49 h_pl_near_50 aAX xL wX zU (fun pl_seconds_51 ru_given_52 ru_stack_53 h_pl_seconds_51 => ?_)
  intro v54 ev54
  have f55 := aDv 8 256 bD (by decide) (by omega)
  have hv54 := congrArg Int32.toInt ev54
  have f61 : Int32.toInt (v54 - 1) = Int32.toInt v54 - Int32.toInt (1 : Int32) := aCA _ _ (by omega)
  refine t_X5_workSeconds (by omega) h_pl_wanted_49 h_pl_near_50 h_pl_seconds_51 xL wX aAC (fun r60 pl_moves_56 pl_picking_57 pl_downs_58 pl_many_59 => ?_)
  have f62 := aAT r60
  have f63 := aAT pl_moves_56
  have f64 := aAT pl_picking_57
  have f65 := aAT pl_downs_58
  exact ⟨258, tb_X9_soonest_33 dN bD uU gF pL qF mX oE dY jE eW eY dU fY gJ jG pQ pN xL wX aAC zK zU hpost _ (v54 - 1) r60 0 pl_wanted_49 pl_moves_56 pl_picking_57 pl_downs_58 pl_near_50 pl_seconds_51 pl_many_59 ru_given_52 ru_stack_53 qB jK (by omega) (by omega) h_pl_wanted_49 h_pl_near_50 h_pl_seconds_51 aAK (by omega)⟩
set_option maxHeartbeats 8000000 in
set_option maxRecDepth 200000 in
theorem ts_X9_pays_104 {post : Int32 -> Int32 -> (Nat -> Int32) -> (Nat -> Int32) -> (Nat -> Int32) -> Int32 -> (Nat -> Int32) -> Prop} {K66 : Int32 -> Int32 -> Int32 -> Int32 -> Int32 -> Int32 -> (Nat -> Int32) -> (Nat -> Int32) -> (Nat -> Int32) -> Int32 -> (Nat -> Int32) -> Prop} {n66 : Int} (dN bD : Int32) (uU gF pL qF mX oE dY : Nat -> Int32) (jE eW eY dU fY gJ jG pQ : Int32) (pN : Nat -> Int32) (xL : 0 <= Int32.toInt dN /\ Int32.toInt dN <= 16) (wX : 0 <= Int32.toInt bD /\ Int32.toInt bD <= 8) (aAC : -1 <= Int32.toInt fY /\ Int32.toInt fY <= 7) (zK : 0 <= Int32.toInt jG /\ Int32.toInt jG <= 9) (zU : 0 <= Int32.toInt pQ /\ Int32.toInt pQ <= 40) (hpost : ∀ (r : Int32) (aAY : Int32) (aBC : Nat -> Int32) (aCG : Nat -> Int32) (aB4 : Nat -> Int32) (zV : Int32) (aAV : Nat -> Int32), (0 <= Int32.toInt aAY /\ Int32.toInt aAY <= 65535) -> (∀ k : Nat, 0 <= Int32.toInt (aBC k) /\ Int32.toInt (aBC k) <= 65535) -> (0 <= Int32.toInt zV /\ Int32.toInt zV <= 16) -> post r aAY aBC aCG aB4 zV aAV) (hK66 : ∀ (x1 : Int32) (x2 : Int32) (x3 : Int32) (x4 : Int32) (x5 : Int32) (oY : Int32) (rD : Nat -> Int32) (qY : Nat -> Int32) (qU : Nat -> Int32) (qB : Int32) (jK : Nat -> Int32), (0 <= Int32.toInt x1 /\ Int32.toInt x1 <= 7) -> (0 <= Int32.toInt x2 /\ Int32.toInt x2 <= 65535) -> (0 <= Int32.toInt x5 /\ Int32.toInt x5 <= 16) -> (0 <= Int32.toInt oY /\ Int32.toInt oY <= 65535) -> (∀ k : Nat, 0 <= Int32.toInt (rD k) /\ Int32.toInt (rD k) <= 65535) -> (0 <= Int32.toInt qB /\ Int32.toInt qB <= 16) -> (16 - Int32.toInt x5 < n66) -> K66 x1 x2 x3 x4 x5 oY rD qY qU qB jK) (x1 x2 x3 x4 x5 oY : Int32) (rD qY qU : Nat -> Int32) (qB : Int32) (jK : Nat -> Int32) (aBK : 0 <= Int32.toInt x1 /\ Int32.toInt x1 <= 7) (aBN : 0 <= Int32.toInt x2 /\ Int32.toInt x2 <= 65535) (aF7 : 0 <= Int32.toInt x5 /\ Int32.toInt x5 <= 15) (aAE : 0 <= Int32.toInt oY /\ Int32.toInt oY <= 65535) (zR : ∀ k : Nat, 0 <= Int32.toInt (rD k) /\ Int32.toInt (rD k) <= 65535) (aAK : 0 <= Int32.toInt qB /\ Int32.toInt qB <= 16) (hn66 : 16 - Int32.toInt x5 <= n66) : ws_X9_pays_104 post K66 dN bD uU gF pL qF mX oE dY jE eW eY dU fY gJ jG pQ pN x1 x2 x3 x4 x5 oY rD qY qU qB jK := by
  have l0 := aEc
  intro v1 ev1
  have f2 : Int32.toInt (x5 + 1) = Int32.toInt x5 + Int32.toInt (1 : Int32) := aAD _ _ (by omega)
  rw [<- ev1] at f2
  have f3 := aAT x3
  have f4 := aAT x4
  exact hK66 x1 x2 x3 x4 v1 oY rD qY qU qB jK aBK aBN (by omega) aAE zR aAK (by omega)
set_option maxHeartbeats 8000000 in
set_option maxRecDepth 200000 in
theorem ts_X9_pays_66 {post : Int32 -> Int32 -> (Nat -> Int32) -> (Nat -> Int32) -> (Nat -> Int32) -> Int32 -> (Nat -> Int32) -> Prop} {next : Int32 -> Int32 -> Int32 -> Int32 -> Int32 -> Int32 -> (Nat -> Int32) -> (Nat -> Int32) -> (Nat -> Int32) -> Int32 -> (Nat -> Int32) -> Prop} {n66 : Int} (dN bD : Int32) (uU gF pL qF mX oE dY : Nat -> Int32) (jE eW eY dU fY gJ jG pQ : Int32) (pN : Nat -> Int32) (xL : 0 <= Int32.toInt dN /\ Int32.toInt dN <= 16) (wX : 0 <= Int32.toInt bD /\ Int32.toInt bD <= 8) (aAC : -1 <= Int32.toInt fY /\ Int32.toInt fY <= 7) (zK : 0 <= Int32.toInt jG /\ Int32.toInt jG <= 9) (zU : 0 <= Int32.toInt pQ /\ Int32.toInt pQ <= 40) (hpost : ∀ (r : Int32) (aAY : Int32) (aBC : Nat -> Int32) (aCG : Nat -> Int32) (aB4 : Nat -> Int32) (zV : Int32) (aAV : Nat -> Int32), (0 <= Int32.toInt aAY /\ Int32.toInt aAY <= 65535) -> (∀ k : Nat, 0 <= Int32.toInt (aBC k) /\ Int32.toInt (aBC k) <= 65535) -> (0 <= Int32.toInt zV /\ Int32.toInt zV <= 16) -> post r aAY aBC aCG aB4 zV aAV) (hKn : ∀ (x1 : Int32) (x2 : Int32) (x3 : Int32) (x4 : Int32) (x5 : Int32) (oY : Int32) (rD : Nat -> Int32) (qY : Nat -> Int32) (qU : Nat -> Int32) (qB : Int32) (jK : Nat -> Int32), (0 <= Int32.toInt x1 /\ Int32.toInt x1 <= 7) -> (0 <= Int32.toInt x2 /\ Int32.toInt x2 <= 65535) -> (0 <= Int32.toInt x5 /\ Int32.toInt x5 <= 16) -> (0 <= Int32.toInt oY /\ Int32.toInt oY <= 65535) -> (∀ k : Nat, 0 <= Int32.toInt (rD k) /\ Int32.toInt (rD k) <= 65535) -> (0 <= Int32.toInt qB /\ Int32.toInt qB <= 16) -> (16 - Int32.toInt x5 < n66) -> next x1 x2 x3 x4 x5 oY rD qY qU qB jK) (x1 x2 x3 x4 x5 oY : Int32) (rD qY qU : Nat -> Int32) (qB : Int32) (jK : Nat -> Int32) (aBK : 0 <= Int32.toInt x1 /\ Int32.toInt x1 <= 7) (aBN : 0 <= Int32.toInt x2 /\ Int32.toInt x2 <= 65535) (aF7 : 0 <= Int32.toInt x5 /\ Int32.toInt x5 <= 16) (aAE : 0 <= Int32.toInt oY /\ Int32.toInt oY <= 65535) (zR : ∀ k : Nat, 0 <= Int32.toInt (rD k) /\ Int32.toInt (rD k) <= 65535) (aAK : 0 <= Int32.toInt qB /\ Int32.toInt qB <= 16) (hn66 : 16 - Int32.toInt x5 <= n66) : ws_X9_pays_66 post next dN bD uU gF pL qF mX oE dY jE eW eY dU fY gJ jG pQ pN x1 x2 x3 x4 x5 oY rD qY qU qB jK := by
  have l0 := aE0
  have l1 := aEc
  have l2 := aKH
  have l3 := li_16
  have l4 := aJ8
  have l5 := li_4
  have l6 := aJ9
  refine And.intro (fun c5 => ?_) (fun c5 => ?_)
  · skip
    have c5 := (aAO _ _).mp c5
    intro v6 ev6
    intro v7 ev7
    have f9 := aAQ v6 1431655765 (by omega)
    have f8 : Int32.toInt (x2 - (v6 &&& 1431655765)) = Int32.toInt x2 - Int32.toInt (v6 &&& 1431655765) := aCA _ _ (by omega)
    rw [<- ev7] at f8
    intro v10 ev10
    have f11 := aAQ v7 858993459 (by omega)
    have hv10 := congrArg Int32.toInt ev10
    intro v12 ev12
    intro v13 ev13
    have f15 := aAQ v12 858993459 (by omega)
    have f14 : Int32.toInt (v10 + (v12 &&& 858993459)) = Int32.toInt v10 + Int32.toInt (v12 &&& 858993459) := aAD _ _ (by omega)
    rw [<- ev13] at f14
    intro v16 ev16
    have hv16 := congrArg Int32.toInt ev16
    intro v18 ev18
    have f19 := aAQ v16 252645135 (by omega)
    have hv18 := congrArg Int32.toInt ev18
    intro v20 ev20
    have hv20 := congrArg Int32.toInt ev20
    intro v22 ev22
    have hv22 := congrArg Int32.toInt ev22
    intro v24 ev24
    have hv24 := congrArg Int32.toInt ev24
    intro v26 ev26
    have f27 := aAT (if 1 < v24 then v24 else 1)
    have f29 := aAT v24
    have f28 := ti_max (1 : Int32) v24
    have hv26 := congrArg Int32.toInt ev26
    intro v30 ev30
    have hv30 := congrArg Int32.toInt ev30
    intro v32 ev32
    have hv32 := congrArg Int32.toInt ev32
    have f34 := aAT v26
    refine And.intro (mt (zJ _ _).mp (by omega)) ?_
    intro v35 ev35
    refine And.intro (aBZ (by omega)) ?_
    intro v36 ev36
    have hv36 := congrArg Int32.toInt ev36
    intro v38 ev38
    have hv38 := congrArg Int32.toInt ev38
    refine And.intro (fun h9 => absurd h9 (by decide)) (fun _ => ?_)
    refine And.intro (aBZ (by omega)) ?_
    intro v40 ev40
    have f41 : Int32.toInt (0 + 1) = Int32.toInt (0 : Int32) + Int32.toInt (1 : Int32) := aAD _ _ (by omega)
    rw [<- ev40] at f41
    refine And.intro (fun c42 => ?_) (fun c42 => ?_)
    · skip
      have c42 := (aAO _ _).mp c42
      exfalso; omega
    · skip
      have c42 := mt (aAO _ _).mpr c42
      refine And.intro (aBZ (by omega)) ?_
      intro v43 ev43
      have f44 : Int32.toInt (v40 + 1) = Int32.toInt v40 + Int32.toInt (1 : Int32) := aAD _ _ (by omega)
      rw [<- ev43] at f44
      refine And.intro (fun c45 => ?_) (fun c45 => ?_)
      · skip
        have c45 := (aAO _ _).mp c45
        exfalso; omega
      · skip
        have c45 := mt (aAO _ _).mpr c45
        refine And.intro (aBZ (by omega)) ?_
        intro v46 ev46
        have f47 : Int32.toInt (v43 + 1) = Int32.toInt v43 + Int32.toInt (1 : Int32) := aAD _ _ (by omega)
        rw [<- ev46] at f47
        refine aUx xL (fun r48 => ?_)
        exact hpost _ _ _ _ _ _ _ aAE zR (by omega)
  · skip
    have c5 := mt (aAO _ _).mpr c5
    intro v49 ev49
    have f50 := aRJ x2 x5 (by omega)
    have hv49 := congrArg Int32.toInt ev49
    have f52 := aAQ v49 1 (by omega)
    have f53 := aBx v49 1 (by omega)
    refine And.intro (fun c51 => ?_) (fun c51 => ?_)
    · skip
      have c51 := (zJ _ _).mp c51
      have f54 := aAT x3
      have f55 := aAT x4
      exact ts_X9_pays_104 dN bD uU gF pL qF mX oE dY jE eW eY dU fY gJ jG pQ pN xL wX aAC zK zU hpost hKn x1 x2 x3 x4 x5 oY rD qY qU qB jK aBK aBN (by omega) aAE zR aAK hn66
    · skip
      have c51 := mt (zJ _ _).mpr c51
      refine aUV (by omega) aBK (by omega) xL zU (fun r58 ru_given_56 ru_stack_57 h_r58 => ?_)
      intro v59 ev59
      have hv59 := congrArg Int32.toInt ev59
      have f61 := aAT x3
      have f62 := aAT v59
      exact ts_X9_pays_104 dN bD uU gF pL qF mX oE dY jE eW eY dU fY gJ jG pQ pN xL wX aAC zK zU hpost hKn x1 x2 x3 v59 x5 oY rD ru_given_56 ru_stack_57 qB jK aBK aBN (by omega) aAE zR aAK hn66
set_option maxHeartbeats 8000000 in
set_option maxRecDepth 200000 in
theorem tb_X9_pays_66 {post : Int32 -> Int32 -> (Nat -> Int32) -> (Nat -> Int32) -> (Nat -> Int32) -> Int32 -> (Nat -> Int32) -> Prop} (dN bD : Int32) (uU gF pL qF mX oE dY : Nat -> Int32) (jE eW eY dU fY gJ jG pQ : Int32) (pN : Nat -> Int32) (xL : 0 <= Int32.toInt dN /\ Int32.toInt dN <= 16) (wX : 0 <= Int32.toInt bD /\ Int32.toInt bD <= 8) (aAC : -1 <= Int32.toInt fY /\ Int32.toInt fY <= 7) (zK : 0 <= Int32.toInt jG /\ Int32.toInt jG <= 9) (zU : 0 <= Int32.toInt pQ /\ Int32.toInt pQ <= 40) (hpost : ∀ (r : Int32) (aAY : Int32) (aBC : Nat -> Int32) (aCG : Nat -> Int32) (aB4 : Nat -> Int32) (zV : Int32) (aAV : Nat -> Int32), (0 <= Int32.toInt aAY /\ Int32.toInt aAY <= 65535) -> (∀ k : Nat, 0 <= Int32.toInt (aBC k) /\ Int32.toInt (aBC k) <= 65535) -> (0 <= Int32.toInt zV /\ Int32.toInt zV <= 16) -> post r aAY aBC aCG aB4 zV aAV) : ∀ (n : Nat) (x1 x2 x3 x4 x5 oY : Int32) (rD qY qU : Nat -> Int32) (qB : Int32) (jK : Nat -> Int32), (0 <= Int32.toInt x1 /\ Int32.toInt x1 <= 7) -> (0 <= Int32.toInt x2 /\ Int32.toInt x2 <= 65535) -> (0 <= Int32.toInt x5 /\ Int32.toInt x5 <= 16) -> (0 <= Int32.toInt oY /\ Int32.toInt oY <= 65535) -> (∀ k : Nat, 0 <= Int32.toInt (rD k) /\ Int32.toInt (rD k) <= 65535) -> (0 <= Int32.toInt qB /\ Int32.toInt qB <= 16) -> (16 - Int32.toInt x5 < (n : Int)) -> wb_X9_pays_66 post dN bD uU gF pL qF mX oE dY jE eW eY dU fY gJ jG pQ pN n x1 x2 x3 x4 x5 oY rD qY qU qB jK := by
  intro n
  induction n with
  | zero =>
    intro x1 x2 x3 x4 x5 oY rD qY qU qB jK aBK aBN aF7 aAE zR aAK hm
    exfalso; omega
  | succ n ih =>
    intro x1 x2 x3 x4 x5 oY rD qY qU qB jK aBK aBN aF7 aAE zR aAK hm
    exact ts_X9_pays_66 dN bD uU gF pL qF mX oE dY jE eW eY dU fY gJ jG pQ pN xL wX aAC zK zU hpost ih x1 x2 x3 x4 x5 oY rD qY qU qB jK aBK aBN aF7 aAE zR aAK (by omega)
set_option maxHeartbeats 8000000 in
set_option maxRecDepth 200000 in
theorem ts_X9_pays_59 {post : Int32 -> Int32 -> (Nat -> Int32) -> (Nat -> Int32) -> (Nat -> Int32) -> Int32 -> (Nat -> Int32) -> Prop} (dN bD : Int32) (uU gF pL qF mX oE dY : Nat -> Int32) (jE eW eY dU fY gJ jG pQ : Int32) (pN : Nat -> Int32) (xL : 0 <= Int32.toInt dN /\ Int32.toInt dN <= 16) (wX : 0 <= Int32.toInt bD /\ Int32.toInt bD <= 8) (aAC : -1 <= Int32.toInt fY /\ Int32.toInt fY <= 7) (zK : 0 <= Int32.toInt jG /\ Int32.toInt jG <= 9) (zU : 0 <= Int32.toInt pQ /\ Int32.toInt pQ <= 40) (hpost : ∀ (r : Int32) (aAY : Int32) (aBC : Nat -> Int32) (aCG : Nat -> Int32) (aB4 : Nat -> Int32) (zV : Int32) (aAV : Nat -> Int32), (0 <= Int32.toInt aAY /\ Int32.toInt aAY <= 65535) -> (∀ k : Nat, 0 <= Int32.toInt (aBC k) /\ Int32.toInt (aBC k) <= 65535) -> (0 <= Int32.toInt zV /\ Int32.toInt zV <= 16) -> post r aAY aBC aCG aB4 zV aAV) (x1 x2 k0 oY : Int32) (rD qY qU : Nat -> Int32) (qB : Int32) (jK : Nat -> Int32) (aBK : 0 <= Int32.toInt x1 /\ Int32.toInt x1 <= 7) (aBN : 0 <= Int32.toInt x2 /\ Int32.toInt x2 <= 65535) (aAE : 0 <= Int32.toInt oY /\ Int32.toInt oY <= 65535) (zR : ∀ k : Nat, 0 <= Int32.toInt (rD k) /\ Int32.toInt (rD k) <= 65535) (aAK : 0 <= Int32.toInt qB /\ Int32.toInt qB <= 16) : ws_X9_pays_59 post dN bD uU gF pL qF mX oE dY jE eW eY dU fY gJ jG pQ pN x1 x2 k0 oY rD qY qU qB jK := by
  have l0 := aE0
  have f63 := aAT k0
  exact ⟨18, tb_X9_pays_66 dN bD uU gF pL qF mX oE dY jE eW eY dU fY gJ jG pQ pN xL wX aAC zK zU hpost _ x1 x2 k0 0 0 oY rD qY qU qB jK aBK aBN (by omega) aAE zR aAK (by omega)⟩
set_option maxHeartbeats 8000000 in
set_option maxRecDepth 200000 in
theorem t_X9_pays {post : Int32 -> Int32 -> (Nat -> Int32) -> (Nat -> Int32) -> (Nat -> Int32) -> Int32 -> (Nat -> Int32) -> Prop} {p0 oY : Int32} {rD : Nat -> Int32} {dN bD : Int32} {uU gF pL qF mX oE dY : Nat -> Int32} {jE eW eY dU fY gJ jG pQ : Int32} {qY qU pN : Nat -> Int32} {qB : Int32} {jK : Nat -> Int32} (aAE : 0 <= Int32.toInt oY /\ Int32.toInt oY <= 65535) (zR : ∀ k : Nat, 0 <= Int32.toInt (rD k) /\ Int32.toInt (rD k) <= 65535) (xL : 0 <= Int32.toInt dN /\ Int32.toInt dN <= 16) (wX : 0 <= Int32.toInt bD /\ Int32.toInt bD <= 8) (aAC : -1 <= Int32.toInt fY /\ Int32.toInt fY <= 7) (zK : 0 <= Int32.toInt jG /\ Int32.toInt jG <= 9) (zU : 0 <= Int32.toInt pQ /\ Int32.toInt pQ <= 40) (aAK : 0 <= Int32.toInt qB /\ Int32.toInt qB <= 16) (hpost : ∀ (r : Int32) (aAY : Int32) (aBC : Nat -> Int32) (aCG : Nat -> Int32) (aB4 : Nat -> Int32) (zV : Int32) (aAV : Nat -> Int32), (0 <= Int32.toInt aAY /\ Int32.toInt aAY <= 65535) -> (∀ k : Nat, 0 <= Int32.toInt (aBC k) /\ Int32.toInt (aBC k) <= 65535) -> (0 <= Int32.toInt zV /\ Int32.toInt zV <= 16) -> post r aAY aBC aCG aB4 zV aAV) : wp_X9_pays post p0 oY rD dN bD uU gF pL qF mX oE dY jE eW eY dU fY gJ jG pQ qY qU pN qB jK := by
  have l0 := aI2
  have l1 := aE0
  have l2 := li_3
  have l3 := li_9
  have f65 := aAT p0
  refine And.intro (fun c64 => ?_) (fun c64 => ?_)
  · skip
    have c64 := (aAd _ _).mp c64
    refine And.intro (fun h9 => absurd h9 (by decide)) (fun _ => ?_)
    exact hpost _ _ _ _ _ _ _ aAE zR aAK
  · skip
    have c64 := mt (aAd _ _).mpr c64
    refine And.intro (fun c66 => ?_) (fun c66 => ?_)
    · skip
      have c66 := (aAO _ _).mp c66
      refine And.intro (fun h9 => absurd h9 (by decide)) (fun _ => ?_)
      exact hpost _ _ _ _ _ _ _ aAE zR aAK
    · skip
      have c66 := mt (aAO _ _).mpr c66
      refine And.intro (fun _ => ?_) (fun h9 => absurd h9 (by decide))
      refine aVe zK aAE zR xL wX (fun pl_wanted_67 pl_near_68 h_pl_wanted_67 h_pl_near_68 => ?_)
      refine And.intro (aBZ (by omega)) ?_
      refine And.intro (fun c69 => ?_) (fun c69 => ?_)
      · skip
        have c69 := mt (zJ _ _).mpr c69
        refine And.intro (fun c70 => ?_) (fun c70 => ?_)
        · skip
          have c70 := mt (zJ _ _).mpr c70
          intro v71 ev71
          have hv71 := congrArg Int32.toInt ev71
          refine And.intro (aBZ (by omega)) ?_
          intro v73 ev73
          have hv73 := congrArg Int32.toInt ev73
          refine And.intro (aBZ (by omega)) ?_
          intro v75 ev75
          have hv75 := congrArg Int32.toInt ev75
          intro v77 ev77
          have hv77 := congrArg Int32.toInt ev77
          have f80 := h_pl_near_68 p0.toNatClampNeg
          have f79 := aAQ pl_wanted_67 (pl_near_68 p0.toNatClampNeg) (by omega)
          have f81 := aBx pl_wanted_67 (pl_near_68 p0.toNatClampNeg) (by omega)
          exact ts_X9_pays_59 dN bD uU gF pL qF mX oE dY jE eW eY dU fY gJ jG pQ pN xL wX aAC zK zU hpost p0 (pl_wanted_67 &&& (pl_near_68 p0.toNatClampNeg)) (9 + (v71 * v77)) pl_wanted_67 pl_near_68 qY qU qB jK (by omega) (by omega) h_pl_wanted_67 h_pl_near_68 aAK
        · skip
          have c70 := (zJ _ _).mp c70
          have f84 := h_pl_near_68 p0.toNatClampNeg
          have f83 := aAQ pl_wanted_67 (pl_near_68 p0.toNatClampNeg) (by omega)
          have f85 := aBx pl_wanted_67 (pl_near_68 p0.toNatClampNeg) (by omega)
          exact ts_X9_pays_59 dN bD uU gF pL qF mX oE dY jE eW eY dU fY gJ jG pQ pN xL wX aAC zK zU hpost p0 (pl_wanted_67 &&& (pl_near_68 p0.toNatClampNeg)) 9 pl_wanted_67 pl_near_68 qY qU qB jK (by omega) (by omega) h_pl_wanted_67 h_pl_near_68 aAK
      · skip
        have c69 := (zJ _ _).mp c69
        have f87 := h_pl_near_68 p0.toNatClampNeg
        have f86 := aAQ pl_wanted_67 (pl_near_68 p0.toNatClampNeg) (by omega)
        have f88 := aBx pl_wanted_67 (pl_near_68 p0.toNatClampNeg) (by omega)
        exact ts_X9_pays_59 dN bD uU gF pL qF mX oE dY jE eW eY dU fY gJ jG pQ pN xL wX aAC zK zU hpost p0 (pl_wanted_67 &&& (pl_near_68 p0.toNatClampNeg)) 0 pl_wanted_67 pl_near_68 qY qU qB jK (by omega) (by omega) h_pl_wanted_67 h_pl_near_68 aAK
set_option maxHeartbeats 8000000 in
set_option maxRecDepth 200000 in
theorem ts_X9_trips_89 {post : Int32 -> Int32 -> (Nat -> Int32) -> Int32 -> (Nat -> Int32) -> Prop} {K64 : Int32 -> Int32 -> Int32 -> Int32 -> Int32 -> (Nat -> Int32) -> Int32 -> (Nat -> Int32) -> Prop} {n64 : Int} (dN bD : Int32) (uU gF qF mX oE dY : Nat -> Int32) (jE eW eY fY gJ jG : Int32) (xL : 0 <= Int32.toInt dN /\ Int32.toInt dN <= 16) (wX : 0 <= Int32.toInt bD /\ Int32.toInt bD <= 8) (aAC : -1 <= Int32.toInt fY /\ Int32.toInt fY <= 7) (zK : 0 <= Int32.toInt jG /\ Int32.toInt jG <= 9) (hpost : ∀ (r : Int32) (aAY : Int32) (aBC : Nat -> Int32) (zV : Int32) (aAV : Nat -> Int32), (0 <= Int32.toInt aAY /\ Int32.toInt aAY <= 65535) -> (∀ k : Nat, 0 <= Int32.toInt (aBC k) /\ Int32.toInt (aBC k) <= 65535) -> (0 <= Int32.toInt zV /\ Int32.toInt zV <= 16) -> post r aAY aBC zV aAV) (hK64 : ∀ (x2 : Int32) (x3 : Int32) (x4 : Int32) (x5 : Int32) (oY : Int32) (rD : Nat -> Int32) (qB : Int32) (jK : Nat -> Int32), (0 <= Int32.toInt x4 /\ Int32.toInt x4 <= 63) -> (0 <= Int32.toInt x5 /\ Int32.toInt x5 <= 63) -> (0 <= Int32.toInt oY /\ Int32.toInt oY <= 65535) -> (∀ k : Nat, 0 <= Int32.toInt (rD k) /\ Int32.toInt (rD k) <= 65535) -> (0 <= Int32.toInt qB /\ Int32.toInt qB <= 16) -> (63 - Int32.toInt x5 < n64) -> K64 x2 x3 x4 x5 oY rD qB jK) (x2 x3 x4 x5 oY : Int32) (rD : Nat -> Int32) (qB : Int32) (jK : Nat -> Int32) (aDO : 1 <= Int32.toInt x4 /\ Int32.toInt x4 <= 63) (aF7 : 0 <= Int32.toInt x5 /\ Int32.toInt x5 <= 62) (aAE : 0 <= Int32.toInt oY /\ Int32.toInt oY <= 65535) (zR : ∀ k : Nat, 0 <= Int32.toInt (rD k) /\ Int32.toInt (rD k) <= 65535) (aAK : 0 <= Int32.toInt qB /\ Int32.toInt qB <= 16) (hn64 : 63 - Int32.toInt x5 <= n64) : ws_X9_trips_89 post K64 dN bD uU gF qF mX oE dY jE eW eY fY gJ jG x2 x3 x4 x5 oY rD qB jK := by
  have l0 := aEc
  intro v1 ev1
  have hv1 := congrArg Int32.toInt ev1
  intro v3 ev3
  have f4 : Int32.toInt (x5 + 1) = Int32.toInt x5 + Int32.toInt (1 : Int32) := aAD _ _ (by omega)
  rw [<- ev3] at f4
  have f5 := aAT v1
  have f6 := aAT x3
  exact hK64 v1 x3 x4 v3 oY rD qB jK (by omega) (by omega) aAE zR aAK (by omega)
set_option maxHeartbeats 8000000 in
set_option maxRecDepth 200000 in
theorem ts_X9_trips_64 {post : Int32 -> Int32 -> (Nat -> Int32) -> Int32 -> (Nat -> Int32) -> Prop} {next : Int32 -> Int32 -> Int32 -> Int32 -> Int32 -> (Nat -> Int32) -> Int32 -> (Nat -> Int32) -> Prop} {n64 : Int} (dN bD : Int32) (uU gF qF mX oE dY : Nat -> Int32) (jE eW eY fY gJ jG : Int32) (xL : 0 <= Int32.toInt dN /\ Int32.toInt dN <= 16) (wX : 0 <= Int32.toInt bD /\ Int32.toInt bD <= 8) (aAC : -1 <= Int32.toInt fY /\ Int32.toInt fY <= 7) (zK : 0 <= Int32.toInt jG /\ Int32.toInt jG <= 9) (hpost : ∀ (r : Int32) (aAY : Int32) (aBC : Nat -> Int32) (zV : Int32) (aAV : Nat -> Int32), (0 <= Int32.toInt aAY /\ Int32.toInt aAY <= 65535) -> (∀ k : Nat, 0 <= Int32.toInt (aBC k) /\ Int32.toInt (aBC k) <= 65535) -> (0 <= Int32.toInt zV /\ Int32.toInt zV <= 16) -> post r aAY aBC zV aAV) (hKn : ∀ (x2 : Int32) (x3 : Int32) (x4 : Int32) (x5 : Int32) (oY : Int32) (rD : Nat -> Int32) (qB : Int32) (jK : Nat -> Int32), (0 <= Int32.toInt x4 /\ Int32.toInt x4 <= 63) -> (0 <= Int32.toInt x5 /\ Int32.toInt x5 <= 63) -> (0 <= Int32.toInt oY /\ Int32.toInt oY <= 65535) -> (∀ k : Nat, 0 <= Int32.toInt (rD k) /\ Int32.toInt (rD k) <= 65535) -> (0 <= Int32.toInt qB /\ Int32.toInt qB <= 16) -> (63 - Int32.toInt x5 < n64) -> next x2 x3 x4 x5 oY rD qB jK) (x2 x3 x4 x5 oY : Int32) (rD : Nat -> Int32) (qB : Int32) (jK : Nat -> Int32) (aDO : 0 <= Int32.toInt x4 /\ Int32.toInt x4 <= 63) (aF7 : 0 <= Int32.toInt x5 /\ Int32.toInt x5 <= 63) (aAE : 0 <= Int32.toInt oY /\ Int32.toInt oY <= 65535) (zR : ∀ k : Nat, 0 <= Int32.toInt (rD k) /\ Int32.toInt (rD k) <= 65535) (aAK : 0 <= Int32.toInt qB /\ Int32.toInt qB <= 16) (hn64 : 63 - Int32.toInt x5 <= n64) : ws_X9_trips_64 post next dN bD uU gF qF mX oE dY jE eW eY fY gJ jG x2 x3 x4 x5 oY rD qB jK := by
  have l0 := aE0
  have l1 := aEc
  have l2 := li_4
  refine And.intro (fun c7 => ?_) (fun c7 => ?_)
  · skip
    have c7 := (aAO _ _).mp c7
    refine And.intro (fun h9 => absurd h9 (by decide)) (fun _ => ?_)
    refine And.intro (aBZ (by omega)) ?_
    intro v8 ev8
    have f9 : Int32.toInt (0 + 1) = Int32.toInt (0 : Int32) + Int32.toInt (1 : Int32) := aAD _ _ (by omega)
    rw [<- ev8] at f9
    exact hpost _ _ _ _ _ aAE zR (by omega)
  · skip
    have c7 := mt (aAO _ _).mpr c7
    have f11 := aAT x2
    refine And.intro (fun c10 => ?_) (fun c10 => ?_)
    · skip
      have c10 := (aAd _ _).mp c10
      have f13 := aAT x3
      exact ts_X9_trips_89 dN bD uU gF qF mX oE dY jE eW eY fY gJ jG xL wX aAC zK hpost hKn x2 x3 x4 x5 oY rD qB jK (by omega) (by omega) aAE zR aAK hn64
    · skip
      have c10 := mt (aAd _ _).mpr c10
      intro v14 ev14
      have hv14 := congrArg Int32.toInt ev14
      have f16 := aAT v14
      exact ts_X9_trips_89 dN bD uU gF qF mX oE dY jE eW eY fY gJ jG xL wX aAC zK hpost hKn 0 v14 x4 x5 oY rD qB jK (by omega) (by omega) aAE zR aAK hn64
set_option maxHeartbeats 8000000 in
set_option maxRecDepth 200000 in
theorem tb_X9_trips_64 {post : Int32 -> Int32 -> (Nat -> Int32) -> Int32 -> (Nat -> Int32) -> Prop} (dN bD : Int32) (uU gF qF mX oE dY : Nat -> Int32) (jE eW eY fY gJ jG : Int32) (xL : 0 <= Int32.toInt dN /\ Int32.toInt dN <= 16) (wX : 0 <= Int32.toInt bD /\ Int32.toInt bD <= 8) (aAC : -1 <= Int32.toInt fY /\ Int32.toInt fY <= 7) (zK : 0 <= Int32.toInt jG /\ Int32.toInt jG <= 9) (hpost : ∀ (r : Int32) (aAY : Int32) (aBC : Nat -> Int32) (zV : Int32) (aAV : Nat -> Int32), (0 <= Int32.toInt aAY /\ Int32.toInt aAY <= 65535) -> (∀ k : Nat, 0 <= Int32.toInt (aBC k) /\ Int32.toInt (aBC k) <= 65535) -> (0 <= Int32.toInt zV /\ Int32.toInt zV <= 16) -> post r aAY aBC zV aAV) : ∀ (n : Nat) (x2 x3 x4 x5 oY : Int32) (rD : Nat -> Int32) (qB : Int32) (jK : Nat -> Int32), (0 <= Int32.toInt x4 /\ Int32.toInt x4 <= 63) -> (0 <= Int32.toInt x5 /\ Int32.toInt x5 <= 63) -> (0 <= Int32.toInt oY /\ Int32.toInt oY <= 65535) -> (∀ k : Nat, 0 <= Int32.toInt (rD k) /\ Int32.toInt (rD k) <= 65535) -> (0 <= Int32.toInt qB /\ Int32.toInt qB <= 16) -> (63 - Int32.toInt x5 < (n : Int)) -> wb_X9_trips_64 post dN bD uU gF qF mX oE dY jE eW eY fY gJ jG n x2 x3 x4 x5 oY rD qB jK := by
  intro n
  induction n with
  | zero =>
    intro x2 x3 x4 x5 oY rD qB jK aDO aF7 aAE zR aAK hm
    exfalso; omega
  | succ n ih =>
    intro x2 x3 x4 x5 oY rD qB jK aDO aF7 aAE zR aAK hm
    exact ts_X9_trips_64 dN bD uU gF qF mX oE dY jE eW eY fY gJ jG xL wX aAC zK hpost ih x2 x3 x4 x5 oY rD qB jK aDO aF7 aAE zR aAK (by omega)
set_option maxHeartbeats 8000000 in
set_option maxRecDepth 200000 in
theorem ts_X9_trips_45 {post : Int32 -> Int32 -> (Nat -> Int32) -> Int32 -> (Nat -> Int32) -> Prop} (dN bD : Int32) (uU gF qF mX oE dY : Nat -> Int32) (jE eW eY fY gJ jG : Int32) (xL : 0 <= Int32.toInt dN /\ Int32.toInt dN <= 16) (wX : 0 <= Int32.toInt bD /\ Int32.toInt bD <= 8) (aAC : -1 <= Int32.toInt fY /\ Int32.toInt fY <= 7) (zK : 0 <= Int32.toInt jG /\ Int32.toInt jG <= 9) (hpost : ∀ (r : Int32) (aAY : Int32) (aBC : Nat -> Int32) (zV : Int32) (aAV : Nat -> Int32), (0 <= Int32.toInt aAY /\ Int32.toInt aAY <= 65535) -> (∀ k : Nat, 0 <= Int32.toInt (aBC k) /\ Int32.toInt (aBC k) <= 65535) -> (0 <= Int32.toInt zV /\ Int32.toInt zV <= 16) -> post r aAY aBC zV aAV) (x1 k0 oY : Int32) (rD : Nat -> Int32) (qB : Int32) (jK : Nat -> Int32) (aBK : 0 <= Int32.toInt x1 /\ Int32.toInt x1 <= 7) (h_k0 : 0 <= Int32.toInt k0 /\ Int32.toInt k0 <= 63) (aAE : 0 <= Int32.toInt oY /\ Int32.toInt oY <= 65535) (zR : ∀ k : Nat, 0 <= Int32.toInt (rD k) /\ Int32.toInt (rD k) <= 65535) (aAK : 0 <= Int32.toInt qB /\ Int32.toInt qB <= 16) : ws_X9_trips_45 post dN bD uU gF qF mX oE dY jE eW eY fY gJ jG x1 k0 oY rD qB jK := by
  have l0 := aE0
  have l1 := aKH
  have l2 := aJ8
  have l3 := li_63
  have l4 := aJ9
  refine And.intro (aBZ (by omega)) ?_
  intro v17 ev17
  intro v18 ev18
  have f21 := zR x1.toNatClampNeg
  have f20 := aAQ oY (rD x1.toNatClampNeg) (by omega)
  have f22 := aBx oY (rD x1.toNatClampNeg) (by omega)
  have f23 := aAQ v17 1431655765 (by omega)
  have f19 : Int32.toInt ((oY &&& (rD x1.toNatClampNeg)) - (v17 &&& 1431655765)) = Int32.toInt (oY &&& (rD x1.toNatClampNeg)) - Int32.toInt (v17 &&& 1431655765) := aCA _ _ (by omega)
  rw [<- ev18] at f19
  intro v24 ev24
  have f25 := aAQ v18 858993459 (by omega)
  have hv24 := congrArg Int32.toInt ev24
  intro v26 ev26
  intro v27 ev27
  have f29 := aAQ v26 858993459 (by omega)
  have f28 : Int32.toInt (v24 + (v26 &&& 858993459)) = Int32.toInt v24 + Int32.toInt (v26 &&& 858993459) := aAD _ _ (by omega)
  rw [<- ev27] at f28
  intro v30 ev30
  have hv30 := congrArg Int32.toInt ev30
  intro v32 ev32
  have f33 := aAQ v30 252645135 (by omega)
  have hv32 := congrArg Int32.toInt ev32
  intro v34 ev34
  have hv34 := congrArg Int32.toInt ev34
  intro v36 ev36
  have hv36 := congrArg Int32.toInt ev36
  have f38 := aAQ v36 63 (by omega)
  exact ⟨65, tb_X9_trips_64 dN bD uU gF qF mX oE dY jE eW eY fY gJ jG xL wX aAC zK hpost _ k0 0 (v36 &&& 63) 0 oY rD qB jK (by omega) (by omega) aAE zR aAK (by omega)⟩
set_option maxHeartbeats 8000000 in
set_option maxRecDepth 200000 in
theorem t_X9_trips {post : Int32 -> Int32 -> (Nat -> Int32) -> Int32 -> (Nat -> Int32) -> Prop} {p0 oY : Int32} {rD : Nat -> Int32} {dN bD : Int32} {uU gF qF mX oE dY : Nat -> Int32} {jE eW eY fY gJ jG qB : Int32} {jK : Nat -> Int32} (aAE : 0 <= Int32.toInt oY /\ Int32.toInt oY <= 65535) (zR : ∀ k : Nat, 0 <= Int32.toInt (rD k) /\ Int32.toInt (rD k) <= 65535) (xL : 0 <= Int32.toInt dN /\ Int32.toInt dN <= 16) (wX : 0 <= Int32.toInt bD /\ Int32.toInt bD <= 8) (aAC : -1 <= Int32.toInt fY /\ Int32.toInt fY <= 7) (zK : 0 <= Int32.toInt jG /\ Int32.toInt jG <= 9) (aAK : 0 <= Int32.toInt qB /\ Int32.toInt qB <= 16) (hpost : ∀ (r : Int32) (aAY : Int32) (aBC : Nat -> Int32) (zV : Int32) (aAV : Nat -> Int32), (0 <= Int32.toInt aAY /\ Int32.toInt aAY <= 65535) -> (∀ k : Nat, 0 <= Int32.toInt (aBC k) /\ Int32.toInt (aBC k) <= 65535) -> (0 <= Int32.toInt zV /\ Int32.toInt zV <= 16) -> post r aAY aBC zV aAV) : wp_X9_trips post p0 oY rD dN bD uU gF qF mX oE dY jE eW eY fY gJ jG qB jK := by
  have l0 := aE0
  have l1 := aJ8
  have l2 := li_63
  have l3 := aJ9
  have f40 := aAT p0
  refine And.intro (fun c39 => ?_) (fun c39 => ?_)
  · skip
    have c39 := (aAd _ _).mp c39
    refine And.intro (fun h9 => absurd h9 (by decide)) (fun _ => ?_)
    exact hpost _ _ _ _ _ aAE zR aAK
  · skip
    have c39 := mt (aAd _ _).mpr c39
    refine And.intro (fun c41 => ?_) (fun c41 => ?_)
    · skip
      have c41 := (aAO _ _).mp c41
      refine And.intro (fun h9 => absurd h9 (by decide)) (fun _ => ?_)
      exact hpost _ _ _ _ _ aAE zR aAK
    · skip
      have c41 := mt (aAO _ _).mpr c41
      refine And.intro (fun _ => ?_) (fun h9 => absurd h9 (by decide))
      refine aVe zK aAE zR xL wX (fun pl_wanted_42 pl_near_43 h_pl_wanted_42 h_pl_near_43 => ?_)
      refine And.intro (fun c44 => ?_) (fun c44 => ?_)
      · skip
        have c44 := mt (zJ _ _).mpr c44
        exact ts_X9_trips_45 dN bD uU gF qF mX oE dY jE eW eY fY gJ jG xL wX aAC zK hpost p0 0 pl_wanted_42 pl_near_43 qB jK (by omega) (by omega) h_pl_wanted_42 h_pl_near_43 aAK
      · skip
        have c44 := (zJ _ _).mp c44
        intro v45 ev45
        intro v46 ev46
        have hv46 := congrArg Int32.toInt ev46
        intro v48 ev48
        have f49 := aAQ v46 858993459 (by omega)
        have hv48 := congrArg Int32.toInt ev48
        intro v50 ev50
        intro v51 ev51
        have f53 := aAQ v50 858993459 (by omega)
        have f52 : Int32.toInt (v48 + (v50 &&& 858993459)) = Int32.toInt v48 + Int32.toInt (v50 &&& 858993459) := aAD _ _ (by omega)
        rw [<- ev51] at f52
        intro v54 ev54
        have hv54 := congrArg Int32.toInt ev54
        intro v56 ev56
        have f57 := aAQ v54 252645135 (by omega)
        have hv56 := congrArg Int32.toInt ev56
        intro v58 ev58
        have hv58 := congrArg Int32.toInt ev58
        intro v60 ev60
        have hv60 := congrArg Int32.toInt ev60
        have f62 := aAQ v60 63 (by omega)
        exact ts_X9_trips_45 dN bD uU gF qF mX oE dY jE eW eY fY gJ jG xL wX aAC zK hpost p0 (v60 &&& 63) pl_wanted_42 pl_near_43 qB jK (by omega) (by omega) h_pl_wanted_42 h_pl_near_43 aAK
set_option maxHeartbeats 8000000 in
set_option maxRecDepth 200000 in
theorem t_X9_helps {post : Int32 -> Int32 -> (Nat -> Int32) -> Int32 -> (Nat -> Int32) -> Prop} {oY : Int32} {rD : Nat -> Int32} {dN bD : Int32} {uU gF qF mX oE dY : Nat -> Int32} {jE eW eY jG qB : Int32} {jK : Nat -> Int32} (aAE : 0 <= Int32.toInt oY /\ Int32.toInt oY <= 65535) (zR : ∀ k : Nat, 0 <= Int32.toInt (rD k) /\ Int32.toInt (rD k) <= 65535) (xL : 0 <= Int32.toInt dN /\ Int32.toInt dN <= 16) (wX : 0 <= Int32.toInt bD /\ Int32.toInt bD <= 8) (zK : 0 <= Int32.toInt jG /\ Int32.toInt jG <= 9) (aAK : 0 <= Int32.toInt qB /\ Int32.toInt qB <= 16) (hpost : ∀ (r : Int32) (aAY : Int32) (aBC : Nat -> Int32) (zV : Int32) (aAV : Nat -> Int32), (-63 <= Int32.toInt r /\ Int32.toInt r <= 63) -> (0 <= Int32.toInt aAY /\ Int32.toInt aAY <= 65535) -> (∀ k : Nat, 0 <= Int32.toInt (aBC k) /\ Int32.toInt (aBC k) <= 65535) -> (2 <= Int32.toInt zV /\ Int32.toInt zV <= 2) -> post r aAY aBC zV aAV) : wp_X9_helps post oY rD dN bD uU gF qF mX oE dY jE eW eY jG qB jK := by
  have l0 := aE0
  have l1 := aEc
  have l2 := aKH
  have l3 := li_16
  have l4 := aJ8
  have l5 := li_63
  have l6 := aJ9
  refine aVe zK aAE zR xL wX (fun aBo aCo h_pl_wanted_1 h_pl_near_2 => ?_)
  intro v3 ev3
  have f4 := aDv 8 256 bD (by decide) (by omega)
  have hv3 := congrArg Int32.toInt ev3
  have f6 : Int32.toInt (v3 - 1) = Int32.toInt v3 - Int32.toInt (1 : Int32) := aCA _ _ (by omega)
  refine t_X5_smallestCover h_pl_wanted_1 (by omega) h_pl_near_2 wX (fun r5 h_r5 => ?_)
  refine aVe zK h_pl_wanted_1 h_pl_near_2 xL wX (fun pl_wanted_7 pl_near_8 h_pl_wanted_7 h_pl_near_8 => ?_)
  intro v9 ev9
  have hv9 := congrArg Int32.toInt ev9
  have f11 : Int32.toInt (v9 - 1) = Int32.toInt v9 - Int32.toInt (1 : Int32) := aCA _ _ (by omega)
  refine t_X5_smallestCover h_pl_wanted_7 (by omega) h_pl_near_8 wX (fun r10 h_r10 => ?_)
  intro v12 ev12
  intro v13 ev13
  have f15 := aAQ v12 1431655765 (by omega)
  have f14 : Int32.toInt (aBo - (v12 &&& 1431655765)) = Int32.toInt aBo - Int32.toInt (v12 &&& 1431655765) := aCA _ _ (by omega)
  rw [<- ev13] at f14
  intro v16 ev16
  have f17 := aAQ v13 858993459 (by omega)
  have hv16 := congrArg Int32.toInt ev16
  intro v18 ev18
  intro v19 ev19
  have f21 := aAQ v18 858993459 (by omega)
  have f20 : Int32.toInt (v16 + (v18 &&& 858993459)) = Int32.toInt v16 + Int32.toInt (v18 &&& 858993459) := aAD _ _ (by omega)
  rw [<- ev19] at f20
  intro v22 ev22
  have hv22 := congrArg Int32.toInt ev22
  intro v24 ev24
  have f25 := aAQ v22 252645135 (by omega)
  have hv24 := congrArg Int32.toInt ev24
  intro v26 ev26
  have hv26 := congrArg Int32.toInt ev26
  intro v28 ev28
  have hv28 := congrArg Int32.toInt ev28
  intro v30 ev30
  intro v31 ev31
  have f33 := aAQ v30 1431655765 (by omega)
  have f32 : Int32.toInt (pl_wanted_7 - (v30 &&& 1431655765)) = Int32.toInt pl_wanted_7 - Int32.toInt (v30 &&& 1431655765) := aCA _ _ (by omega)
  rw [<- ev31] at f32
  intro v34 ev34
  have f35 := aAQ v31 858993459 (by omega)
  have hv34 := congrArg Int32.toInt ev34
  intro v36 ev36
  intro v37 ev37
  have f39 := aAQ v36 858993459 (by omega)
  have f38 : Int32.toInt (v34 + (v36 &&& 858993459)) = Int32.toInt v34 + Int32.toInt (v36 &&& 858993459) := aAD _ _ (by omega)
  rw [<- ev37] at f38
  intro v40 ev40
  have hv40 := congrArg Int32.toInt ev40
  intro v42 ev42
  have f43 := aAQ v40 252645135 (by omega)
  have hv42 := congrArg Int32.toInt ev42
  intro v44 ev44
  have hv44 := congrArg Int32.toInt ev44
  intro v46 ev46
  have hv46 := congrArg Int32.toInt ev46
  refine And.intro (fun h9 => absurd h9 (by decide)) (fun _ => ?_)
  refine And.intro (aBZ (by omega)) ?_
  intro v48 ev48
  have f49 : Int32.toInt (0 + 1) = Int32.toInt (0 : Int32) + Int32.toInt (1 : Int32) := aAD _ _ (by omega)
  rw [<- ev48] at f49
  refine And.intro (fun c50 => ?_) (fun c50 => ?_)
  · skip
    have c50 := (aAO _ _).mp c50
    exfalso; omega
  · skip
    have c50 := mt (aAO _ _).mpr c50
    refine And.intro (aBZ (by omega)) ?_
    intro v51 ev51
    have f52 : Int32.toInt (v48 + 1) = Int32.toInt v48 + Int32.toInt (1 : Int32) := aAD _ _ (by omega)
    rw [<- ev51] at f52
    intro v53 ev53
    intro v54 ev54
    have f56 := aAQ v53 1431655765 (by omega)
    have f55 : Int32.toInt (r5 - (v53 &&& 1431655765)) = Int32.toInt r5 - Int32.toInt (v53 &&& 1431655765) := aCA _ _ (by omega)
    rw [<- ev54] at f55
    intro v57 ev57
    have f58 := aAQ v54 858993459 (by omega)
    have hv57 := congrArg Int32.toInt ev57
    intro v59 ev59
    intro v60 ev60
    have f62 := aAQ v59 858993459 (by omega)
    have f61 : Int32.toInt (v57 + (v59 &&& 858993459)) = Int32.toInt v57 + Int32.toInt (v59 &&& 858993459) := aAD _ _ (by omega)
    rw [<- ev60] at f61
    intro v63 ev63
    have hv63 := congrArg Int32.toInt ev63
    intro v65 ev65
    have f66 := aAQ v63 252645135 (by omega)
    have hv65 := congrArg Int32.toInt ev65
    intro v67 ev67
    have hv67 := congrArg Int32.toInt ev67
    intro v69 ev69
    have hv69 := congrArg Int32.toInt ev69
    intro v71 ev71
    intro v72 ev72
    have f74 := aAQ v71 1431655765 (by omega)
    have f73 : Int32.toInt (r10 - (v71 &&& 1431655765)) = Int32.toInt r10 - Int32.toInt (v71 &&& 1431655765) := aCA _ _ (by omega)
    rw [<- ev72] at f73
    intro v75 ev75
    have f76 := aAQ v72 858993459 (by omega)
    have hv75 := congrArg Int32.toInt ev75
    intro v77 ev77
    intro v78 ev78
    have f80 := aAQ v77 858993459 (by omega)
    have f79 : Int32.toInt (v75 + (v77 &&& 858993459)) = Int32.toInt v75 + Int32.toInt (v77 &&& 858993459) := aAD _ _ (by omega)
    rw [<- ev78] at f79
    intro v81 ev81
    have hv81 := congrArg Int32.toInt ev81
    intro v83 ev83
    have f84 := aAQ v81 252645135 (by omega)
    have hv83 := congrArg Int32.toInt ev83
    intro v85 ev85
    have hv85 := congrArg Int32.toInt ev85
    intro v87 ev87
    have hv87 := congrArg Int32.toInt ev87
    have f90 := aAQ v69 63 (by omega)
    have f91 := aAQ v87 63 (by omega)
    have f89 : Int32.toInt ((v69 &&& 63) - (v87 &&& 63)) = Int32.toInt (v69 &&& 63) - Int32.toInt (v87 &&& 63) := aCA _ _ (by omega)
    exact hpost _ _ _ _ _ (by omega) h_pl_wanted_7 h_pl_near_8 (by omega)
set_option maxHeartbeats 8000000 in
set_option maxRecDepth 200000 in
theorem ts_X9_hooked_115 {post : Int32 -> Int32 -> (Nat -> Int32) -> Int32 -> (Nat -> Int32) -> Prop} {K50 : Int32 -> Int32 -> Int32 -> Int32 -> Int32 -> Int32 -> (Nat -> Int32) -> Int32 -> (Nat -> Int32) -> Prop} {n50 : Int} (dN bD : Int32) (uU gF qF mX oE dY : Nat -> Int32) (jE eW eY gJ jG : Int32) (xL : 0 <= Int32.toInt dN /\ Int32.toInt dN <= 16) (wX : 0 <= Int32.toInt bD /\ Int32.toInt bD <= 8) (zK : 0 <= Int32.toInt jG /\ Int32.toInt jG <= 9) (hpost : ∀ (r : Int32) (aAY : Int32) (aBC : Nat -> Int32) (zV : Int32) (aAV : Nat -> Int32), (0 <= Int32.toInt r /\ Int32.toInt r <= 65535) -> (0 <= Int32.toInt aAY /\ Int32.toInt aAY <= 65535) -> (∀ k : Nat, 0 <= Int32.toInt (aBC k) /\ Int32.toInt (aBC k) <= 65535) -> (2 <= Int32.toInt zV /\ Int32.toInt zV <= 2) -> post r aAY aBC zV aAV) (hK50 : ∀ (x1 : Int32) (x2 : Int32) (x3 : Int32) (x4 : Int32) (x5 : Int32) (oY : Int32) (rD : Nat -> Int32) (qB : Int32) (jK : Nat -> Int32), (0 <= Int32.toInt x1 /\ Int32.toInt x1 <= 65535) -> (0 <= Int32.toInt x2 /\ Int32.toInt x2 <= 65535) -> (-1 <= Int32.toInt x3 /\ Int32.toInt x3 <= 7) -> (0 <= Int32.toInt x4 /\ Int32.toInt x4 <= 63) -> (0 <= Int32.toInt x5 /\ Int32.toInt x5 <= 8) -> (0 <= Int32.toInt oY /\ Int32.toInt oY <= 65535) -> (∀ k : Nat, 0 <= Int32.toInt (rD k) /\ Int32.toInt (rD k) <= 65535) -> (0 <= Int32.toInt qB /\ Int32.toInt qB <= 16) -> (8 - Int32.toInt x5 < n50) -> K50 x1 x2 x3 x4 x5 oY rD qB jK) (x1 x2 x3 x4 x5 oY : Int32) (rD : Nat -> Int32) (qB : Int32) (jK : Nat -> Int32) (aBK : 0 <= Int32.toInt x1 /\ Int32.toInt x1 <= 65535) (aBN : 0 <= Int32.toInt x2 /\ Int32.toInt x2 <= 65535) (aCH : -1 <= Int32.toInt x3 /\ Int32.toInt x3 <= 7) (aDO : 0 <= Int32.toInt x4 /\ Int32.toInt x4 <= 63) (aF7 : 0 <= Int32.toInt x5 /\ Int32.toInt x5 <= 7) (aAE : 0 <= Int32.toInt oY /\ Int32.toInt oY <= 65535) (zR : ∀ k : Nat, 0 <= Int32.toInt (rD k) /\ Int32.toInt (rD k) <= 65535) (aAK : 0 <= Int32.toInt qB /\ Int32.toInt qB <= 16) (hn50 : 8 - Int32.toInt x5 <= n50) : ws_X9_hooked_115 post K50 dN bD uU gF qF mX oE dY jE eW eY gJ jG x1 x2 x3 x4 x5 oY rD qB jK := by
  have l0 := aEc
  intro v1 ev1
  have f2 : Int32.toInt (x5 + 1) = Int32.toInt x5 + Int32.toInt (1 : Int32) := aAD _ _ (by omega)
  rw [<- ev1] at f2
  exact hK50 x1 x2 x3 x4 v1 oY rD qB jK aBK aBN aCH aDO (by omega) aAE zR aAK (by omega)
set_option maxHeartbeats 8000000 in
set_option maxRecDepth 200000 in
theorem ts_X9_hooked_50 {post : Int32 -> Int32 -> (Nat -> Int32) -> Int32 -> (Nat -> Int32) -> Prop} {next : Int32 -> Int32 -> Int32 -> Int32 -> Int32 -> Int32 -> (Nat -> Int32) -> Int32 -> (Nat -> Int32) -> Prop} {n50 : Int} (dN bD : Int32) (uU gF qF mX oE dY : Nat -> Int32) (jE eW eY gJ jG : Int32) (xL : 0 <= Int32.toInt dN /\ Int32.toInt dN <= 16) (wX : 0 <= Int32.toInt bD /\ Int32.toInt bD <= 8) (zK : 0 <= Int32.toInt jG /\ Int32.toInt jG <= 9) (hpost : ∀ (r : Int32) (aAY : Int32) (aBC : Nat -> Int32) (zV : Int32) (aAV : Nat -> Int32), (0 <= Int32.toInt r /\ Int32.toInt r <= 65535) -> (0 <= Int32.toInt aAY /\ Int32.toInt aAY <= 65535) -> (∀ k : Nat, 0 <= Int32.toInt (aBC k) /\ Int32.toInt (aBC k) <= 65535) -> (2 <= Int32.toInt zV /\ Int32.toInt zV <= 2) -> post r aAY aBC zV aAV) (hKn : ∀ (x1 : Int32) (x2 : Int32) (x3 : Int32) (x4 : Int32) (x5 : Int32) (oY : Int32) (rD : Nat -> Int32) (qB : Int32) (jK : Nat -> Int32), (0 <= Int32.toInt x1 /\ Int32.toInt x1 <= 65535) -> (0 <= Int32.toInt x2 /\ Int32.toInt x2 <= 65535) -> (-1 <= Int32.toInt x3 /\ Int32.toInt x3 <= 7) -> (0 <= Int32.toInt x4 /\ Int32.toInt x4 <= 63) -> (0 <= Int32.toInt x5 /\ Int32.toInt x5 <= 8) -> (0 <= Int32.toInt oY /\ Int32.toInt oY <= 65535) -> (∀ k : Nat, 0 <= Int32.toInt (rD k) /\ Int32.toInt (rD k) <= 65535) -> (0 <= Int32.toInt qB /\ Int32.toInt qB <= 16) -> (8 - Int32.toInt x5 < n50) -> next x1 x2 x3 x4 x5 oY rD qB jK) (x1 x2 x3 x4 x5 oY : Int32) (rD : Nat -> Int32) (qB : Int32) (jK : Nat -> Int32) (aBK : 0 <= Int32.toInt x1 /\ Int32.toInt x1 <= 65535) (aBN : 0 <= Int32.toInt x2 /\ Int32.toInt x2 <= 65535) (aCH : -1 <= Int32.toInt x3 /\ Int32.toInt x3 <= 7) (aDO : 0 <= Int32.toInt x4 /\ Int32.toInt x4 <= 63) (aF7 : 0 <= Int32.toInt x5 /\ Int32.toInt x5 <= 8) (aAE : 0 <= Int32.toInt oY /\ Int32.toInt oY <= 65535) (zR : ∀ k : Nat, 0 <= Int32.toInt (rD k) /\ Int32.toInt (rD k) <= 65535) (aAK : 0 <= Int32.toInt qB /\ Int32.toInt qB <= 16) (hn50 : 8 - Int32.toInt x5 <= n50) : ws_X9_hooked_50 post next dN bD uU gF qF mX oE dY jE eW eY gJ jG x1 x2 x3 x4 x5 oY rD qB jK := by
  have l0 := aE0
  have l1 := aEc
  have l2 := aKH
  have l3 := li_16
  have l4 := li_2
  have l5 := aJ8
  have l6 := li_63
  have l7 := aJ9
  refine And.intro (fun c3 => ?_) (fun c3 => ?_)
  · skip
    have c3 := (aAO _ _).mp c3
    refine And.intro (fun h9 => absurd h9 (by decide)) (fun _ => ?_)
    refine And.intro (aBZ (by omega)) ?_
    intro v4 ev4
    have f5 : Int32.toInt (0 + 1) = Int32.toInt (0 : Int32) + Int32.toInt (1 : Int32) := aAD _ _ (by omega)
    rw [<- ev4] at f5
    refine And.intro (fun c6 => ?_) (fun c6 => ?_)
    · skip
      have c6 := (aAO _ _).mp c6
      exfalso; omega
    · skip
      have c6 := mt (aAO _ _).mpr c6
      refine And.intro (aBZ (by omega)) ?_
      intro v7 ev7
      have f8 : Int32.toInt (v4 + 1) = Int32.toInt v4 + Int32.toInt (1 : Int32) := aAD _ _ (by omega)
      rw [<- ev7] at f8
      exact hpost _ _ _ _ _ aBN aAE zR (by omega)
  · skip
    have c3 := mt (aAO _ _).mpr c3
    intro v9 ev9
    have hv9 := congrArg Int32.toInt ev9
    intro v11 ev11
    have hv11 := congrArg Int32.toInt ev11
    refine t_X3_within (by omega) xL (fun r13 h_r13 => ?_)
    intro v14 ev14
    have f15 := aAQ x1 r13 (by omega)
    have f16 := aBx x1 r13 (by omega)
    have hv14 := congrArg Int32.toInt ev14
    intro v17 ev17
    have f18 := ti_or 16 65536 x2 v14 (by decide) (by omega) (by omega)
    have hv17 := congrArg Int32.toInt ev17
    intro v19 ev19
    intro v20 ev20
    have f22 := aAQ v19 1431655765 (by omega)
    have f21 : Int32.toInt (v14 - (v19 &&& 1431655765)) = Int32.toInt v14 - Int32.toInt (v19 &&& 1431655765) := aCA _ _ (by omega)
    rw [<- ev20] at f21
    intro v23 ev23
    have f24 := aAQ v20 858993459 (by omega)
    have hv23 := congrArg Int32.toInt ev23
    intro v25 ev25
    intro v26 ev26
    have f28 := aAQ v25 858993459 (by omega)
    have f27 : Int32.toInt (v23 + (v25 &&& 858993459)) = Int32.toInt v23 + Int32.toInt (v25 &&& 858993459) := aAD _ _ (by omega)
    rw [<- ev26] at f27
    intro v29 ev29
    have hv29 := congrArg Int32.toInt ev29
    intro v31 ev31
    have f32 := aAQ v29 252645135 (by omega)
    have hv31 := congrArg Int32.toInt ev31
    intro v33 ev33
    have hv33 := congrArg Int32.toInt ev33
    intro v35 ev35
    have hv35 := congrArg Int32.toInt ev35
    have f38 := aAQ v35 63 (by omega)
    refine And.intro (fun c37 => ?_) (fun c37 => ?_)
    · skip
      have c37 := (aAO _ _).mp c37
      exact ts_X9_hooked_115 dN bD uU gF qF mX oE dY jE eW eY gJ jG xL wX zK hpost hKn x1 v17 x3 x4 x5 oY rD qB jK aBK (by omega) aCH aDO (by omega) aAE zR aAK hn50
    · skip
      have c37 := mt (aAO _ _).mpr c37
      intro v39 ev39
      intro v40 ev40
      have f42 := aAQ v39 1431655765 (by omega)
      have f41 : Int32.toInt (v14 - (v39 &&& 1431655765)) = Int32.toInt v14 - Int32.toInt (v39 &&& 1431655765) := aCA _ _ (by omega)
      rw [<- ev40] at f41
      intro v43 ev43
      have f44 := aAQ v40 858993459 (by omega)
      have hv43 := congrArg Int32.toInt ev43
      intro v45 ev45
      intro v46 ev46
      have f48 := aAQ v45 858993459 (by omega)
      have f47 : Int32.toInt (v43 + (v45 &&& 858993459)) = Int32.toInt v43 + Int32.toInt (v45 &&& 858993459) := aAD _ _ (by omega)
      rw [<- ev46] at f47
      intro v49 ev49
      have hv49 := congrArg Int32.toInt ev49
      intro v51 ev51
      have f52 := aAQ v49 252645135 (by omega)
      have hv51 := congrArg Int32.toInt ev51
      intro v53 ev53
      have hv53 := congrArg Int32.toInt ev53
      intro v55 ev55
      have hv55 := congrArg Int32.toInt ev55
      have f57 := aAQ v55 63 (by omega)
      exact ts_X9_hooked_115 dN bD uU gF qF mX oE dY jE eW eY gJ jG xL wX zK hpost hKn x1 v17 x5 (v55 &&& 63) x5 oY rD qB jK aBK (by omega) (by omega) (by omega) (by omega) aAE zR aAK hn50
set_option maxHeartbeats 8000000 in
set_option maxRecDepth 200000 in
theorem tb_X9_hooked_50 {post : Int32 -> Int32 -> (Nat -> Int32) -> Int32 -> (Nat -> Int32) -> Prop} (dN bD : Int32) (uU gF qF mX oE dY : Nat -> Int32) (jE eW eY gJ jG : Int32) (xL : 0 <= Int32.toInt dN /\ Int32.toInt dN <= 16) (wX : 0 <= Int32.toInt bD /\ Int32.toInt bD <= 8) (zK : 0 <= Int32.toInt jG /\ Int32.toInt jG <= 9) (hpost : ∀ (r : Int32) (aAY : Int32) (aBC : Nat -> Int32) (zV : Int32) (aAV : Nat -> Int32), (0 <= Int32.toInt r /\ Int32.toInt r <= 65535) -> (0 <= Int32.toInt aAY /\ Int32.toInt aAY <= 65535) -> (∀ k : Nat, 0 <= Int32.toInt (aBC k) /\ Int32.toInt (aBC k) <= 65535) -> (2 <= Int32.toInt zV /\ Int32.toInt zV <= 2) -> post r aAY aBC zV aAV) : ∀ (n : Nat) (x1 x2 x3 x4 x5 oY : Int32) (rD : Nat -> Int32) (qB : Int32) (jK : Nat -> Int32), (0 <= Int32.toInt x1 /\ Int32.toInt x1 <= 65535) -> (0 <= Int32.toInt x2 /\ Int32.toInt x2 <= 65535) -> (-1 <= Int32.toInt x3 /\ Int32.toInt x3 <= 7) -> (0 <= Int32.toInt x4 /\ Int32.toInt x4 <= 63) -> (0 <= Int32.toInt x5 /\ Int32.toInt x5 <= 8) -> (0 <= Int32.toInt oY /\ Int32.toInt oY <= 65535) -> (∀ k : Nat, 0 <= Int32.toInt (rD k) /\ Int32.toInt (rD k) <= 65535) -> (0 <= Int32.toInt qB /\ Int32.toInt qB <= 16) -> (8 - Int32.toInt x5 < (n : Int)) -> wb_X9_hooked_50 post dN bD uU gF qF mX oE dY jE eW eY gJ jG n x1 x2 x3 x4 x5 oY rD qB jK := by
  intro n
  induction n with
  | zero =>
    intro x1 x2 x3 x4 x5 oY rD qB jK aBK aBN aCH aDO aF7 aAE zR aAK hm
    exfalso; omega
  | succ n ih =>
    intro x1 x2 x3 x4 x5 oY rD qB jK aBK aBN aCH aDO aF7 aAE zR aAK hm
    exact ts_X9_hooked_50 dN bD uU gF qF mX oE dY jE eW eY gJ jG xL wX zK hpost ih x1 x2 x3 x4 x5 oY rD qB jK aBK aBN aCH aDO aF7 aAE zR aAK (by omega)
set_option maxHeartbeats 8000000 in
set_option maxRecDepth 200000 in
theorem t_X9_hooked {post : Int32 -> Int32 -> (Nat -> Int32) -> Int32 -> (Nat -> Int32) -> Prop} {oY : Int32} {rD : Nat -> Int32} {dN bD : Int32} {uU gF qF mX oE dY : Nat -> Int32} {jE eW eY gJ jG qB : Int32} {jK : Nat -> Int32} (aAE : 0 <= Int32.toInt oY /\ Int32.toInt oY <= 65535) (zR : ∀ k : Nat, 0 <= Int32.toInt (rD k) /\ Int32.toInt (rD k) <= 65535) (xL : 0 <= Int32.toInt dN /\ Int32.toInt dN <= 16) (wX : 0 <= Int32.toInt bD /\ Int32.toInt bD <= 8) (zK : 0 <= Int32.toInt jG /\ Int32.toInt jG <= 9) (aAK : 0 <= Int32.toInt qB /\ Int32.toInt qB <= 16) (hpost : ∀ (r : Int32) (aAY : Int32) (aBC : Nat -> Int32) (zV : Int32) (aAV : Nat -> Int32), (0 <= Int32.toInt r /\ Int32.toInt r <= 65535) -> (0 <= Int32.toInt aAY /\ Int32.toInt aAY <= 65535) -> (∀ k : Nat, 0 <= Int32.toInt (aBC k) /\ Int32.toInt (aBC k) <= 65535) -> (2 <= Int32.toInt zV /\ Int32.toInt zV <= 2) -> post r aAY aBC zV aAV) : wp_X9_hooked post oY rD dN bD uU gF qF mX oE dY jE eW eY gJ jG qB jK := by
  have l0 := aI2
  have l1 := aE0
  have l2 := aEc
  refine aVe zK aAE zR xL wX (fun pl_wanted_58 pl_near_59 h_pl_wanted_58 h_pl_near_59 => ?_)
  intro v60 ev60
  have f61 := aDv 16 65536 dN (by decide) (by omega)
  have hv60 := congrArg Int32.toInt ev60
  intro v62 ev62
  intro v63 ev63
  refine t_X3_ripeBy zK xL (fun r64 h_r64 => ?_)
  intro v65 ev65
  have f66 := aAQ ((v60 - 1) &&& (v63 ^^^ (-1))) r64 (by omega)
  have f68 : Int32.toInt (v60 - 1) = Int32.toInt v60 - Int32.toInt (1 : Int32) := aCA _ _ (by omega)
  have f69 := aBx (v60 - 1) (v63 ^^^ (-1)) (by omega)
  have f70 := aBx ((v60 - 1) &&& (v63 ^^^ (-1))) r64 (by omega)
  have hv65 := congrArg Int32.toInt ev65
  intro v71 ev71
  have f73 := aBx v65 (pl_wanted_58 ^^^ (-1)) (by omega)
  have hv71 := congrArg Int32.toInt ev71
  exact ⟨10, tb_X9_hooked_50 dN bD uU gF qF mX oE dY jE eW eY gJ jG xL wX zK hpost _ v71 0 (-1) 0 0 pl_wanted_58 pl_near_59 qB jK (by omega) (by omega) (by omega) (by omega) (by omega) h_pl_wanted_58 h_pl_near_59 aAK (by omega)⟩
set_option maxHeartbeats 8000000 in
set_option maxRecDepth 200000 in
theorem t_X9_broken {post : Int32 -> Int32 -> (Nat -> Int32) -> Int32 -> (Nat -> Int32) -> Prop} {p0 oY : Int32} {rD : Nat -> Int32} {dN bD : Int32} {uU gF qF mX oE dY : Nat -> Int32} {jE eW eY gJ jG qB : Int32} {jK : Nat -> Int32} (aAE : 0 <= Int32.toInt oY /\ Int32.toInt oY <= 65535) (zR : ∀ k : Nat, 0 <= Int32.toInt (rD k) /\ Int32.toInt (rD k) <= 65535) (xL : 0 <= Int32.toInt dN /\ Int32.toInt dN <= 16) (wX : 0 <= Int32.toInt bD /\ Int32.toInt bD <= 8) (zK : 0 <= Int32.toInt jG /\ Int32.toInt jG <= 9) (aAK : 0 <= Int32.toInt qB /\ Int32.toInt qB <= 16) (hpost : ∀ (r : Int32) (aAY : Int32) (aBC : Nat -> Int32) (zV : Int32) (aAV : Nat -> Int32), (-1 <= Int32.toInt r /\ Int32.toInt r <= 63) -> (0 <= Int32.toInt aAY /\ Int32.toInt aAY <= 65535) -> (∀ k : Nat, 0 <= Int32.toInt (aBC k) /\ Int32.toInt (aBC k) <= 65535) -> (0 <= Int32.toInt zV /\ Int32.toInt zV <= 16) -> post r aAY aBC zV aAV) : wp_X9_broken post p0 oY rD dN bD uU gF qF mX oE dY jE eW eY gJ jG qB jK := by
  have l0 := aI2
  have l1 := aE0
  have l2 := aEc
  have l3 := aKH
  have l4 := aJ8
  have l5 := li_63
  have l6 := aJ9
  have f2 := aAT p0
  refine And.intro (fun c1 => ?_) (fun c1 => ?_)
  · skip
    have c1 := (aAd _ _).mp c1
    refine And.intro (fun h9 => absurd h9 (by decide)) (fun _ => ?_)
    exact hpost _ _ _ _ _ (by omega) aAE zR aAK
  · skip
    have c1 := mt (aAd _ _).mpr c1
    refine And.intro (fun c3 => ?_) (fun c3 => ?_)
    · skip
      have c3 := (aAO _ _).mp c3
      refine And.intro (fun h9 => absurd h9 (by decide)) (fun _ => ?_)
      exact hpost _ _ _ _ _ (by omega) aAE zR aAK
    · skip
      have c3 := mt (aAO _ _).mpr c3
      refine And.intro (fun _ => ?_) (fun h9 => absurd h9 (by decide))
      refine aVe zK aAE zR xL wX (fun pl_wanted_4 pl_near_5 h_pl_wanted_4 h_pl_near_5 => ?_)
      intro v6 ev6
      have f7 := aDv 8 256 bD (by decide) (by omega)
      have hv6 := congrArg Int32.toInt ev6
      intro v8 ev8
      have f9 := aDv 7 128 p0 (by decide) (by omega)
      have hv8 := congrArg Int32.toInt ev8
      intro v10 ev10
      have f12 : Int32.toInt (v6 - 1) = Int32.toInt v6 - Int32.toInt (1 : Int32) := aCA _ _ (by omega)
      have f13 := aBx (v6 - 1) (v8 ^^^ (-1)) (by omega)
      have hv10 := congrArg Int32.toInt ev10
      refine aUy (by omega) h_pl_near_5 wX (fun r14 h_r14 => ?_)
      intro v15 ev15
      have f17 := aBx pl_wanted_4 (r14 ^^^ (-1)) (by omega)
      have hv15 := congrArg Int32.toInt ev15
      refine And.intro (fun h9 => absurd h9 (by decide)) (fun _ => ?_)
      refine And.intro (aBZ (by omega)) ?_
      intro v18 ev18
      have f19 : Int32.toInt (0 + 1) = Int32.toInt (0 : Int32) + Int32.toInt (1 : Int32) := aAD _ _ (by omega)
      rw [<- ev18] at f19
      intro v20 ev20
      have f22 := aBx pl_wanted_4 (v15 ^^^ (-1)) (by omega)
      have hv20 := congrArg Int32.toInt ev20
      refine t_X5_smallestCover (by omega) (by omega) h_pl_near_5 wX (fun r23 h_r23 => ?_)
      intro v24 ev24
      intro v25 ev25
      have f27 := aAQ v24 1431655765 (by omega)
      have f26 : Int32.toInt (r23 - (v24 &&& 1431655765)) = Int32.toInt r23 - Int32.toInt (v24 &&& 1431655765) := aCA _ _ (by omega)
      rw [<- ev25] at f26
      intro v28 ev28
      have f29 := aAQ v25 858993459 (by omega)
      have hv28 := congrArg Int32.toInt ev28
      intro v30 ev30
      intro v31 ev31
      have f33 := aAQ v30 858993459 (by omega)
      have f32 : Int32.toInt (v28 + (v30 &&& 858993459)) = Int32.toInt v28 + Int32.toInt (v30 &&& 858993459) := aAD _ _ (by omega)
      rw [<- ev31] at f32
      intro v34 ev34
      have hv34 := congrArg Int32.toInt ev34
      intro v36 ev36
      have f37 := aAQ v34 252645135 (by omega)
      have hv36 := congrArg Int32.toInt ev36
      intro v38 ev38
      have hv38 := congrArg Int32.toInt ev38
      intro v40 ev40
      have hv40 := congrArg Int32.toInt ev40
      have f42 := aAQ v40 63 (by omega)
      exact hpost _ _ _ _ _ (by omega) h_pl_wanted_4 h_pl_near_5 (by omega)
set_option maxHeartbeats 8000000 in
set_option maxRecDepth 200000 in
theorem ts_X9_sweep_121 {post : Int32 -> Int32 -> Int32 -> Int32 -> Int32 -> (Nat -> Int32) -> (Nat -> Int32) -> (Nat -> Int32) -> (Nat -> Int32) -> (Nat -> Int32) -> Int32 -> (Nat -> Int32) -> Prop} {K37 : Int32 -> Int32 -> Int32 -> Int32 -> Int32 -> Int32 -> Int32 -> Int32 -> Int32 -> (Nat -> Int32) -> (Nat -> Int32) -> (Nat -> Int32) -> (Nat -> Int32) -> (Nat -> Int32) -> Int32 -> (Nat -> Int32) -> Prop} {n37 : Int} (dN bD : Int32) (uU gF pL qF mX oE dY : Nat -> Int32) (jE eW eY dU fY gJ jG pQ : Int32) (pN : Nat -> Int32) (xL : 0 <= Int32.toInt dN /\ Int32.toInt dN <= 16) (wX : 0 <= Int32.toInt bD /\ Int32.toInt bD <= 8) (aAC : -1 <= Int32.toInt fY /\ Int32.toInt fY <= 7) (zK : 0 <= Int32.toInt jG /\ Int32.toInt jG <= 9) (zU : 0 <= Int32.toInt pQ /\ Int32.toInt pQ <= 40) (hpost : ∀ (r : Int32) (aAY : Int32) (aJV : Int32) (aGc : Int32) (aJU : Int32) (aBC : Nat -> Int32) (aC9 : Nat -> Int32) (aLu : Nat -> Int32) (aCG : Nat -> Int32) (aB4 : Nat -> Int32) (zV : Int32) (aAV : Nat -> Int32), (-1 <= Int32.toInt r /\ Int32.toInt r <= 2147483647) -> (0 <= Int32.toInt aAY /\ Int32.toInt aAY <= 65535) -> (∀ k : Nat, 0 <= Int32.toInt (aBC k) /\ Int32.toInt (aBC k) <= 65535) -> (∀ k : Nat, 0 <= Int32.toInt (aC9 k) /\ Int32.toInt (aC9 k) <= 99) -> (0 <= Int32.toInt zV /\ Int32.toInt zV <= 16) -> post r aAY aJV aGc aJU aBC aC9 aLu aCG aB4 zV aAV) (hK37 : ∀ (x1 : Int32) (x2 : Int32) (x3 : Int32) (x4 : Int32) (x5 : Int32) (oY : Int32) (rJ : Int32) (pX : Int32) (rO : Int32) (rD : Nat -> Int32) (sG : Nat -> Int32) (vQ : Nat -> Int32) (qY : Nat -> Int32) (qU : Nat -> Int32) (qB : Int32) (jK : Nat -> Int32), (0 <= Int32.toInt x1 /\ Int32.toInt x1 <= 9999) -> (0 <= Int32.toInt x2 /\ Int32.toInt x2 <= 255) -> (0 <= Int32.toInt x3 /\ Int32.toInt x3 <= 2147483647) -> (-2147483648 <= Int32.toInt x4 /\ Int32.toInt x4 <= 9999) -> (1 <= Int32.toInt x5 /\ Int32.toInt x5 <= 256) -> (0 <= Int32.toInt oY /\ Int32.toInt oY <= 65535) -> (∀ k : Nat, 0 <= Int32.toInt (rD k) /\ Int32.toInt (rD k) <= 65535) -> (∀ k : Nat, 0 <= Int32.toInt (sG k) /\ Int32.toInt (sG k) <= 99) -> (0 <= Int32.toInt qB /\ Int32.toInt qB <= 16) -> (256 - Int32.toInt x5 < n37) -> K37 x1 x2 x3 x4 x5 oY rJ pX rO rD sG vQ qY qU qB jK) (x1 x2 x3 x4 x5 oY rJ pX rO : Int32) (rD sG vQ qY qU : Nat -> Int32) (qB : Int32) (jK : Nat -> Int32) (aBK : 0 <= Int32.toInt x1 /\ Int32.toInt x1 <= 9999) (aBN : 0 <= Int32.toInt x2 /\ Int32.toInt x2 <= 255) (aCH : 0 <= Int32.toInt x3 /\ Int32.toInt x3 <= 2147483647) (aDO : -2147483648 <= Int32.toInt x4 /\ Int32.toInt x4 <= 9999) (aF7 : 1 <= Int32.toInt x5 /\ Int32.toInt x5 <= 255) (aAE : 0 <= Int32.toInt oY /\ Int32.toInt oY <= 65535) (zR : ∀ k : Nat, 0 <= Int32.toInt (rD k) /\ Int32.toInt (rD k) <= 65535) (aAX : ∀ k : Nat, 0 <= Int32.toInt (sG k) /\ Int32.toInt (sG k) <= 99) (aAK : 0 <= Int32.toInt qB /\ Int32.toInt qB <= 16) (hn37 : 256 - Int32.toInt x5 <= n37) : ws_X9_sweep_121 post K37 dN bD uU gF pL qF mX oE dY jE eW eY dU fY gJ jG pQ pN x1 x2 x3 x4 x5 oY rJ pX rO rD sG vQ qY qU qB jK := by
  have l0 := aEc
  intro v1 ev1
  have f2 : Int32.toInt (x5 + 1) = Int32.toInt x5 + Int32.toInt (1 : Int32) := aAD _ _ (by omega)
  rw [<- ev1] at f2
  have f3 := aAT x3
  have f4 := aAT x4
  have f5 := aAT rJ
  have f6 := aAT pX
  have f7 := aAT rO
  exact hK37 x1 x2 x3 x4 v1 oY rJ pX rO rD sG vQ qY qU qB jK aBK aBN aCH aDO (by omega) aAE zR aAX aAK (by omega)
set_option maxHeartbeats 8000000 in
set_option maxRecDepth 200000 in
theorem ts_X9_sweep_111 {post : Int32 -> Int32 -> Int32 -> Int32 -> Int32 -> (Nat -> Int32) -> (Nat -> Int32) -> (Nat -> Int32) -> (Nat -> Int32) -> (Nat -> Int32) -> Int32 -> (Nat -> Int32) -> Prop} {K37 : Int32 -> Int32 -> Int32 -> Int32 -> Int32 -> Int32 -> Int32 -> Int32 -> Int32 -> (Nat -> Int32) -> (Nat -> Int32) -> (Nat -> Int32) -> (Nat -> Int32) -> (Nat -> Int32) -> Int32 -> (Nat -> Int32) -> Prop} {n37 : Int} (dN bD : Int32) (uU gF pL qF mX oE dY : Nat -> Int32) (jE eW eY dU fY gJ jG pQ : Int32) (pN : Nat -> Int32) (xL : 0 <= Int32.toInt dN /\ Int32.toInt dN <= 16) (wX : 0 <= Int32.toInt bD /\ Int32.toInt bD <= 8) (aAC : -1 <= Int32.toInt fY /\ Int32.toInt fY <= 7) (zK : 0 <= Int32.toInt jG /\ Int32.toInt jG <= 9) (zU : 0 <= Int32.toInt pQ /\ Int32.toInt pQ <= 40) (hpost : ∀ (r : Int32) (aAY : Int32) (aJV : Int32) (aGc : Int32) (aJU : Int32) (aBC : Nat -> Int32) (aC9 : Nat -> Int32) (aLu : Nat -> Int32) (aCG : Nat -> Int32) (aB4 : Nat -> Int32) (zV : Int32) (aAV : Nat -> Int32), (-1 <= Int32.toInt r /\ Int32.toInt r <= 2147483647) -> (0 <= Int32.toInt aAY /\ Int32.toInt aAY <= 65535) -> (∀ k : Nat, 0 <= Int32.toInt (aBC k) /\ Int32.toInt (aBC k) <= 65535) -> (∀ k : Nat, 0 <= Int32.toInt (aC9 k) /\ Int32.toInt (aC9 k) <= 99) -> (0 <= Int32.toInt zV /\ Int32.toInt zV <= 16) -> post r aAY aJV aGc aJU aBC aC9 aLu aCG aB4 zV aAV) (hK37 : ∀ (x1 : Int32) (x2 : Int32) (x3 : Int32) (x4 : Int32) (x5 : Int32) (oY : Int32) (rJ : Int32) (pX : Int32) (rO : Int32) (rD : Nat -> Int32) (sG : Nat -> Int32) (vQ : Nat -> Int32) (qY : Nat -> Int32) (qU : Nat -> Int32) (qB : Int32) (jK : Nat -> Int32), (0 <= Int32.toInt x1 /\ Int32.toInt x1 <= 9999) -> (0 <= Int32.toInt x2 /\ Int32.toInt x2 <= 255) -> (0 <= Int32.toInt x3 /\ Int32.toInt x3 <= 2147483647) -> (-2147483648 <= Int32.toInt x4 /\ Int32.toInt x4 <= 9999) -> (1 <= Int32.toInt x5 /\ Int32.toInt x5 <= 256) -> (0 <= Int32.toInt oY /\ Int32.toInt oY <= 65535) -> (∀ k : Nat, 0 <= Int32.toInt (rD k) /\ Int32.toInt (rD k) <= 65535) -> (∀ k : Nat, 0 <= Int32.toInt (sG k) /\ Int32.toInt (sG k) <= 99) -> (0 <= Int32.toInt qB /\ Int32.toInt qB <= 16) -> (256 - Int32.toInt x5 < n37) -> K37 x1 x2 x3 x4 x5 oY rJ pX rO rD sG vQ qY qU qB jK) (x1 x5 x6 x7 oY rJ pX rO : Int32) (rD sG vQ qY qU : Nat -> Int32) (qB : Int32) (jK : Nat -> Int32) (aBK : 0 <= Int32.toInt x1 /\ Int32.toInt x1 <= 9999) (aF7 : 1 <= Int32.toInt x5 /\ Int32.toInt x5 <= 255) (h_x6 : 0 <= Int32.toInt x6 /\ Int32.toInt x6 <= 2147483647) (h_x7 : -2147483648 <= Int32.toInt x7 /\ Int32.toInt x7 <= 9999) (aAE : 0 <= Int32.toInt oY /\ Int32.toInt oY <= 65535) (zR : ∀ k : Nat, 0 <= Int32.toInt (rD k) /\ Int32.toInt (rD k) <= 65535) (aAX : ∀ k : Nat, 0 <= Int32.toInt (sG k) /\ Int32.toInt (sG k) <= 99) (aAK : 0 <= Int32.toInt qB /\ Int32.toInt qB <= 16) (hn37 : 256 - Int32.toInt x5 <= n37) : ws_X9_sweep_111 post K37 dN bD uU gF pL qF mX oE dY jE eW eY dU fY gJ jG pQ pN x1 x5 x6 x7 oY rJ pX rO rD sG vQ qY qU qB jK := by
  have f8 := aAT x6
  have f9 := aAT x7
  have f10 := aAT rJ
  have f11 := aAT pX
  have f12 := aAT rO
  exact ts_X9_sweep_121 dN bD uU gF pL qF mX oE dY jE eW eY dU fY gJ jG pQ pN xL wX aAC zK zU hpost hK37 x1 x5 x6 x7 x5 oY rJ pX rO rD sG vQ qY qU qB jK aBK (by omega) h_x6 h_x7 aF7 aAE zR aAX aAK hn37
set_option maxHeartbeats 8000000 in
set_option maxRecDepth 200000 in
theorem ts_X9_sweep_37 {post : Int32 -> Int32 -> Int32 -> Int32 -> Int32 -> (Nat -> Int32) -> (Nat -> Int32) -> (Nat -> Int32) -> (Nat -> Int32) -> (Nat -> Int32) -> Int32 -> (Nat -> Int32) -> Prop} {next : Int32 -> Int32 -> Int32 -> Int32 -> Int32 -> Int32 -> Int32 -> Int32 -> Int32 -> (Nat -> Int32) -> (Nat -> Int32) -> (Nat -> Int32) -> (Nat -> Int32) -> (Nat -> Int32) -> Int32 -> (Nat -> Int32) -> Prop} {n37 : Int} (dN bD : Int32) (uU gF pL qF mX oE dY : Nat -> Int32) (jE eW eY dU fY gJ jG pQ : Int32) (pN : Nat -> Int32) (xL : 0 <= Int32.toInt dN /\ Int32.toInt dN <= 16) (wX : 0 <= Int32.toInt bD /\ Int32.toInt bD <= 8) (aAC : -1 <= Int32.toInt fY /\ Int32.toInt fY <= 7) (zK : 0 <= Int32.toInt jG /\ Int32.toInt jG <= 9) (zU : 0 <= Int32.toInt pQ /\ Int32.toInt pQ <= 40) (hpost : ∀ (r : Int32) (aAY : Int32) (aJV : Int32) (aGc : Int32) (aJU : Int32) (aBC : Nat -> Int32) (aC9 : Nat -> Int32) (aLu : Nat -> Int32) (aCG : Nat -> Int32) (aB4 : Nat -> Int32) (zV : Int32) (aAV : Nat -> Int32), (-1 <= Int32.toInt r /\ Int32.toInt r <= 2147483647) -> (0 <= Int32.toInt aAY /\ Int32.toInt aAY <= 65535) -> (∀ k : Nat, 0 <= Int32.toInt (aBC k) /\ Int32.toInt (aBC k) <= 65535) -> (∀ k : Nat, 0 <= Int32.toInt (aC9 k) /\ Int32.toInt (aC9 k) <= 99) -> (0 <= Int32.toInt zV /\ Int32.toInt zV <= 16) -> post r aAY aJV aGc aJU aBC aC9 aLu aCG aB4 zV aAV) (hKn : ∀ (x1 : Int32) (x2 : Int32) (x3 : Int32) (x4 : Int32) (x5 : Int32) (oY : Int32) (rJ : Int32) (pX : Int32) (rO : Int32) (rD : Nat -> Int32) (sG : Nat -> Int32) (vQ : Nat -> Int32) (qY : Nat -> Int32) (qU : Nat -> Int32) (qB : Int32) (jK : Nat -> Int32), (0 <= Int32.toInt x1 /\ Int32.toInt x1 <= 9999) -> (0 <= Int32.toInt x2 /\ Int32.toInt x2 <= 255) -> (0 <= Int32.toInt x3 /\ Int32.toInt x3 <= 2147483647) -> (-2147483648 <= Int32.toInt x4 /\ Int32.toInt x4 <= 9999) -> (1 <= Int32.toInt x5 /\ Int32.toInt x5 <= 256) -> (0 <= Int32.toInt oY /\ Int32.toInt oY <= 65535) -> (∀ k : Nat, 0 <= Int32.toInt (rD k) /\ Int32.toInt (rD k) <= 65535) -> (∀ k : Nat, 0 <= Int32.toInt (sG k) /\ Int32.toInt (sG k) <= 99) -> (0 <= Int32.toInt qB /\ Int32.toInt qB <= 16) -> (256 - Int32.toInt x5 < n37) -> next x1 x2 x3 x4 x5 oY rJ pX rO rD sG vQ qY qU qB jK) (x1 x2 x3 x4 x5 oY rJ pX rO : Int32) (rD sG vQ qY qU : Nat -> Int32) (qB : Int32) (jK : Nat -> Int32) (aBK : 0 <= Int32.toInt x1 /\ Int32.toInt x1 <= 9999) (aBN : 0 <= Int32.toInt x2 /\ Int32.toInt x2 <= 255) (aCH : 0 <= Int32.toInt x3 /\ Int32.toInt x3 <= 2147483647) (aDO : -2147483648 <= Int32.toInt x4 /\ Int32.toInt x4 <= 9999) (aF7 : 1 <= Int32.toInt x5 /\ Int32.toInt x5 <= 256) (aAE : 0 <= Int32.toInt oY /\ Int32.toInt oY <= 65535) (zR : ∀ k : Nat, 0 <= Int32.toInt (rD k) /\ Int32.toInt (rD k) <= 65535) (aAX : ∀ k : Nat, 0 <= Int32.toInt (sG k) /\ Int32.toInt (sG k) <= 99) (aAK : 0 <= Int32.toInt qB /\ Int32.toInt qB <= 16) (hn37 : 256 - Int32.toInt x5 <= n37) : ws_X9_sweep_37 post next dN bD uU gF pL qF mX oE dY jE eW eY dU fY gJ jG pQ pN x1 x2 x3 x4 x5 oY rJ pX rO rD sG vQ qY qU qB jK := by
  have l0 := aE0
  have l1 := aEc
  have l2 := li_16
  intro v13 ev13
  have f14 := aDv 8 256 bD (by decide) (by omega)
  have hv13 := congrArg Int32.toInt ev13
  have f16 : Int32.toInt (v13 - 1) = Int32.toInt v13 - Int32.toInt (1 : Int32) := aCA _ _ (by omega)
  refine And.intro (fun c15 => ?_) (fun c15 => ?_)
  · skip
    have c15 := (aAd _ _).mp c15
    refine And.intro (fun h9 => absurd h9 (by decide)) (fun _ => ?_)
    refine And.intro (aBZ (by omega)) ?_
    intro v17 ev17
    have f18 : Int32.toInt (0 + 1) = Int32.toInt (0 : Int32) + Int32.toInt (1 : Int32) := aAD _ _ (by omega)
    rw [<- ev17] at f18
    refine And.intro (fun c19 => ?_) (fun c19 => ?_)
    · skip
      have c19 := (aAO _ _).mp c19
      exfalso; omega
    · skip
      have c19 := mt (aAO _ _).mpr c19
      refine And.intro (aBZ (by omega)) ?_
      intro v20 ev20
      have f21 : Int32.toInt (v17 + 1) = Int32.toInt v17 + Int32.toInt (1 : Int32) := aAD _ _ (by omega)
      rw [<- ev20] at f21
      have f22 := aAT x3
      exact hpost _ _ _ _ _ _ _ _ _ _ _ _ (by omega) aAE zR aAX (by omega)
  · skip
    have c15 := mt (aAd _ _).mpr c15
    refine aUy (by omega) zR wX (fun r23 h_r23 => ?_)
    intro v24 ev24
    have f25 := aAQ oY r23 (by omega)
    have f26 := aBx oY r23 (by omega)
    have hv24 := congrArg Int32.toInt ev24
    refine aUx xL (fun r27 => ?_)
    have f29 := aAT r27
    have f30 := aAT x3
    refine And.intro (fun c28 => ?_) (fun c28 => ?_)
    · skip
      have c28 := (aAd _ _).mp c28
      have f31 := aAT x4
      have f32 := aAT rJ
      have f33 := aAT pX
      have f34 := aAT rO
      exact ts_X9_sweep_121 dN bD uU gF pL qF mX oE dY jE eW eY dU fY gJ jG pQ pN xL wX aAC zK zU hpost hKn x1 x2 x3 x4 x5 oY rJ pX rO rD sG vQ qY qU qB jK aBK aBN aCH aDO (by omega) aAE zR aAX aAK hn37
    · skip
      have c28 := mt (aAd _ _).mpr c28
      refine t_X5_workSeconds (by omega) aAE zR aAX xL wX aAC (fun r39 pl_moves_35 pl_picking_36 pl_downs_37 pl_many_38 => ?_)
      have f41 := aAT r39
      refine And.intro (fun c40 => ?_) (fun c40 => ?_)
      · skip
        have c40 := (aAd _ _).mp c40
        have f42 := aAT x4
        have f43 := aAT pl_moves_35
        have f44 := aAT pl_picking_36
        have f45 := aAT pl_downs_37
        exact ts_X9_sweep_121 dN bD uU gF pL qF mX oE dY jE eW eY dU fY gJ jG pQ pN xL wX aAC zK zU hpost hKn x1 x2 x3 x4 x5 oY pl_moves_35 pl_picking_36 pl_downs_37 rD sG pl_many_38 qY qU qB jK aBK aBN aCH aDO (by omega) aAE zR aAX aAK hn37
      · skip
        have c40 := mt (aAd _ _).mpr c40
        refine And.intro (fun c46 => ?_) (fun c46 => ?_)
        · skip
          have c46 := (aAd _ _).mp c46
          have f47 := aAT pl_moves_35
          have f48 := aAT pl_picking_36
          have f49 := aAT pl_downs_37
          exact ts_X9_sweep_111 dN bD uU gF pL qF mX oE dY jE eW eY dU fY gJ jG pQ pN xL wX aAC zK zU hpost hKn x1 x5 r27 r39 oY pl_moves_35 pl_picking_36 pl_downs_37 rD sG pl_many_38 qY qU qB jK aBK (by omega) (by omega) (by omega) aAE zR aAX aAK hn37
        · skip
          have c46 := mt (aAd _ _).mpr c46
          have f51 := aAT x4
          refine And.intro (fun c50 => ?_) (fun c50 => ?_)
          · skip
            have c50 := (aAO _ _).mp c50
            have f52 := aAT pl_moves_35
            have f53 := aAT pl_picking_36
            have f54 := aAT pl_downs_37
            exact ts_X9_sweep_121 dN bD uU gF pL qF mX oE dY jE eW eY dU fY gJ jG pQ pN xL wX aAC zK zU hpost hKn x1 x2 x3 x4 x5 oY pl_moves_35 pl_picking_36 pl_downs_37 rD sG pl_many_38 qY qU qB jK aBK aBN aCH aDO (by omega) aAE zR aAX aAK hn37
          · skip
            have c50 := mt (aAO _ _).mpr c50
            have f55 := aAT pl_moves_35
            have f56 := aAT pl_picking_36
            have f57 := aAT pl_downs_37
            exact ts_X9_sweep_111 dN bD uU gF pL qF mX oE dY jE eW eY dU fY gJ jG pQ pN xL wX aAC zK zU hpost hKn x1 x5 r27 r39 oY pl_moves_35 pl_picking_36 pl_downs_37 rD sG pl_many_38 qY qU qB jK aBK (by omega) (by omega) (by omega) aAE zR aAX aAK hn37
set_option maxHeartbeats 8000000 in
set_option maxRecDepth 200000 in
theorem tb_X9_sweep_37 {post : Int32 -> Int32 -> Int32 -> Int32 -> Int32 -> (Nat -> Int32) -> (Nat -> Int32) -> (Nat -> Int32) -> (Nat -> Int32) -> (Nat -> Int32) -> Int32 -> (Nat -> Int32) -> Prop} (dN bD : Int32) (uU gF pL qF mX oE dY : Nat -> Int32) (jE eW eY dU fY gJ jG pQ : Int32) (pN : Nat -> Int32) (xL : 0 <= Int32.toInt dN /\ Int32.toInt dN <= 16) (wX : 0 <= Int32.toInt bD /\ Int32.toInt bD <= 8) (aAC : -1 <= Int32.toInt fY /\ Int32.toInt fY <= 7) (zK : 0 <= Int32.toInt jG /\ Int32.toInt jG <= 9) (zU : 0 <= Int32.toInt pQ /\ Int32.toInt pQ <= 40) (hpost : ∀ (r : Int32) (aAY : Int32) (aJV : Int32) (aGc : Int32) (aJU : Int32) (aBC : Nat -> Int32) (aC9 : Nat -> Int32) (aLu : Nat -> Int32) (aCG : Nat -> Int32) (aB4 : Nat -> Int32) (zV : Int32) (aAV : Nat -> Int32), (-1 <= Int32.toInt r /\ Int32.toInt r <= 2147483647) -> (0 <= Int32.toInt aAY /\ Int32.toInt aAY <= 65535) -> (∀ k : Nat, 0 <= Int32.toInt (aBC k) /\ Int32.toInt (aBC k) <= 65535) -> (∀ k : Nat, 0 <= Int32.toInt (aC9 k) /\ Int32.toInt (aC9 k) <= 99) -> (0 <= Int32.toInt zV /\ Int32.toInt zV <= 16) -> post r aAY aJV aGc aJU aBC aC9 aLu aCG aB4 zV aAV) : ∀ (n : Nat) (x1 x2 x3 x4 x5 oY rJ pX rO : Int32) (rD sG vQ qY qU : Nat -> Int32) (qB : Int32) (jK : Nat -> Int32), (0 <= Int32.toInt x1 /\ Int32.toInt x1 <= 9999) -> (0 <= Int32.toInt x2 /\ Int32.toInt x2 <= 255) -> (0 <= Int32.toInt x3 /\ Int32.toInt x3 <= 2147483647) -> (-2147483648 <= Int32.toInt x4 /\ Int32.toInt x4 <= 9999) -> (1 <= Int32.toInt x5 /\ Int32.toInt x5 <= 256) -> (0 <= Int32.toInt oY /\ Int32.toInt oY <= 65535) -> (∀ k : Nat, 0 <= Int32.toInt (rD k) /\ Int32.toInt (rD k) <= 65535) -> (∀ k : Nat, 0 <= Int32.toInt (sG k) /\ Int32.toInt (sG k) <= 99) -> (0 <= Int32.toInt qB /\ Int32.toInt qB <= 16) -> (256 - Int32.toInt x5 < (n : Int)) -> wb_X9_sweep_37 post dN bD uU gF pL qF mX oE dY jE eW eY dU fY gJ jG pQ pN n x1 x2 x3 x4 x5 oY rJ pX rO rD sG vQ qY qU qB jK := by
  intro n
  induction n with
  | zero =>
    intro x1 x2 x3 x4 x5 oY rJ pX rO rD sG vQ qY qU qB jK aBK aBN aCH aDO aF7 aAE zR aAX aAK hm
    exfalso; omega
  | succ n ih =>
    intro x1 x2 x3 x4 x5 oY rJ pX rO rD sG vQ qY qU qB jK aBK aBN aCH aDO aF7 aAE zR aAX aAK hm
    exact ts_X9_sweep_37 dN bD uU gF pL qF mX oE dY jE eW eY dU fY gJ jG pQ pN xL wX aAC zK zU hpost ih x1 x2 x3 x4 x5 oY rJ pX rO rD sG vQ qY qU qB jK aBK aBN aCH aDO aF7 aAE zR aAX aAK (by omega)
set_option maxHeartbeats 8000000 in
set_option maxRecDepth 200000 in
theorem t_X9_sweep {post : Int32 -> Int32 -> Int32 -> Int32 -> Int32 -> (Nat -> Int32) -> (Nat -> Int32) -> (Nat -> Int32) -> (Nat -> Int32) -> (Nat -> Int32) -> Int32 -> (Nat -> Int32) -> Prop} {p0 oY rJ pX rO : Int32} {rD sG vQ : Nat -> Int32} {dN bD : Int32} {uU gF pL qF mX oE dY : Nat -> Int32} {jE eW eY dU fY gJ jG pQ : Int32} {qY qU pN : Nat -> Int32} {qB : Int32} {jK : Nat -> Int32} (aAE : 0 <= Int32.toInt oY /\ Int32.toInt oY <= 65535) (zR : ∀ k : Nat, 0 <= Int32.toInt (rD k) /\ Int32.toInt (rD k) <= 65535) (aAX : ∀ k : Nat, 0 <= Int32.toInt (sG k) /\ Int32.toInt (sG k) <= 99) (xL : 0 <= Int32.toInt dN /\ Int32.toInt dN <= 16) (wX : 0 <= Int32.toInt bD /\ Int32.toInt bD <= 8) (aAC : -1 <= Int32.toInt fY /\ Int32.toInt fY <= 7) (zK : 0 <= Int32.toInt jG /\ Int32.toInt jG <= 9) (zU : 0 <= Int32.toInt pQ /\ Int32.toInt pQ <= 40) (aAK : 0 <= Int32.toInt qB /\ Int32.toInt qB <= 16) (hpost : ∀ (r : Int32) (aAY : Int32) (aJV : Int32) (aGc : Int32) (aJU : Int32) (aBC : Nat -> Int32) (aC9 : Nat -> Int32) (aLu : Nat -> Int32) (aCG : Nat -> Int32) (aB4 : Nat -> Int32) (zV : Int32) (aAV : Nat -> Int32), (-1 <= Int32.toInt r /\ Int32.toInt r <= 2147483647) -> (0 <= Int32.toInt aAY /\ Int32.toInt aAY <= 65535) -> (∀ k : Nat, 0 <= Int32.toInt (aBC k) /\ Int32.toInt (aBC k) <= 65535) -> (∀ k : Nat, 0 <= Int32.toInt (aC9 k) /\ Int32.toInt (aC9 k) <= 99) -> (0 <= Int32.toInt zV /\ Int32.toInt zV <= 16) -> post r aAY aJV aGc aJU aBC aC9 aLu aCG aB4 zV aAV) : wp_X9_sweep post p0 oY rJ pX rO rD sG vQ dN bD uU gF pL qF mX oE dY jE eW eY dU fY gJ jG pQ qY qU pN qB jK := by
  have l0 := aI2
  have l1 := aE0
  have l2 := aEc
  have l3 := li_9999
  have f59 := aAT p0
  refine And.intro (fun c58 => ?_) (fun c58 => ?_)
  · skip
    have c58 := (aAd _ _).mp c58
    exact hpost _ _ _ _ _ _ _ _ _ _ _ _ (by omega) aAE zR aAX aAK
  · skip
    have c58 := mt (aAd _ _).mpr c58
    refine And.intro (fun c60 => ?_) (fun c60 => ?_)
    · skip
      have c60 := (aAO _ _).mp c60
      refine aVe zK aAE zR xL wX (fun pl_wanted_61 pl_near_62 h_pl_wanted_61 h_pl_near_62 => ?_)
      refine t_X5_timeAll h_pl_wanted_61 h_pl_near_62 aAX xL wX zU (fun pl_seconds_63 ru_given_64 ru_stack_65 h_pl_seconds_63 => ?_)
      have f66 := aAT rJ
      have f67 := aAT pX
      have f68 := aAT rO
      exact ⟨257, tb_X9_sweep_37 dN bD uU gF pL qF mX oE dY jE eW eY dU fY gJ jG pQ pN xL wX aAC zK zU hpost _ p0 0 0 0 1 pl_wanted_61 rJ pX rO pl_near_62 pl_seconds_63 vQ ru_given_64 ru_stack_65 qB jK (by omega) (by omega) (by omega) (by omega) (by omega) h_pl_wanted_61 h_pl_near_62 h_pl_seconds_63 aAK (by omega)⟩
    · skip
      have c60 := mt (aAO _ _).mpr c60
      exact hpost _ _ _ _ _ _ _ _ _ _ _ _ (by omega) aAE zR aAX aAK
set_option maxHeartbeats 8000000 in
set_option maxRecDepth 200000 in
theorem ts_X5_addToDusk_52 {post : (Nat -> Int32) -> Prop} {K3 : Int32 -> Int32 -> Int32 -> (Nat -> Int32) -> Prop} {n3 : Int} (hpost : ∀ (aXg : Nat -> Int32), post aXg) (hK3 : ∀ (x2 : Int32) (x3 : Int32) (x4 : Int32) (vV : Nat -> Int32), (1 <= Int32.toInt x2 /\ Int32.toInt x2 <= 99) -> (0 <= Int32.toInt x4 /\ Int32.toInt x4 <= 300) -> (Int32.toInt x4 - 0 < n3) -> K3 x2 x3 x4 vV) (x2 x3 x4 : Int32) (vV : Nat -> Int32) (aBN : 1 <= Int32.toInt x2 /\ Int32.toInt x2 <= 99) (aDO : 1 <= Int32.toInt x4 /\ Int32.toInt x4 <= 300) (hn3 : Int32.toInt x4 - 0 <= n3) : ws_X5_addToDusk_52 post K3 x2 x3 x4 vV := by
  have l0 := aI2
  intro v1 ev1
  have f2 : Int32.toInt (x4 + (-1)) = Int32.toInt x4 + Int32.toInt ((-1) : Int32) := aAD _ _ (by omega)
  rw [<- ev1] at f2
  have f3 := aAT x3
  exact hK3 x2 x3 v1 vV aBN (by omega) (by omega)
set_option maxHeartbeats 8000000 in
set_option maxRecDepth 200000 in
theorem ts_X5_addToDusk_3 {post : (Nat -> Int32) -> Prop} {next : Int32 -> Int32 -> Int32 -> (Nat -> Int32) -> Prop} {n3 : Int} (hpost : ∀ (aXg : Nat -> Int32), post aXg) (hKn : ∀ (x2 : Int32) (x3 : Int32) (x4 : Int32) (vV : Nat -> Int32), (1 <= Int32.toInt x2 /\ Int32.toInt x2 <= 99) -> (0 <= Int32.toInt x4 /\ Int32.toInt x4 <= 300) -> (Int32.toInt x4 - 0 < n3) -> next x2 x3 x4 vV) (x2 x3 x4 : Int32) (vV : Nat -> Int32) (aBN : 1 <= Int32.toInt x2 /\ Int32.toInt x2 <= 99) (aDO : 0 <= Int32.toInt x4 /\ Int32.toInt x4 <= 300) (hn3 : Int32.toInt x4 - 0 <= n3) : ws_X5_addToDusk_3 post next x2 x3 x4 vV := by
  have l0 := li_m2147483648
  refine And.intro (fun c4 => ?_) (fun c4 => ?_)
  · skip
    have c4 := (aAd _ _).mp c4
    exact hpost _ 
  · skip
    have c4 := mt (aAd _ _).mpr c4
    intro v5 ev5
    have f6 : Int32.toInt (x4 - x2) = Int32.toInt x4 - Int32.toInt x2 := aCA _ _ (by omega)
    rw [<- ev5] at f6
    refine And.intro (aBZ (by omega)) ?_
    intro v7 ev7
    have hv7 := congrArg Int32.toInt ev7
    have f10 := aAT v7
    refine And.intro (fun c9 => ?_) (fun c9 => ?_)
    · skip
      have c9 := (zJ _ _).mp c9
      have f11 := aAT x3
      exact ts_X5_addToDusk_52 hpost hKn x2 x3 x4 vV aBN (by omega) hn3
    · skip
      have c9 := mt (zJ _ _).mpr c9
      intro v12 ev12
      have hv12 := congrArg Int32.toInt ev12
      refine And.intro (aBZ (by omega)) ?_
      have f15 := aAT v12
      refine And.intro (fun c14 => ?_) (fun c14 => ?_)
      · skip
        have c14 := (aAO _ _).mp c14
        have f17 := aAT x3
        exact ts_X5_addToDusk_52 hpost hKn x2 x3 x4 vV aBN (by omega) hn3
      · skip
        have c14 := mt (aAO _ _).mpr c14
        intro v18 ev18
        have hv18 := congrArg Int32.toInt ev18
        refine And.intro (aBZ (by omega)) ?_
        have f19 := aAT x3
        exact ts_X5_addToDusk_52 hpost hKn x2 x3 x4 (upd vV x4.toNatClampNeg v18) aBN (by omega) hn3
set_option maxHeartbeats 8000000 in
set_option maxRecDepth 200000 in
theorem tb_X5_addToDusk_3 {post : (Nat -> Int32) -> Prop} (hpost : ∀ (aXg : Nat -> Int32), post aXg) : ∀ (n : Nat) (x2 x3 x4 : Int32) (vV : Nat -> Int32), (1 <= Int32.toInt x2 /\ Int32.toInt x2 <= 99) -> (0 <= Int32.toInt x4 /\ Int32.toInt x4 <= 300) -> (Int32.toInt x4 - 0 < (n : Int)) -> wb_X5_addToDusk_3 post n x2 x3 x4 vV := by
  intro n
  induction n with
  | zero =>
    intro x2 x3 x4 vV aBN aDO hm
    exfalso; omega
  | succ n ih =>
    intro x2 x3 x4 vV aBN aDO hm
    exact ts_X5_addToDusk_3 hpost ih x2 x3 x4 vV aBN aDO (by omega)
set_option maxHeartbeats 8000000 in
set_option maxRecDepth 200000 in
theorem t_X5_addToDusk {post : (Nat -> Int32) -> Prop} {p0 p1 p2 : Int32} {vV : Nat -> Int32} (h_p0 : 0 <= Int32.toInt p0 /\ Int32.toInt p0 <= 300) (h_p1 : 1 <= Int32.toInt p1 /\ Int32.toInt p1 <= 99) (hpost : ∀ (aXg : Nat -> Int32), post aXg) : wp_X5_addToDusk post p0 p1 p2 vV := by
  have f20 := aAT p2
  exact ⟨302, tb_X5_addToDusk_3 hpost _ p1 p2 p0 vV h_p1 h_p0 (by omega)⟩
set_option maxHeartbeats 8000000 in
set_option maxRecDepth 200000 in
theorem ts_X5_fillDusk_123 {post : (Nat -> Int32) -> (Nat -> Int32) -> (Nat -> Int32) -> Prop} {K47 : Int32 -> Int32 -> Int32 -> (Nat -> Int32) -> (Nat -> Int32) -> (Nat -> Int32) -> Prop} {n47 : Int} (dN : Int32) (uU gF pL qF mX oE dY : Nat -> Int32) (jE eW eY dU fY gJ jG pQ : Int32) (pN : Nat -> Int32) (xL : 0 <= Int32.toInt dN /\ Int32.toInt dN <= 16) (aAC : 0 <= Int32.toInt fY /\ Int32.toInt fY <= 7) (zK : 0 <= Int32.toInt jG /\ Int32.toInt jG <= 9) (zU : 0 <= Int32.toInt pQ /\ Int32.toInt pQ <= 40) (hpost : ∀ (aXg : Nat -> Int32) (aCG : Nat -> Int32) (aB4 : Nat -> Int32), post aXg aCG aB4) (hK47 : ∀ (x2 : Int32) (x3 : Int32) (x4 : Int32) (vV : Nat -> Int32) (qY : Nat -> Int32) (qU : Nat -> Int32), (0 <= Int32.toInt x2 /\ Int32.toInt x2 <= 300) -> (0 <= Int32.toInt x3 /\ Int32.toInt x3 <= 65535) -> (0 <= Int32.toInt x4 /\ Int32.toInt x4 <= 16) -> (16 - Int32.toInt x4 < n47) -> K47 x2 x3 x4 vV qY qU) (x2 x3 x4 : Int32) (vV qY qU : Nat -> Int32) (aBN : 0 <= Int32.toInt x2 /\ Int32.toInt x2 <= 300) (aCH : 0 <= Int32.toInt x3 /\ Int32.toInt x3 <= 65535) (aDO : 0 <= Int32.toInt x4 /\ Int32.toInt x4 <= 15) (hn47 : 16 - Int32.toInt x4 <= n47) : ws_X5_fillDusk_123 post K47 dN uU gF pL qF mX oE dY jE eW eY dU fY gJ jG pQ pN x2 x3 x4 vV qY qU := by
  have l0 := aEc
  intro v1 ev1
  have f2 : Int32.toInt (x4 + 1) = Int32.toInt x4 + Int32.toInt (1 : Int32) := aAD _ _ (by omega)
  rw [<- ev1] at f2
  exact hK47 x2 x3 v1 vV qY qU aBN aCH (by omega) (by omega)
set_option maxHeartbeats 8000000 in
set_option maxRecDepth 200000 in
theorem ts_X5_fillDusk_47 {post : (Nat -> Int32) -> (Nat -> Int32) -> (Nat -> Int32) -> Prop} {next : Int32 -> Int32 -> Int32 -> (Nat -> Int32) -> (Nat -> Int32) -> (Nat -> Int32) -> Prop} {n47 : Int} (dN : Int32) (uU gF pL qF mX oE dY : Nat -> Int32) (jE eW eY dU fY gJ jG pQ : Int32) (pN : Nat -> Int32) (xL : 0 <= Int32.toInt dN /\ Int32.toInt dN <= 16) (aAC : 0 <= Int32.toInt fY /\ Int32.toInt fY <= 7) (zK : 0 <= Int32.toInt jG /\ Int32.toInt jG <= 9) (zU : 0 <= Int32.toInt pQ /\ Int32.toInt pQ <= 40) (hpost : ∀ (aXg : Nat -> Int32) (aCG : Nat -> Int32) (aB4 : Nat -> Int32), post aXg aCG aB4) (hKn : ∀ (x2 : Int32) (x3 : Int32) (x4 : Int32) (vV : Nat -> Int32) (qY : Nat -> Int32) (qU : Nat -> Int32), (0 <= Int32.toInt x2 /\ Int32.toInt x2 <= 300) -> (0 <= Int32.toInt x3 /\ Int32.toInt x3 <= 65535) -> (0 <= Int32.toInt x4 /\ Int32.toInt x4 <= 16) -> (16 - Int32.toInt x4 < n47) -> next x2 x3 x4 vV qY qU) (x2 x3 x4 : Int32) (vV qY qU : Nat -> Int32) (aBN : 0 <= Int32.toInt x2 /\ Int32.toInt x2 <= 300) (aCH : 0 <= Int32.toInt x3 /\ Int32.toInt x3 <= 65535) (aDO : 0 <= Int32.toInt x4 /\ Int32.toInt x4 <= 16) (hn47 : 16 - Int32.toInt x4 <= n47) : ws_X5_fillDusk_47 post next dN uU gF pL qF mX oE dY jE eW eY dU fY gJ jG pQ pN x2 x3 x4 vV qY qU := by
  have l0 := aE0
  have l1 := aEc
  refine And.intro (fun c3 => ?_) (fun c3 => ?_)
  · skip
    have c3 := (aAO _ _).mp c3
    exact hpost _ _ _ 
  · skip
    have c3 := mt (aAO _ _).mpr c3
    intro v4 ev4
    have f5 := aRJ x3 x4 (by omega)
    have hv4 := congrArg Int32.toInt ev4
    have f7 := aAQ v4 1 (by omega)
    have f8 := aBx v4 1 (by omega)
    refine And.intro (fun c6 => ?_) (fun c6 => ?_)
    · skip
      have c6 := (zJ _ _).mp c6
      exact ts_X5_fillDusk_123 dN uU gF pL qF mX oE dY jE eW eY dU fY gJ jG pQ pN xL aAC zK zU hpost hKn x2 x3 x4 vV qY qU aBN aCH (by omega) hn47
    · skip
      have c6 := mt (zJ _ _).mpr c6
      intro v9 ev9
      have f10 := aDv 15 32768 x4 (by decide) (by omega)
      have hv9 := congrArg Int32.toInt ev9
      refine aUV (by omega) aAC (by omega) xL zU (fun r13 ru_given_11 ru_stack_12 h_r13 => ?_)
      intro v14 ev14
      have f15 := ti_max (1 : Int32) r13
      have hv14 := congrArg Int32.toInt ev14
      refine aUx xL (fun r16 => ?_)
      intro v17 ev17
      intro v18 ev18
      have hv18 := congrArg Int32.toInt ev18
      refine t_X5_addToDusk aBN (by omega) (fun pl_best_20 => ?_)
      exact ts_X5_fillDusk_123 dN uU gF pL qF mX oE dY jE eW eY dU fY gJ jG pQ pN xL aAC zK zU hpost hKn x2 x3 x4 pl_best_20 ru_given_11 ru_stack_12 aBN aCH (by omega) hn47
set_option maxHeartbeats 8000000 in
set_option maxRecDepth 200000 in
theorem tb_X5_fillDusk_47 {post : (Nat -> Int32) -> (Nat -> Int32) -> (Nat -> Int32) -> Prop} (dN : Int32) (uU gF pL qF mX oE dY : Nat -> Int32) (jE eW eY dU fY gJ jG pQ : Int32) (pN : Nat -> Int32) (xL : 0 <= Int32.toInt dN /\ Int32.toInt dN <= 16) (aAC : 0 <= Int32.toInt fY /\ Int32.toInt fY <= 7) (zK : 0 <= Int32.toInt jG /\ Int32.toInt jG <= 9) (zU : 0 <= Int32.toInt pQ /\ Int32.toInt pQ <= 40) (hpost : ∀ (aXg : Nat -> Int32) (aCG : Nat -> Int32) (aB4 : Nat -> Int32), post aXg aCG aB4) : ∀ (n : Nat) (x2 x3 x4 : Int32) (vV qY qU : Nat -> Int32), (0 <= Int32.toInt x2 /\ Int32.toInt x2 <= 300) -> (0 <= Int32.toInt x3 /\ Int32.toInt x3 <= 65535) -> (0 <= Int32.toInt x4 /\ Int32.toInt x4 <= 16) -> (16 - Int32.toInt x4 < (n : Int)) -> wb_X5_fillDusk_47 post dN uU gF pL qF mX oE dY jE eW eY dU fY gJ jG pQ pN n x2 x3 x4 vV qY qU := by
  intro n
  induction n with
  | zero =>
    intro x2 x3 x4 vV qY qU aBN aCH aDO hm
    exfalso; omega
  | succ n ih =>
    intro x2 x3 x4 vV qY qU aBN aCH aDO hm
    exact ts_X5_fillDusk_47 dN uU gF pL qF mX oE dY jE eW eY dU fY gJ jG pQ pN xL aAC zK zU hpost ih x2 x3 x4 vV qY qU aBN aCH aDO (by omega)
set_option maxHeartbeats 8000000 in
set_option maxRecDepth 200000 in
theorem ts_X5_fillDusk_17 {post : (Nat -> Int32) -> (Nat -> Int32) -> (Nat -> Int32) -> Prop} {next : Int32 -> Int32 -> (Nat -> Int32) -> (Nat -> Int32) -> (Nat -> Int32) -> Prop} {n17 : Int} (dN : Int32) (uU gF pL qF mX oE dY : Nat -> Int32) (jE eW eY dU fY gJ jG pQ : Int32) (pN : Nat -> Int32) (xL : 0 <= Int32.toInt dN /\ Int32.toInt dN <= 16) (aAC : 0 <= Int32.toInt fY /\ Int32.toInt fY <= 7) (zK : 0 <= Int32.toInt jG /\ Int32.toInt jG <= 9) (zU : 0 <= Int32.toInt pQ /\ Int32.toInt pQ <= 40) (hpost : ∀ (aXg : Nat -> Int32) (aCG : Nat -> Int32) (aB4 : Nat -> Int32), post aXg aCG aB4) (hKn : ∀ (x2 : Int32) (x3 : Int32) (vV : Nat -> Int32) (qY : Nat -> Int32) (qU : Nat -> Int32), (0 <= Int32.toInt x2 /\ Int32.toInt x2 <= 300) -> (1 <= Int32.toInt x3 /\ Int32.toInt x3 <= 301) -> (301 - Int32.toInt x3 < n17) -> next x2 x3 vV qY qU) (x2 x3 : Int32) (vV qY qU : Nat -> Int32) (aBN : 0 <= Int32.toInt x2 /\ Int32.toInt x2 <= 300) (aCH : 1 <= Int32.toInt x3 /\ Int32.toInt x3 <= 301) (hn17 : 301 - Int32.toInt x3 <= n17) : ws_X5_fillDusk_17 post next dN uU gF pL qF mX oE dY jE eW eY dU fY gJ jG pQ pN x2 x3 vV qY qU := by
  have l0 := aI2
  have l1 := aE0
  have l2 := aEc
  have l3 := li_2
  refine And.intro (fun c21 => ?_) (fun c21 => ?_)
  · skip
    have c21 := (aAd _ _).mp c21
    refine And.intro (fun c22 => ?_) (fun c22 => ?_)
    · skip
      have c22 := mt (zJ _ _).mpr c22
      intro v23 ev23
      have hv23 := congrArg Int32.toInt ev23
      intro v25 ev25
      have hv25 := congrArg Int32.toInt ev25
      refine t_X3_within aAC xL (fun r27 h_r27 => ?_)
      intro v28 ev28
      have f29 := aDv 16 65536 dN (by decide) (by omega)
      have hv28 := congrArg Int32.toInt ev28
      intro v30 ev30
      intro v31 ev31
      refine t_X3_ripeBy zK xL (fun r32 h_r32 => ?_)
      intro v33 ev33
      have f34 := aAQ ((v28 - 1) &&& (v31 ^^^ (-1))) r32 (by omega)
      have f36 : Int32.toInt (v28 - 1) = Int32.toInt v28 - Int32.toInt (1 : Int32) := aCA _ _ (by omega)
      have f37 := aBx (v28 - 1) (v31 ^^^ (-1)) (by omega)
      have f38 := aBx ((v28 - 1) &&& (v31 ^^^ (-1))) r32 (by omega)
      have hv33 := congrArg Int32.toInt ev33
      have f39 := aAQ v33 r27 (by omega)
      have f40 := aBx v33 r27 (by omega)
      exact ⟨18, tb_X5_fillDusk_47 dN uU gF pL qF mX oE dY jE eW eY dU fY gJ jG pQ pN xL aAC zK zU hpost _ x2 (v33 &&& r27) 0 vV qY qU aBN (by omega) (by omega) (by omega)⟩
    · skip
      have c22 := (zJ _ _).mp c22
      exfalso; omega
  · skip
    have c21 := mt (aAd _ _).mpr c21
    refine And.intro (aBZ (by omega)) ?_
    intro v41 ev41
    have f42 : Int32.toInt (x3 + 1) = Int32.toInt x3 + Int32.toInt (1 : Int32) := aAD _ _ (by omega)
    rw [<- ev41] at f42
    exact hKn x2 v41 (upd vV x3.toNatClampNeg (-2147483648)) qY qU aBN (by omega) (by omega)
set_option maxHeartbeats 8000000 in
set_option maxRecDepth 200000 in
theorem tb_X5_fillDusk_17 {post : (Nat -> Int32) -> (Nat -> Int32) -> (Nat -> Int32) -> Prop} (dN : Int32) (uU gF pL qF mX oE dY : Nat -> Int32) (jE eW eY dU fY gJ jG pQ : Int32) (pN : Nat -> Int32) (xL : 0 <= Int32.toInt dN /\ Int32.toInt dN <= 16) (aAC : 0 <= Int32.toInt fY /\ Int32.toInt fY <= 7) (zK : 0 <= Int32.toInt jG /\ Int32.toInt jG <= 9) (zU : 0 <= Int32.toInt pQ /\ Int32.toInt pQ <= 40) (hpost : ∀ (aXg : Nat -> Int32) (aCG : Nat -> Int32) (aB4 : Nat -> Int32), post aXg aCG aB4) : ∀ (n : Nat) (x2 x3 : Int32) (vV qY qU : Nat -> Int32), (0 <= Int32.toInt x2 /\ Int32.toInt x2 <= 300) -> (1 <= Int32.toInt x3 /\ Int32.toInt x3 <= 301) -> (301 - Int32.toInt x3 < (n : Int)) -> wb_X5_fillDusk_17 post dN uU gF pL qF mX oE dY jE eW eY dU fY gJ jG pQ pN n x2 x3 vV qY qU := by
  intro n
  induction n with
  | zero =>
    intro x2 x3 vV qY qU aBN aCH hm
    exfalso; omega
  | succ n ih =>
    intro x2 x3 vV qY qU aBN aCH hm
    exact ts_X5_fillDusk_17 dN uU gF pL qF mX oE dY jE eW eY dU fY gJ jG pQ pN xL aAC zK zU hpost ih x2 x3 vV qY qU aBN aCH (by omega)
set_option maxHeartbeats 8000000 in
set_option maxRecDepth 200000 in
theorem t_X5_fillDusk {post : (Nat -> Int32) -> (Nat -> Int32) -> (Nat -> Int32) -> Prop} {p0 : Int32} {vV : Nat -> Int32} {dN : Int32} {uU gF pL qF mX oE dY : Nat -> Int32} {jE eW eY dU fY gJ jG pQ : Int32} {qY qU pN : Nat -> Int32} (h_p0 : 0 <= Int32.toInt p0 /\ Int32.toInt p0 <= 300) (xL : 0 <= Int32.toInt dN /\ Int32.toInt dN <= 16) (aAC : 0 <= Int32.toInt fY /\ Int32.toInt fY <= 7) (zK : 0 <= Int32.toInt jG /\ Int32.toInt jG <= 9) (zU : 0 <= Int32.toInt pQ /\ Int32.toInt pQ <= 40) (hpost : ∀ (aXg : Nat -> Int32) (aCG : Nat -> Int32) (aB4 : Nat -> Int32), post aXg aCG aB4) : wp_X5_fillDusk post p0 vV dN uU gF pL qF mX oE dY jE eW eY dU fY gJ jG pQ qY qU pN := by
  have l0 := aE0
  have l1 := aEc
  have l2 := li_300
  intro v43 ev43
  have f44 := ti_min p0 (300 : Int32)
  have hv43 := congrArg Int32.toInt ev43
  exact ⟨302, tb_X5_fillDusk_17 dN uU gF pL qF mX oE dY jE eW eY dU fY gJ jG pQ pN xL aAC zK zU hpost _ v43 1 (upd vV (0 : Int32).toNatClampNeg 0) qY qU (by omega) (by omega) (by omega)⟩
set_option maxHeartbeats 8000000 in
set_option maxRecDepth 200000 in
theorem ts_X9_dusk_85 {post : Int32 -> (Nat -> Int32) -> (Nat -> Int32) -> (Nat -> Int32) -> Int32 -> (Nat -> Int32) -> Prop} {K45 : Int32 -> Int32 -> Int32 -> Int32 -> Int32 -> (Nat -> Int32) -> (Nat -> Int32) -> (Nat -> Int32) -> Int32 -> (Nat -> Int32) -> Prop} {n45 : Int} (dN : Int32) (uU gF pL qF mX oE dY : Nat -> Int32) (jE eW eY dU fY gJ jG pQ : Int32) (pN : Nat -> Int32) (xL : 0 <= Int32.toInt dN /\ Int32.toInt dN <= 16) (aAC : -1 <= Int32.toInt fY /\ Int32.toInt fY <= 7) (zK : 0 <= Int32.toInt jG /\ Int32.toInt jG <= 9) (zU : 0 <= Int32.toInt pQ /\ Int32.toInt pQ <= 40) (hpost : ∀ (r : Int32) (aXg : Nat -> Int32) (aCG : Nat -> Int32) (aB4 : Nat -> Int32) (zV : Int32) (aAV : Nat -> Int32), (-2 <= Int32.toInt r /\ Int32.toInt r <= 2147483647) -> (0 <= Int32.toInt zV /\ Int32.toInt zV <= 16) -> post r aXg aCG aB4 zV aAV) (hK45 : ∀ (x1 : Int32) (x2 : Int32) (x3 : Int32) (x4 : Int32) (x5 : Int32) (vV : Nat -> Int32) (qY : Nat -> Int32) (qU : Nat -> Int32) (qB : Int32) (jK : Nat -> Int32), (0 <= Int32.toInt x1 /\ Int32.toInt x1 <= 300) -> (0 <= Int32.toInt x2 /\ Int32.toInt x2 <= 2147483647) -> (0 <= Int32.toInt x3 /\ Int32.toInt x3 <= 65535) -> (0 <= Int32.toInt x4 /\ Int32.toInt x4 <= 300) -> (1 <= Int32.toInt x5 /\ Int32.toInt x5 <= 301) -> (0 <= Int32.toInt qB /\ Int32.toInt qB <= 16) -> (301 - Int32.toInt x5 < n45) -> K45 x1 x2 x3 x4 x5 vV qY qU qB jK) (x1 x2 x3 x4 x5 : Int32) (vV qY qU : Nat -> Int32) (qB : Int32) (jK : Nat -> Int32) (aBK : 1 <= Int32.toInt x1 /\ Int32.toInt x1 <= 300) (aBN : 0 <= Int32.toInt x2 /\ Int32.toInt x2 <= 2147483647) (aCH : 0 <= Int32.toInt x3 /\ Int32.toInt x3 <= 65535) (aDO : 0 <= Int32.toInt x4 /\ Int32.toInt x4 <= 300) (aF7 : 1 <= Int32.toInt x5 /\ Int32.toInt x5 <= 300) (aAK : 0 <= Int32.toInt qB /\ Int32.toInt qB <= 16) (hn45 : 301 - Int32.toInt x5 <= n45) : ws_X9_dusk_85 post K45 dN uU gF pL qF mX oE dY jE eW eY dU fY gJ jG pQ pN x1 x2 x3 x4 x5 vV qY qU qB jK := by
  have l0 := aEc
  intro v1 ev1
  have f2 : Int32.toInt (x5 + 1) = Int32.toInt x5 + Int32.toInt (1 : Int32) := aAD _ _ (by omega)
  rw [<- ev1] at f2
  have f3 := aAT x2
  exact hK45 x1 x2 x3 x4 v1 vV qY qU qB jK (by omega) aBN aCH aDO (by omega) aAK (by omega)
set_option maxHeartbeats 8000000 in
set_option maxRecDepth 200000 in
theorem ts_X9_dusk_45 {post : Int32 -> (Nat -> Int32) -> (Nat -> Int32) -> (Nat -> Int32) -> Int32 -> (Nat -> Int32) -> Prop} {next : Int32 -> Int32 -> Int32 -> Int32 -> Int32 -> (Nat -> Int32) -> (Nat -> Int32) -> (Nat -> Int32) -> Int32 -> (Nat -> Int32) -> Prop} {n45 : Int} (dN : Int32) (uU gF pL qF mX oE dY : Nat -> Int32) (jE eW eY dU fY gJ jG pQ : Int32) (pN : Nat -> Int32) (xL : 0 <= Int32.toInt dN /\ Int32.toInt dN <= 16) (aAC : -1 <= Int32.toInt fY /\ Int32.toInt fY <= 7) (zK : 0 <= Int32.toInt jG /\ Int32.toInt jG <= 9) (zU : 0 <= Int32.toInt pQ /\ Int32.toInt pQ <= 40) (hpost : ∀ (r : Int32) (aXg : Nat -> Int32) (aCG : Nat -> Int32) (aB4 : Nat -> Int32) (zV : Int32) (aAV : Nat -> Int32), (-2 <= Int32.toInt r /\ Int32.toInt r <= 2147483647) -> (0 <= Int32.toInt zV /\ Int32.toInt zV <= 16) -> post r aXg aCG aB4 zV aAV) (hKn : ∀ (x1 : Int32) (x2 : Int32) (x3 : Int32) (x4 : Int32) (x5 : Int32) (vV : Nat -> Int32) (qY : Nat -> Int32) (qU : Nat -> Int32) (qB : Int32) (jK : Nat -> Int32), (0 <= Int32.toInt x1 /\ Int32.toInt x1 <= 300) -> (0 <= Int32.toInt x2 /\ Int32.toInt x2 <= 2147483647) -> (0 <= Int32.toInt x3 /\ Int32.toInt x3 <= 65535) -> (0 <= Int32.toInt x4 /\ Int32.toInt x4 <= 300) -> (1 <= Int32.toInt x5 /\ Int32.toInt x5 <= 301) -> (0 <= Int32.toInt qB /\ Int32.toInt qB <= 16) -> (301 - Int32.toInt x5 < n45) -> next x1 x2 x3 x4 x5 vV qY qU qB jK) (x1 x2 x3 x4 x5 : Int32) (vV qY qU : Nat -> Int32) (qB : Int32) (jK : Nat -> Int32) (aBK : 0 <= Int32.toInt x1 /\ Int32.toInt x1 <= 300) (aBN : 0 <= Int32.toInt x2 /\ Int32.toInt x2 <= 2147483647) (aCH : 0 <= Int32.toInt x3 /\ Int32.toInt x3 <= 65535) (aDO : 0 <= Int32.toInt x4 /\ Int32.toInt x4 <= 300) (aF7 : 1 <= Int32.toInt x5 /\ Int32.toInt x5 <= 301) (aAK : 0 <= Int32.toInt qB /\ Int32.toInt qB <= 16) (hn45 : 301 - Int32.toInt x5 <= n45) : ws_X9_dusk_45 post next dN uU gF pL qF mX oE dY jE eW eY dU fY gJ jG pQ pN x1 x2 x3 x4 x5 vV qY qU qB jK := by
  have l0 := aI2
  have l1 := li_m2147483648
  have l2 := aE0
  have l3 := aEc
  have l4 := li_16
  have l5 := li_65535
  refine And.intro (fun c4 => ?_) (fun c4 => ?_)
  · skip
    have c4 := (aAd _ _).mp c4
    refine And.intro (fun h9 => absurd h9 (by decide)) (fun _ => ?_)
    refine And.intro (aBZ (by omega)) ?_
    intro v5 ev5
    have f6 : Int32.toInt (0 + 1) = Int32.toInt (0 : Int32) + Int32.toInt (1 : Int32) := aAD _ _ (by omega)
    rw [<- ev5] at f6
    refine And.intro (fun c7 => ?_) (fun c7 => ?_)
    · skip
      have c7 := (aAO _ _).mp c7
      exfalso; omega
    · skip
      have c7 := mt (aAO _ _).mpr c7
      refine And.intro (aBZ (by omega)) ?_
      intro v8 ev8
      have f9 : Int32.toInt (v5 + 1) = Int32.toInt v5 + Int32.toInt (1 : Int32) := aAD _ _ (by omega)
      rw [<- ev8] at f9
      have f10 := aAT x2
      exact hpost _ _ _ _ _ _ (by omega) (by omega)
  · skip
    have c4 := mt (aAd _ _).mpr c4
    refine And.intro (aBZ (by omega)) ?_
    intro v11 ev11
    have hv11 := congrArg Int32.toInt ev11
    have f14 := aAT v11
    refine And.intro (fun c13 => ?_) (fun c13 => ?_)
    · skip
      have c13 := mt (zJ _ _).mpr c13
      refine And.intro (aBZ (by omega)) ?_
      intro v15 ev15
      have hv15 := congrArg Int32.toInt ev15
      intro v16 ev16
      have hv16 := congrArg Int32.toInt ev16
      have f19 := aAT (v16 >>> (16 &&& 31))
      have f21 := aAT x2
      refine And.intro (fun c18 => ?_) (fun c18 => ?_)
      · skip
        have c18 := (aAO _ _).mp c18
        exact ts_X9_dusk_85 dN uU gF pL qF mX oE dY jE eW eY dU fY gJ jG pQ pN xL aAC zK zU hpost hKn x1 x2 x3 x4 x5 vV qY qU qB jK (by omega) aBN aCH aDO (by omega) aAK hn45
      · skip
        have c18 := mt (aAO _ _).mpr c18
        refine And.intro (aBZ (by omega)) ?_
        intro v22 ev22
        have hv22 := congrArg Int32.toInt ev22
        have f24 := aAT v22
        refine And.intro (fun c23 => ?_) (fun c23 => ?_)
        · skip
          have c23 := mt (zJ _ _).mpr c23
          refine And.intro (aBZ (by omega)) ?_
          intro v25 ev25
          have f26 := aAT (-(vV x5.toNatClampNeg))
          have f27 := ta_neg (vV x5.toNatClampNeg) (by omega)
          have hv25 := congrArg Int32.toInt ev25
          have f28 := aAQ v25 65535 (by omega)
          exact ts_X9_dusk_85 dN uU gF pL qF mX oE dY jE eW eY dU fY gJ jG pQ pN xL aAC zK zU hpost hKn x1 (v16 >>> (16 &&& 31)) (v25 &&& 65535) x5 x5 vV qY qU qB jK (by omega) (by omega) (by omega) (by omega) (by omega) aAK hn45
        · skip
          have c23 := (zJ _ _).mp c23
          exfalso; omega
    · skip
      have c13 := (zJ _ _).mp c13
      have f30 := aAT x2
      refine And.intro (fun c29 => ?_) (fun c29 => ?_)
      · skip
        have c29 := (aAO _ _).mp c29
        exact ts_X9_dusk_85 dN uU gF pL qF mX oE dY jE eW eY dU fY gJ jG pQ pN xL aAC zK zU hpost hKn x1 x2 x3 x4 x5 vV qY qU qB jK (by omega) aBN aCH aDO (by omega) aAK hn45
      · skip
        have c29 := mt (aAO _ _).mpr c29
        exfalso; omega
set_option maxHeartbeats 8000000 in
set_option maxRecDepth 200000 in
theorem tb_X9_dusk_45 {post : Int32 -> (Nat -> Int32) -> (Nat -> Int32) -> (Nat -> Int32) -> Int32 -> (Nat -> Int32) -> Prop} (dN : Int32) (uU gF pL qF mX oE dY : Nat -> Int32) (jE eW eY dU fY gJ jG pQ : Int32) (pN : Nat -> Int32) (xL : 0 <= Int32.toInt dN /\ Int32.toInt dN <= 16) (aAC : -1 <= Int32.toInt fY /\ Int32.toInt fY <= 7) (zK : 0 <= Int32.toInt jG /\ Int32.toInt jG <= 9) (zU : 0 <= Int32.toInt pQ /\ Int32.toInt pQ <= 40) (hpost : ∀ (r : Int32) (aXg : Nat -> Int32) (aCG : Nat -> Int32) (aB4 : Nat -> Int32) (zV : Int32) (aAV : Nat -> Int32), (-2 <= Int32.toInt r /\ Int32.toInt r <= 2147483647) -> (0 <= Int32.toInt zV /\ Int32.toInt zV <= 16) -> post r aXg aCG aB4 zV aAV) : ∀ (n : Nat) (x1 x2 x3 x4 x5 : Int32) (vV qY qU : Nat -> Int32) (qB : Int32) (jK : Nat -> Int32), (0 <= Int32.toInt x1 /\ Int32.toInt x1 <= 300) -> (0 <= Int32.toInt x2 /\ Int32.toInt x2 <= 2147483647) -> (0 <= Int32.toInt x3 /\ Int32.toInt x3 <= 65535) -> (0 <= Int32.toInt x4 /\ Int32.toInt x4 <= 300) -> (1 <= Int32.toInt x5 /\ Int32.toInt x5 <= 301) -> (0 <= Int32.toInt qB /\ Int32.toInt qB <= 16) -> (301 - Int32.toInt x5 < (n : Int)) -> wb_X9_dusk_45 post dN uU gF pL qF mX oE dY jE eW eY dU fY gJ jG pQ pN n x1 x2 x3 x4 x5 vV qY qU qB jK := by
  intro n
  induction n with
  | zero =>
    intro x1 x2 x3 x4 x5 vV qY qU qB jK aBK aBN aCH aDO aF7 aAK hm
    exfalso; omega
  | succ n ih =>
    intro x1 x2 x3 x4 x5 vV qY qU qB jK aBK aBN aCH aDO aF7 aAK hm
    exact ts_X9_dusk_45 dN uU gF pL qF mX oE dY jE eW eY dU fY gJ jG pQ pN xL aAC zK zU hpost ih x1 x2 x3 x4 x5 vV qY qU qB jK aBK aBN aCH aDO aF7 aAK (by omega)
set_option maxHeartbeats 8000000 in
set_option maxRecDepth 200000 in
theorem t_X9_dusk {post : Int32 -> (Nat -> Int32) -> (Nat -> Int32) -> (Nat -> Int32) -> Int32 -> (Nat -> Int32) -> Prop} {p0 : Int32} {vV : Nat -> Int32} {dN : Int32} {uU gF pL qF mX oE dY : Nat -> Int32} {jE eW eY dU fY gJ jG pQ : Int32} {qY qU pN : Nat -> Int32} {qB : Int32} {jK : Nat -> Int32} (xL : 0 <= Int32.toInt dN /\ Int32.toInt dN <= 16) (aAC : -1 <= Int32.toInt fY /\ Int32.toInt fY <= 7) (zK : 0 <= Int32.toInt jG /\ Int32.toInt jG <= 9) (zU : 0 <= Int32.toInt pQ /\ Int32.toInt pQ <= 40) (aAK : 0 <= Int32.toInt qB /\ Int32.toInt qB <= 16) (hpost : ∀ (r : Int32) (aXg : Nat -> Int32) (aCG : Nat -> Int32) (aB4 : Nat -> Int32) (zV : Int32) (aAV : Nat -> Int32), (-2 <= Int32.toInt r /\ Int32.toInt r <= 2147483647) -> (0 <= Int32.toInt zV /\ Int32.toInt zV <= 16) -> post r aXg aCG aB4 zV aAV) : wp_X9_dusk post p0 vV dN uU gF pL qF mX oE dY jE eW eY dU fY gJ jG pQ qY qU pN qB jK := by
  have l0 := aI2
  have l1 := li_m2
  have l2 := aE0
  have l3 := aEc
  have l4 := li_300
  have f32 := aAT p0
  refine And.intro (fun c31 => ?_) (fun c31 => ?_)
  · skip
    have c31 := (aAd _ _).mp c31
    exact hpost _ _ _ _ _ _ (by omega) aAK
  · skip
    have c31 := mt (aAd _ _).mpr c31
    refine And.intro (fun c33 => ?_) (fun c33 => ?_)
    · skip
      have c33 := (aAO _ _).mp c33
      refine And.intro (fun c34 => ?_) (fun c34 => ?_)
      · skip
        have c34 := mt (zJ _ _).mpr c34
        refine t_X5_fillDusk (by omega) xL (by omega) zK zU (fun pl_best_35 ru_given_36 ru_stack_37 => ?_)
        exact ⟨302, tb_X9_dusk_45 dN uU gF pL qF mX oE dY jE eW eY dU fY gJ jG pQ pN xL aAC zK zU hpost _ p0 0 0 0 1 pl_best_35 ru_given_36 ru_stack_37 qB jK (by omega) (by omega) (by omega) (by omega) (by omega) aAK (by omega)⟩
      · skip
        have c34 := (zJ _ _).mp c34
        exact hpost _ _ _ _ _ _ (by omega) aAK
    · skip
      have c33 := mt (aAO _ _).mpr c33
      exact hpost _ _ _ _ _ _ (by omega) aAK
set_option maxHeartbeats 8000000 in
set_option maxRecDepth 200000 in
theorem ts_X3_firstUncovering_29 {post : Int32 -> Prop} {K2 : Int32 -> Int32 -> Int32 -> Prop} {n2 : Int} (dN : Int32) (uU gF : Nat -> Int32) (xL : 0 <= Int32.toInt dN /\ Int32.toInt dN <= 16) (hpost : ∀ (r : Int32) , (-1 <= Int32.toInt r /\ Int32.toInt r <= 15) -> post r) (hK2 : ∀ (x1 : Int32) (x2 : Int32) (x3 : Int32), (0 <= Int32.toInt x1 /\ Int32.toInt x1 <= 65535) -> (0 <= Int32.toInt x2 /\ Int32.toInt x2 <= 65535) -> (0 <= Int32.toInt x3 /\ Int32.toInt x3 <= 16) -> (16 - Int32.toInt x3 < n2) -> K2 x1 x2 x3) (x1 x2 x3 : Int32) (aBK : 0 <= Int32.toInt x1 /\ Int32.toInt x1 <= 65535) (aBN : 0 <= Int32.toInt x2 /\ Int32.toInt x2 <= 65535) (aCH : 0 <= Int32.toInt x3 /\ Int32.toInt x3 <= 15) (hn2 : 16 - Int32.toInt x3 <= n2) : ws_X3_firstUncovering_29 post K2 dN uU gF x1 x2 x3 := by
  have l0 := aEc
  intro v1 ev1
  have f2 : Int32.toInt (x3 + 1) = Int32.toInt x3 + Int32.toInt (1 : Int32) := aAD _ _ (by omega)
  rw [<- ev1] at f2
  exact hK2 x1 x2 v1 aBK aBN (by omega) (by omega)
set_option maxHeartbeats 8000000 in
set_option maxRecDepth 200000 in
theorem ts_X3_firstUncovering_2 {post : Int32 -> Prop} {next : Int32 -> Int32 -> Int32 -> Prop} {n2 : Int} (dN : Int32) (uU gF : Nat -> Int32) (xL : 0 <= Int32.toInt dN /\ Int32.toInt dN <= 16) (hpost : ∀ (r : Int32) , (-1 <= Int32.toInt r /\ Int32.toInt r <= 15) -> post r) (hKn : ∀ (x1 : Int32) (x2 : Int32) (x3 : Int32), (0 <= Int32.toInt x1 /\ Int32.toInt x1 <= 65535) -> (0 <= Int32.toInt x2 /\ Int32.toInt x2 <= 65535) -> (0 <= Int32.toInt x3 /\ Int32.toInt x3 <= 16) -> (16 - Int32.toInt x3 < n2) -> next x1 x2 x3) (x1 x2 x3 : Int32) (aBK : 0 <= Int32.toInt x1 /\ Int32.toInt x1 <= 65535) (aBN : 0 <= Int32.toInt x2 /\ Int32.toInt x2 <= 65535) (aCH : 0 <= Int32.toInt x3 /\ Int32.toInt x3 <= 16) (hn2 : 16 - Int32.toInt x3 <= n2) : ws_X3_firstUncovering_2 post next dN uU gF x1 x2 x3 := by
  have l0 := aI2
  have l1 := aE0
  have l2 := aEc
  refine And.intro (fun c3 => ?_) (fun c3 => ?_)
  · skip
    have c3 := (aAO _ _).mp c3
    exact hpost _ (by omega)
  · skip
    have c3 := mt (aAO _ _).mpr c3
    intro v4 ev4
    have f5 := aRJ x1 x3 (by omega)
    have hv4 := congrArg Int32.toInt ev4
    have f7 := aAQ v4 1 (by omega)
    have f8 := aBx v4 1 (by omega)
    refine And.intro (fun c6 => ?_) (fun c6 => ?_)
    · skip
      have c6 := (zJ _ _).mp c6
      exact ts_X3_firstUncovering_29 dN uU gF xL hpost hKn x1 x2 x3 aBK aBN (by omega) hn2
    · skip
      have c6 := mt (zJ _ _).mpr c6
      refine t_X3_lowerThan (by omega) aBN (by omega) (fun r9 h_r9 => ?_)
      refine And.intro (fun c10 => ?_) (fun c10 => ?_)
      · skip
        have c10 := mt (zJ _ _).mpr c10
        exact ts_X3_firstUncovering_29 dN uU gF xL hpost hKn x1 x2 x3 aBK aBN (by omega) hn2
      · skip
        have c10 := (zJ _ _).mp c10
        exact hpost _ (by omega)
set_option maxHeartbeats 8000000 in
set_option maxRecDepth 200000 in
theorem tb_X3_firstUncovering_2 {post : Int32 -> Prop} (dN : Int32) (uU gF : Nat -> Int32) (xL : 0 <= Int32.toInt dN /\ Int32.toInt dN <= 16) (hpost : ∀ (r : Int32) , (-1 <= Int32.toInt r /\ Int32.toInt r <= 15) -> post r) : ∀ (n : Nat) (x1 x2 x3 : Int32), (0 <= Int32.toInt x1 /\ Int32.toInt x1 <= 65535) -> (0 <= Int32.toInt x2 /\ Int32.toInt x2 <= 65535) -> (0 <= Int32.toInt x3 /\ Int32.toInt x3 <= 16) -> (16 - Int32.toInt x3 < (n : Int)) -> wb_X3_firstUncovering_2 post dN uU gF n x1 x2 x3 := by
  intro n
  induction n with
  | zero =>
    intro x1 x2 x3 aBK aBN aCH hm
    exfalso; omega
  | succ n ih =>
    intro x1 x2 x3 aBK aBN aCH hm
    exact ts_X3_firstUncovering_2 dN uU gF xL hpost ih x1 x2 x3 aBK aBN aCH (by omega)
set_option maxHeartbeats 8000000 in
set_option maxRecDepth 200000 in
theorem t_X3_firstUncovering {post : Int32 -> Prop} {p0 p1 dN : Int32} {uU gF : Nat -> Int32} (h_p0 : 0 <= Int32.toInt p0 /\ Int32.toInt p0 <= 65535) (h_p1 : 0 <= Int32.toInt p1 /\ Int32.toInt p1 <= 65535) (xL : 0 <= Int32.toInt dN /\ Int32.toInt dN <= 16) (hpost : ∀ (r : Int32) , (-1 <= Int32.toInt r /\ Int32.toInt r <= 15) -> post r) : wp_X3_firstUncovering post p0 p1 dN uU gF := by
  have l0 := aE0
  exact ⟨18, tb_X3_firstUncovering_2 dN uU gF xL hpost _ p0 p1 0 h_p0 h_p1 (by omega) (by omega)⟩
set_option maxHeartbeats 8000000 in
set_option maxRecDepth 200000 in
theorem ts_X9_gentle_91 {post : Int32 -> Int32 -> (Nat -> Int32) -> Prop} (dN : Int32) (uU gF qF mX oE dY : Nat -> Int32) (jE eW eY fY gJ jG : Int32) (xL : 0 <= Int32.toInt dN /\ Int32.toInt dN <= 16) (aAC : -1 <= Int32.toInt fY /\ Int32.toInt fY <= 7) (zK : 0 <= Int32.toInt jG /\ Int32.toInt jG <= 9) (hpost : ∀ (r : Int32) (zV : Int32) (aAV : Nat -> Int32), (-2 <= Int32.toInt r /\ Int32.toInt r <= 16) -> (0 <= Int32.toInt zV /\ Int32.toInt zV <= 16) -> post r zV aAV) (qB : Int32) (jK : Nat -> Int32) (aAK : 0 <= Int32.toInt qB /\ Int32.toInt qB <= 16) : ws_X9_gentle_91 post dN uU gF qF mX oE dY jE eW eY fY gJ jG qB jK := by
  exact hpost _ _ _ (by omega) aAK
set_option maxHeartbeats 8000000 in
set_option maxRecDepth 200000 in
theorem ts_X9_gentle_39 {post : Int32 -> Int32 -> (Nat -> Int32) -> Prop} {next : Int32 -> Int32 -> Int32 -> Int32 -> (Nat -> Int32) -> Prop} {n39 : Int} (dN : Int32) (uU gF qF mX oE dY : Nat -> Int32) (jE eW eY fY gJ jG : Int32) (xL : 0 <= Int32.toInt dN /\ Int32.toInt dN <= 16) (aAC : -1 <= Int32.toInt fY /\ Int32.toInt fY <= 7) (zK : 0 <= Int32.toInt jG /\ Int32.toInt jG <= 9) (hpost : ∀ (r : Int32) (zV : Int32) (aAV : Nat -> Int32), (-2 <= Int32.toInt r /\ Int32.toInt r <= 16) -> (0 <= Int32.toInt zV /\ Int32.toInt zV <= 16) -> post r zV aAV) (hKn : ∀ (x1 : Int32) (x2 : Int32) (x3 : Int32) (qB : Int32) (jK : Nat -> Int32), (0 <= Int32.toInt x1 /\ Int32.toInt x1 <= 65535) -> (0 <= Int32.toInt x2 /\ Int32.toInt x2 <= 65535) -> (0 <= Int32.toInt x3 /\ Int32.toInt x3 <= 16) -> (0 <= Int32.toInt qB /\ Int32.toInt qB <= 16) -> (16 - Int32.toInt x3 < n39) -> next x1 x2 x3 qB jK) (x1 x2 x3 qB : Int32) (jK : Nat -> Int32) (aBK : 0 <= Int32.toInt x1 /\ Int32.toInt x1 <= 65535) (aBN : 0 <= Int32.toInt x2 /\ Int32.toInt x2 <= 65535) (aCH : 0 <= Int32.toInt x3 /\ Int32.toInt x3 <= 16) (aAK : 0 <= Int32.toInt qB /\ Int32.toInt qB <= 16) (hn39 : 16 - Int32.toInt x3 <= n39) : ws_X9_gentle_39 post next dN uU gF qF mX oE dY jE eW eY fY gJ jG x1 x2 x3 qB jK := by
  have l0 := aI2
  have l1 := aEc
  have l2 := li_16
  refine And.intro (fun c1 => ?_) (fun c1 => ?_)
  · skip
    have c1 := (aAO _ _).mp c1
    exact ts_X9_gentle_91 dN uU gF qF mX oE dY jE eW eY fY gJ jG xL aAC zK hpost qB jK aAK
  · skip
    have c1 := mt (aAO _ _).mpr c1
    intro v2 ev2
    have f3 := aAQ x2 x1 (by omega)
    have f4 := aBx x2 x1 (by omega)
    have hv2 := congrArg Int32.toInt ev2
    refine t_X3_firstUncovering (by omega) aBK xL (fun r5 h_r5 => ?_)
    refine And.intro (fun c6 => ?_) (fun c6 => ?_)
    · skip
      have c6 := mt (zJ _ _).mpr c6
      refine And.intro (fun c7 => ?_) (fun c7 => ?_)
      · skip
        have c7 := (aAO _ _).mp c7
        intro v8 ev8
        have f9 := aDv 15 32768 r5 (by decide) (by omega)
        have hv8 := congrArg Int32.toInt ev8
        intro v10 ev10
        have f12 := aBx x1 (v8 ^^^ (-1)) (by omega)
        have hv10 := congrArg Int32.toInt ev10
        intro v13 ev13
        have f14 : Int32.toInt (x3 + 1) = Int32.toInt x3 + Int32.toInt (1 : Int32) := aAD _ _ (by omega)
        rw [<- ev13] at f14
        exact hKn v10 x2 v13 qB jK (by omega) aBN (by omega) aAK (by omega)
      · skip
        have c7 := mt (aAO _ _).mpr c7
        refine And.intro (aBZ (by omega)) ?_
        intro v15 ev15
        have f16 : Int32.toInt (qB + 1) = Int32.toInt qB + Int32.toInt (1 : Int32) := aAD _ _ (by omega)
        rw [<- ev15] at f16
        intro v17 ev17
        have f18 := aDv 15 32768 r5 (by decide) (by omega)
        have hv17 := congrArg Int32.toInt ev17
        intro v19 ev19
        have f21 := aBx x1 (v17 ^^^ (-1)) (by omega)
        have hv19 := congrArg Int32.toInt ev19
        intro v22 ev22
        have f23 : Int32.toInt (x3 + 1) = Int32.toInt x3 + Int32.toInt (1 : Int32) := aAD _ _ (by omega)
        rw [<- ev22] at f23
        exact hKn v19 x2 v22 v15 (upd jK qB.toNatClampNeg r5) (by omega) aBN (by omega) (by omega) (by omega)
    · skip
      have c6 := (zJ _ _).mp c6
      exact ts_X9_gentle_91 dN uU gF qF mX oE dY jE eW eY fY gJ jG xL aAC zK hpost qB jK aAK
set_option maxHeartbeats 8000000 in
set_option maxRecDepth 200000 in
theorem tb_X9_gentle_39 {post : Int32 -> Int32 -> (Nat -> Int32) -> Prop} (dN : Int32) (uU gF qF mX oE dY : Nat -> Int32) (jE eW eY fY gJ jG : Int32) (xL : 0 <= Int32.toInt dN /\ Int32.toInt dN <= 16) (aAC : -1 <= Int32.toInt fY /\ Int32.toInt fY <= 7) (zK : 0 <= Int32.toInt jG /\ Int32.toInt jG <= 9) (hpost : ∀ (r : Int32) (zV : Int32) (aAV : Nat -> Int32), (-2 <= Int32.toInt r /\ Int32.toInt r <= 16) -> (0 <= Int32.toInt zV /\ Int32.toInt zV <= 16) -> post r zV aAV) : ∀ (n : Nat) (x1 x2 x3 qB : Int32) (jK : Nat -> Int32), (0 <= Int32.toInt x1 /\ Int32.toInt x1 <= 65535) -> (0 <= Int32.toInt x2 /\ Int32.toInt x2 <= 65535) -> (0 <= Int32.toInt x3 /\ Int32.toInt x3 <= 16) -> (0 <= Int32.toInt qB /\ Int32.toInt qB <= 16) -> (16 - Int32.toInt x3 < (n : Int)) -> wb_X9_gentle_39 post dN uU gF qF mX oE dY jE eW eY fY gJ jG n x1 x2 x3 qB jK := by
  intro n
  induction n with
  | zero =>
    intro x1 x2 x3 qB jK aBK aBN aCH aAK hm
    exfalso; omega
  | succ n ih =>
    intro x1 x2 x3 qB jK aBK aBN aCH aAK hm
    exact ts_X9_gentle_39 dN uU gF qF mX oE dY jE eW eY fY gJ jG xL aAC zK hpost ih x1 x2 x3 qB jK aBK aBN aCH aAK (by omega)
set_option maxHeartbeats 8000000 in
set_option maxRecDepth 200000 in
theorem t_X9_gentle {post : Int32 -> Int32 -> (Nat -> Int32) -> Prop} {dN : Int32} {uU gF qF mX oE dY : Nat -> Int32} {jE eW eY fY gJ jG qB : Int32} {jK : Nat -> Int32} (xL : 0 <= Int32.toInt dN /\ Int32.toInt dN <= 16) (aAC : -1 <= Int32.toInt fY /\ Int32.toInt fY <= 7) (zK : 0 <= Int32.toInt jG /\ Int32.toInt jG <= 9) (aAK : 0 <= Int32.toInt qB /\ Int32.toInt qB <= 16) (hpost : ∀ (r : Int32) (zV : Int32) (aAV : Nat -> Int32), (-2 <= Int32.toInt r /\ Int32.toInt r <= 16) -> (0 <= Int32.toInt zV /\ Int32.toInt zV <= 16) -> post r zV aAV) : wp_X9_gentle post dN uU gF qF mX oE dY jE eW eY fY gJ jG qB jK := by
  have l0 := aI2
  have l1 := li_m2
  have l2 := aE0
  have l3 := aEc
  have l4 := li_2
  refine And.intro (fun c24 => ?_) (fun c24 => ?_)
  · skip
    have c24 := mt (zJ _ _).mpr c24
    intro v25 ev25
    have f26 := aDv 16 65536 dN (by decide) (by omega)
    have hv25 := congrArg Int32.toInt ev25
    intro v27 ev27
    intro v28 ev28
    refine And.intro (fun c29 => ?_) (fun c29 => ?_)
    · skip
      have c29 := mt (zJ _ _).mpr c29
      intro v30 ev30
      have hv30 := congrArg Int32.toInt ev30
      intro v32 ev32
      have hv32 := congrArg Int32.toInt ev32
      refine t_X3_within (by omega) xL (fun r34 h_r34 => ?_)
      intro v35 ev35
      have hv35 := congrArg Int32.toInt ev35
      intro v36 ev36
      intro v37 ev37
      refine t_X3_ripeBy zK xL (fun r38 h_r38 => ?_)
      intro v39 ev39
      have f40 := aAQ ((v35 - 1) &&& (v37 ^^^ (-1))) r38 (by omega)
      have f42 : Int32.toInt (v35 - 1) = Int32.toInt v35 - Int32.toInt (1 : Int32) := aCA _ _ (by omega)
      have f43 := aBx (v35 - 1) (v37 ^^^ (-1)) (by omega)
      have f44 := aBx ((v35 - 1) &&& (v37 ^^^ (-1))) r38 (by omega)
      have hv39 := congrArg Int32.toInt ev39
      have f46 : Int32.toInt (v25 - 1) = Int32.toInt v25 - Int32.toInt (1 : Int32) := aCA _ _ (by omega)
      have f47 := aBx (v25 - 1) (v28 ^^^ (-1)) (by omega)
      have f48 := aAQ v39 r34 (by omega)
      have f49 := aBx v39 r34 (by omega)
      exact ⟨18, tb_X9_gentle_39 dN uU gF qF mX oE dY jE eW eY fY gJ jG xL aAC zK hpost _ ((v25 - 1) &&& (v28 ^^^ (-1))) (v39 &&& r34) 0 0 jK (by omega) (by omega) (by omega) (by omega) (by omega)⟩
    · skip
      have c29 := (zJ _ _).mp c29
      exfalso; omega
  · skip
    have c24 := (zJ _ _).mp c24
    exact hpost _ _ _ (by omega) aAK
set_option maxHeartbeats 8000000 in
set_option maxRecDepth 200000 in
theorem ts_X9_harm_78 {post : Int32 -> Int32 -> (Nat -> Int32) -> Prop} {K35 : Int32 -> Int32 -> Int32 -> Int32 -> Int32 -> (Nat -> Int32) -> Prop} {n35 : Int} (dN : Int32) (uU gF pL qF mX oE dY : Nat -> Int32) (jE eW eY dU fY gJ jG : Int32) (xL : 0 <= Int32.toInt dN /\ Int32.toInt dN <= 16) (aAC : -1 <= Int32.toInt fY /\ Int32.toInt fY <= 7) (zK : 0 <= Int32.toInt jG /\ Int32.toInt jG <= 9) (hpost : ∀ (r : Int32) (zV : Int32) (aAV : Nat -> Int32), (-2 <= Int32.toInt r /\ Int32.toInt r <= 65535) -> (0 <= Int32.toInt zV /\ Int32.toInt zV <= 16) -> post r zV aAV) (hK35 : ∀ (x1 : Int32) (x2 : Int32) (x3 : Int32) (x4 : Int32) (qB : Int32) (jK : Nat -> Int32), (0 <= Int32.toInt x1 /\ Int32.toInt x1 <= 65535) -> (0 <= Int32.toInt x2 /\ Int32.toInt x2 <= 65535) -> (0 <= Int32.toInt x3 /\ Int32.toInt x3 <= 65535) -> (0 <= Int32.toInt x4 /\ Int32.toInt x4 <= 16) -> (0 <= Int32.toInt qB /\ Int32.toInt qB <= 16) -> (16 - Int32.toInt x4 < n35) -> K35 x1 x2 x3 x4 qB jK) (x1 x2 x3 x4 qB : Int32) (jK : Nat -> Int32) (aBK : 0 <= Int32.toInt x1 /\ Int32.toInt x1 <= 65535) (aBN : 0 <= Int32.toInt x2 /\ Int32.toInt x2 <= 65535) (aCH : 0 <= Int32.toInt x3 /\ Int32.toInt x3 <= 65535) (aDO : 0 <= Int32.toInt x4 /\ Int32.toInt x4 <= 15) (aAK : 0 <= Int32.toInt qB /\ Int32.toInt qB <= 16) (hn35 : 16 - Int32.toInt x4 <= n35) : ws_X9_harm_78 post K35 dN uU gF pL qF mX oE dY jE eW eY dU fY gJ jG x1 x2 x3 x4 qB jK := by
  have l0 := aEc
  intro v1 ev1
  have f2 : Int32.toInt (x4 + 1) = Int32.toInt x4 + Int32.toInt (1 : Int32) := aAD _ _ (by omega)
  rw [<- ev1] at f2
  exact hK35 x1 x2 x3 v1 qB jK aBK aBN aCH (by omega) aAK (by omega)
set_option maxHeartbeats 8000000 in
set_option maxRecDepth 200000 in
theorem ts_X9_harm_35 {post : Int32 -> Int32 -> (Nat -> Int32) -> Prop} {next : Int32 -> Int32 -> Int32 -> Int32 -> Int32 -> (Nat -> Int32) -> Prop} {n35 : Int} (dN : Int32) (uU gF pL qF mX oE dY : Nat -> Int32) (jE eW eY dU fY gJ jG : Int32) (xL : 0 <= Int32.toInt dN /\ Int32.toInt dN <= 16) (aAC : -1 <= Int32.toInt fY /\ Int32.toInt fY <= 7) (zK : 0 <= Int32.toInt jG /\ Int32.toInt jG <= 9) (hpost : ∀ (r : Int32) (zV : Int32) (aAV : Nat -> Int32), (-2 <= Int32.toInt r /\ Int32.toInt r <= 65535) -> (0 <= Int32.toInt zV /\ Int32.toInt zV <= 16) -> post r zV aAV) (hKn : ∀ (x1 : Int32) (x2 : Int32) (x3 : Int32) (x4 : Int32) (qB : Int32) (jK : Nat -> Int32), (0 <= Int32.toInt x1 /\ Int32.toInt x1 <= 65535) -> (0 <= Int32.toInt x2 /\ Int32.toInt x2 <= 65535) -> (0 <= Int32.toInt x3 /\ Int32.toInt x3 <= 65535) -> (0 <= Int32.toInt x4 /\ Int32.toInt x4 <= 16) -> (0 <= Int32.toInt qB /\ Int32.toInt qB <= 16) -> (16 - Int32.toInt x4 < n35) -> next x1 x2 x3 x4 qB jK) (x1 x2 x3 x4 qB : Int32) (jK : Nat -> Int32) (aBK : 0 <= Int32.toInt x1 /\ Int32.toInt x1 <= 65535) (aBN : 0 <= Int32.toInt x2 /\ Int32.toInt x2 <= 65535) (aCH : 0 <= Int32.toInt x3 /\ Int32.toInt x3 <= 65535) (aDO : 0 <= Int32.toInt x4 /\ Int32.toInt x4 <= 16) (aAK : 0 <= Int32.toInt qB /\ Int32.toInt qB <= 16) (hn35 : 16 - Int32.toInt x4 <= n35) : ws_X9_harm_35 post next dN uU gF pL qF mX oE dY jE eW eY dU fY gJ jG x1 x2 x3 x4 qB jK := by
  have l0 := aE0
  have l1 := aEc
  refine And.intro (fun c3 => ?_) (fun c3 => ?_)
  · skip
    have c3 := (aAO _ _).mp c3
    refine aUx xL (fun r4 => ?_)
    intro v5 ev5
    refine aUx xL (fun r6 => ?_)
    intro v7 ev7
    have hv7 := congrArg Int32.toInt ev7
    refine And.intro (fun h9 => absurd h9 (by decide)) (fun _ => ?_)
    refine And.intro (aBZ (by omega)) ?_
    intro v9 ev9
    have f10 : Int32.toInt (0 + 1) = Int32.toInt (0 : Int32) + Int32.toInt (1 : Int32) := aAD _ _ (by omega)
    rw [<- ev9] at f10
    exact hpost _ _ _ (by omega) (by omega)
  · skip
    have c3 := mt (aAO _ _).mpr c3
    intro v11 ev11
    have f12 := aRJ x2 x4 (by omega)
    have hv11 := congrArg Int32.toInt ev11
    have f14 := aAQ v11 1 (by omega)
    have f15 := aBx v11 1 (by omega)
    refine And.intro (fun c13 => ?_) (fun c13 => ?_)
    · skip
      have c13 := (zJ _ _).mp c13
      exact ts_X9_harm_78 dN uU gF pL qF mX oE dY jE eW eY dU fY gJ jG xL aAC zK hpost hKn x1 x2 x3 x4 qB jK aBK aBN aCH (by omega) aAK hn35
    · skip
      have c13 := mt (zJ _ _).mpr c13
      refine t_X3_lowerThan (by omega) aBK (by omega) (fun r16 h_r16 => ?_)
      intro v17 ev17
      have f18 := ti_or 16 65536 x3 r16 (by decide) (by omega) (by omega)
      have hv17 := congrArg Int32.toInt ev17
      intro v19 ev19
      have f20 := aDv 15 32768 x4 (by decide) (by omega)
      have hv19 := congrArg Int32.toInt ev19
      intro v21 ev21
      have f23 := aBx x1 (v19 ^^^ (-1)) (by omega)
      have hv21 := congrArg Int32.toInt ev21
      exact ts_X9_harm_78 dN uU gF pL qF mX oE dY jE eW eY dU fY gJ jG xL aAC zK hpost hKn v21 x2 v17 x4 qB jK (by omega) aBN (by omega) (by omega) aAK hn35
set_option maxHeartbeats 8000000 in
set_option maxRecDepth 200000 in
theorem tb_X9_harm_35 {post : Int32 -> Int32 -> (Nat -> Int32) -> Prop} (dN : Int32) (uU gF pL qF mX oE dY : Nat -> Int32) (jE eW eY dU fY gJ jG : Int32) (xL : 0 <= Int32.toInt dN /\ Int32.toInt dN <= 16) (aAC : -1 <= Int32.toInt fY /\ Int32.toInt fY <= 7) (zK : 0 <= Int32.toInt jG /\ Int32.toInt jG <= 9) (hpost : ∀ (r : Int32) (zV : Int32) (aAV : Nat -> Int32), (-2 <= Int32.toInt r /\ Int32.toInt r <= 65535) -> (0 <= Int32.toInt zV /\ Int32.toInt zV <= 16) -> post r zV aAV) : ∀ (n : Nat) (x1 x2 x3 x4 qB : Int32) (jK : Nat -> Int32), (0 <= Int32.toInt x1 /\ Int32.toInt x1 <= 65535) -> (0 <= Int32.toInt x2 /\ Int32.toInt x2 <= 65535) -> (0 <= Int32.toInt x3 /\ Int32.toInt x3 <= 65535) -> (0 <= Int32.toInt x4 /\ Int32.toInt x4 <= 16) -> (0 <= Int32.toInt qB /\ Int32.toInt qB <= 16) -> (16 - Int32.toInt x4 < (n : Int)) -> wb_X9_harm_35 post dN uU gF pL qF mX oE dY jE eW eY dU fY gJ jG n x1 x2 x3 x4 qB jK := by
  intro n
  induction n with
  | zero =>
    intro x1 x2 x3 x4 qB jK aBK aBN aCH aDO aAK hm
    exfalso; omega
  | succ n ih =>
    intro x1 x2 x3 x4 qB jK aBK aBN aCH aDO aAK hm
    exact ts_X9_harm_35 dN uU gF pL qF mX oE dY jE eW eY dU fY gJ jG xL aAC zK hpost ih x1 x2 x3 x4 qB jK aBK aBN aCH aDO aAK (by omega)
set_option maxHeartbeats 8000000 in
set_option maxRecDepth 200000 in
theorem t_X9_harm {post : Int32 -> Int32 -> (Nat -> Int32) -> Prop} {dN : Int32} {uU gF pL qF mX oE dY : Nat -> Int32} {jE eW eY dU fY gJ jG qB : Int32} {jK : Nat -> Int32} (xL : 0 <= Int32.toInt dN /\ Int32.toInt dN <= 16) (aAC : -1 <= Int32.toInt fY /\ Int32.toInt fY <= 7) (zK : 0 <= Int32.toInt jG /\ Int32.toInt jG <= 9) (aAK : 0 <= Int32.toInt qB /\ Int32.toInt qB <= 16) (hpost : ∀ (r : Int32) (zV : Int32) (aAV : Nat -> Int32), (-2 <= Int32.toInt r /\ Int32.toInt r <= 65535) -> (0 <= Int32.toInt zV /\ Int32.toInt zV <= 16) -> post r zV aAV) : wp_X9_harm post dN uU gF pL qF mX oE dY jE eW eY dU fY gJ jG qB jK := by
  have l0 := aI2
  have l1 := li_m2
  have l2 := aE0
  have l3 := aEc
  have l4 := li_2
  refine And.intro (fun c24 => ?_) (fun c24 => ?_)
  · skip
    have c24 := mt (zJ _ _).mpr c24
    intro v25 ev25
    have f26 := aDv 16 65536 dN (by decide) (by omega)
    have hv25 := congrArg Int32.toInt ev25
    intro v27 ev27
    intro v28 ev28
    refine And.intro (fun c29 => ?_) (fun c29 => ?_)
    · skip
      have c29 := mt (zJ _ _).mpr c29
      intro v30 ev30
      have hv30 := congrArg Int32.toInt ev30
      intro v32 ev32
      have hv32 := congrArg Int32.toInt ev32
      refine t_X3_within (by omega) xL (fun r34 h_r34 => ?_)
      intro v35 ev35
      have hv35 := congrArg Int32.toInt ev35
      intro v36 ev36
      intro v37 ev37
      refine t_X3_ripeBy zK xL (fun r38 h_r38 => ?_)
      intro v39 ev39
      have f40 := aAQ ((v35 - 1) &&& (v37 ^^^ (-1))) r38 (by omega)
      have f42 : Int32.toInt (v35 - 1) = Int32.toInt v35 - Int32.toInt (1 : Int32) := aCA _ _ (by omega)
      have f43 := aBx (v35 - 1) (v37 ^^^ (-1)) (by omega)
      have f44 := aBx ((v35 - 1) &&& (v37 ^^^ (-1))) r38 (by omega)
      have hv39 := congrArg Int32.toInt ev39
      have f46 : Int32.toInt (v25 - 1) = Int32.toInt v25 - Int32.toInt (1 : Int32) := aCA _ _ (by omega)
      have f47 := aBx (v25 - 1) (v28 ^^^ (-1)) (by omega)
      have f48 := aAQ v39 r34 (by omega)
      have f49 := aBx v39 r34 (by omega)
      exact ⟨18, tb_X9_harm_35 dN uU gF pL qF mX oE dY jE eW eY dU fY gJ jG xL aAC zK hpost _ ((v25 - 1) &&& (v28 ^^^ (-1))) (v39 &&& r34) 0 0 qB jK (by omega) (by omega) (by omega) (by omega) aAK (by omega)⟩
    · skip
      have c29 := (zJ _ _).mp c29
      exfalso; omega
  · skip
    have c24 := (zJ _ _).mp c24
    exact hpost _ _ _ (by omega) aAK
set_option maxHeartbeats 8000000 in
set_option maxRecDepth 200000 in
theorem ts_X5_loadFirsts_93 {post : (Nat -> Int32) -> (Nat -> Int32) -> (Nat -> Int32) -> Prop} {K7 : Int32 -> Int32 -> Int32 -> (Nat -> Int32) -> (Nat -> Int32) -> (Nat -> Int32) -> Prop} {K50 : Int32 -> Int32 -> Int32 -> Int32 -> Int32 -> (Nat -> Int32) -> (Nat -> Int32) -> (Nat -> Int32) -> Prop} {n7 n50 : Int} (oY : Int32) (rD : Nat -> Int32) (dN bD : Int32) (uU gF pL mX oE : Nat -> Int32) (dU pQ : Int32) (pN : Nat -> Int32) (aAE : 0 <= Int32.toInt oY /\ Int32.toInt oY <= 65535) (zR : ∀ k : Nat, 0 <= Int32.toInt (rD k) /\ Int32.toInt (rD k) <= 65535) (xL : 0 <= Int32.toInt dN /\ Int32.toInt dN <= 16) (wX : 0 <= Int32.toInt bD /\ Int32.toInt bD <= 8) (zU : 0 <= Int32.toInt pQ /\ Int32.toInt pQ <= 40) (hpost : ∀ (pl_load' : Nat -> Int32) (aCG : Nat -> Int32) (aB4 : Nat -> Int32), post pl_load' aCG aB4) (hK7 : ∀ (x1 : Int32) (x2 : Int32) (x3 : Int32) (vX : Nat -> Int32) (qY : Nat -> Int32) (qU : Nat -> Int32), (0 <= Int32.toInt x1 /\ Int32.toInt x1 <= 255) -> (0 <= Int32.toInt x2 /\ Int32.toInt x2 <= 65535) -> (0 <= Int32.toInt x3 /\ Int32.toInt x3 <= 8) -> (8 - Int32.toInt x3 < n7) -> K7 x1 x2 x3 vX qY qU) (hK50 : ∀ (x1 : Int32) (x2 : Int32) (x3 : Int32) (x4 : Int32) (x5 : Int32) (vX : Nat -> Int32) (qY : Nat -> Int32) (qU : Nat -> Int32), (0 <= Int32.toInt x1 /\ Int32.toInt x1 <= 255) -> (0 <= Int32.toInt x2 /\ Int32.toInt x2 <= 65535) -> (0 <= Int32.toInt x3 /\ Int32.toInt x3 <= 7) -> (0 <= Int32.toInt x4 /\ Int32.toInt x4 <= 65535) -> (0 <= Int32.toInt x5 /\ Int32.toInt x5 <= 16) -> (8 - Int32.toInt x3 <= n7) -> (16 - Int32.toInt x5 < n50) -> K50 x1 x2 x3 x4 x5 vX qY qU) (x1 x2 x3 x4 x5 : Int32) (vX qY qU : Nat -> Int32) (aBK : 0 <= Int32.toInt x1 /\ Int32.toInt x1 <= 255) (aBN : 0 <= Int32.toInt x2 /\ Int32.toInt x2 <= 65535) (aCH : 0 <= Int32.toInt x3 /\ Int32.toInt x3 <= 7) (aDO : 0 <= Int32.toInt x4 /\ Int32.toInt x4 <= 65535) (aF7 : 0 <= Int32.toInt x5 /\ Int32.toInt x5 <= 15) (hn7 : 8 - Int32.toInt x3 <= n7) (hn50 : 16 - Int32.toInt x5 <= n50) : ws_X5_loadFirsts_93 post K7 K50 oY rD dN bD uU gF pL mX oE dU pQ pN x1 x2 x3 x4 x5 vX qY qU := by
  have l0 := aEc
  intro v1 ev1
  have f2 : Int32.toInt (x5 + 1) = Int32.toInt x5 + Int32.toInt (1 : Int32) := aAD _ _ (by omega)
  rw [<- ev1] at f2
  exact hK50 x1 x2 x3 x4 v1 vX qY qU aBK aBN aCH aDO (by omega) hn7 (by omega)
set_option maxHeartbeats 8000000 in
set_option maxRecDepth 200000 in
theorem ts_X5_loadFirsts_50 {post : (Nat -> Int32) -> (Nat -> Int32) -> (Nat -> Int32) -> Prop} {K7 : Int32 -> Int32 -> Int32 -> (Nat -> Int32) -> (Nat -> Int32) -> (Nat -> Int32) -> Prop} {next : Int32 -> Int32 -> Int32 -> Int32 -> Int32 -> (Nat -> Int32) -> (Nat -> Int32) -> (Nat -> Int32) -> Prop} {n50 n7 : Int} (oY : Int32) (rD : Nat -> Int32) (dN bD : Int32) (uU gF pL mX oE : Nat -> Int32) (dU pQ : Int32) (pN : Nat -> Int32) (aAE : 0 <= Int32.toInt oY /\ Int32.toInt oY <= 65535) (zR : ∀ k : Nat, 0 <= Int32.toInt (rD k) /\ Int32.toInt (rD k) <= 65535) (xL : 0 <= Int32.toInt dN /\ Int32.toInt dN <= 16) (wX : 0 <= Int32.toInt bD /\ Int32.toInt bD <= 8) (zU : 0 <= Int32.toInt pQ /\ Int32.toInt pQ <= 40) (hpost : ∀ (pl_load' : Nat -> Int32) (aCG : Nat -> Int32) (aB4 : Nat -> Int32), post pl_load' aCG aB4) (hK7 : ∀ (x1 : Int32) (x2 : Int32) (x3 : Int32) (vX : Nat -> Int32) (qY : Nat -> Int32) (qU : Nat -> Int32), (0 <= Int32.toInt x1 /\ Int32.toInt x1 <= 255) -> (0 <= Int32.toInt x2 /\ Int32.toInt x2 <= 65535) -> (0 <= Int32.toInt x3 /\ Int32.toInt x3 <= 8) -> (8 - Int32.toInt x3 < n7) -> K7 x1 x2 x3 vX qY qU) (hKn : ∀ (x1 : Int32) (x2 : Int32) (x3 : Int32) (x4 : Int32) (x5 : Int32) (vX : Nat -> Int32) (qY : Nat -> Int32) (qU : Nat -> Int32), (0 <= Int32.toInt x1 /\ Int32.toInt x1 <= 255) -> (0 <= Int32.toInt x2 /\ Int32.toInt x2 <= 65535) -> (0 <= Int32.toInt x3 /\ Int32.toInt x3 <= 7) -> (0 <= Int32.toInt x4 /\ Int32.toInt x4 <= 65535) -> (0 <= Int32.toInt x5 /\ Int32.toInt x5 <= 16) -> (8 - Int32.toInt x3 <= n7) -> (16 - Int32.toInt x5 < n50) -> next x1 x2 x3 x4 x5 vX qY qU) (x1 x2 x3 x4 x5 : Int32) (vX qY qU : Nat -> Int32) (aBK : 0 <= Int32.toInt x1 /\ Int32.toInt x1 <= 255) (aBN : 0 <= Int32.toInt x2 /\ Int32.toInt x2 <= 65535) (aCH : 0 <= Int32.toInt x3 /\ Int32.toInt x3 <= 7) (aDO : 0 <= Int32.toInt x4 /\ Int32.toInt x4 <= 65535) (aF7 : 0 <= Int32.toInt x5 /\ Int32.toInt x5 <= 16) (hn7 : 8 - Int32.toInt x3 <= n7) (hn50 : 16 - Int32.toInt x5 <= n50) : ws_X5_loadFirsts_50 post K7 next oY rD dN bD uU gF pL mX oE dU pQ pN x1 x2 x3 x4 x5 vX qY qU := by
  have l0 := aE0
  have l1 := aEc
  refine And.intro (fun c3 => ?_) (fun c3 => ?_)
  · skip
    have c3 := (aAO _ _).mp c3
    intro v4 ev4
    have f6 := aBx x2 (x4 ^^^ (-1)) (by omega)
    have hv4 := congrArg Int32.toInt ev4
    intro v7 ev7
    have f8 : Int32.toInt (x3 + 1) = Int32.toInt x3 + Int32.toInt (1 : Int32) := aAD _ _ (by omega)
    rw [<- ev7] at f8
    exact hK7 x1 v4 v7 vX qY qU aBK (by omega) (by omega) (by omega)
  · skip
    have c3 := mt (aAO _ _).mpr c3
    intro v9 ev9
    have f10 := aRJ x4 x5 (by omega)
    have hv9 := congrArg Int32.toInt ev9
    have f12 := aAQ v9 1 (by omega)
    have f13 := aBx v9 1 (by omega)
    refine And.intro (fun c11 => ?_) (fun c11 => ?_)
    · skip
      have c11 := (zJ _ _).mp c11
      exact ts_X5_loadFirsts_93 oY rD dN bD uU gF pL mX oE dU pQ pN aAE zR xL wX zU hpost hK7 hKn x1 x2 x3 x4 x5 vX qY qU aBK aBN aCH aDO (by omega) hn7 hn50
    · skip
      have c11 := mt (zJ _ _).mpr c11
      refine And.intro (aBZ (by omega)) ?_
      intro v14 ev14
      have hv14 := congrArg Int32.toInt ev14
      refine aUV (by omega) aCH (by omega) xL zU (fun r18 ru_given_16 ru_stack_17 h_r18 => ?_)
      intro v19 ev19
      have hv19 := congrArg Int32.toInt ev19
      refine And.intro (aBZ (by omega)) ?_
      exact ts_X5_loadFirsts_93 oY rD dN bD uU gF pL mX oE dU pQ pN aAE zR xL wX zU hpost hK7 hKn x1 x2 x3 x4 x5 (upd vX x3.toNatClampNeg v19) ru_given_16 ru_stack_17 aBK aBN aCH aDO (by omega) hn7 hn50
set_option maxHeartbeats 8000000 in
set_option maxRecDepth 200000 in
theorem tb_X5_loadFirsts_50 {post : (Nat -> Int32) -> (Nat -> Int32) -> (Nat -> Int32) -> Prop} {K7 : Int32 -> Int32 -> Int32 -> (Nat -> Int32) -> (Nat -> Int32) -> (Nat -> Int32) -> Prop} {n7 : Int} (oY : Int32) (rD : Nat -> Int32) (dN bD : Int32) (uU gF pL mX oE : Nat -> Int32) (dU pQ : Int32) (pN : Nat -> Int32) (aAE : 0 <= Int32.toInt oY /\ Int32.toInt oY <= 65535) (zR : ∀ k : Nat, 0 <= Int32.toInt (rD k) /\ Int32.toInt (rD k) <= 65535) (xL : 0 <= Int32.toInt dN /\ Int32.toInt dN <= 16) (wX : 0 <= Int32.toInt bD /\ Int32.toInt bD <= 8) (zU : 0 <= Int32.toInt pQ /\ Int32.toInt pQ <= 40) (hpost : ∀ (pl_load' : Nat -> Int32) (aCG : Nat -> Int32) (aB4 : Nat -> Int32), post pl_load' aCG aB4) (hK7 : ∀ (x1 : Int32) (x2 : Int32) (x3 : Int32) (vX : Nat -> Int32) (qY : Nat -> Int32) (qU : Nat -> Int32), (0 <= Int32.toInt x1 /\ Int32.toInt x1 <= 255) -> (0 <= Int32.toInt x2 /\ Int32.toInt x2 <= 65535) -> (0 <= Int32.toInt x3 /\ Int32.toInt x3 <= 8) -> (8 - Int32.toInt x3 < n7) -> K7 x1 x2 x3 vX qY qU) : ∀ (n : Nat) (x1 x2 x3 x4 x5 : Int32) (vX qY qU : Nat -> Int32), (0 <= Int32.toInt x1 /\ Int32.toInt x1 <= 255) -> (0 <= Int32.toInt x2 /\ Int32.toInt x2 <= 65535) -> (0 <= Int32.toInt x3 /\ Int32.toInt x3 <= 7) -> (0 <= Int32.toInt x4 /\ Int32.toInt x4 <= 65535) -> (0 <= Int32.toInt x5 /\ Int32.toInt x5 <= 16) -> (8 - Int32.toInt x3 <= n7) -> (16 - Int32.toInt x5 < (n : Int)) -> wb_X5_loadFirsts_50 post K7 oY rD dN bD uU gF pL mX oE dU pQ pN n x1 x2 x3 x4 x5 vX qY qU := by
  intro n
  induction n with
  | zero =>
    intro x1 x2 x3 x4 x5 vX qY qU aBK aBN aCH aDO aF7 hn7 hm
    exfalso; omega
  | succ n ih =>
    intro x1 x2 x3 x4 x5 vX qY qU aBK aBN aCH aDO aF7 hn7 hm
    exact ts_X5_loadFirsts_50 oY rD dN bD uU gF pL mX oE dU pQ pN aAE zR xL wX zU hpost hK7 ih x1 x2 x3 x4 x5 vX qY qU aBK aBN aCH aDO aF7 hn7 (by omega)
set_option maxHeartbeats 8000000 in
set_option maxRecDepth 200000 in
theorem ts_X5_loadFirsts_45 {post : (Nat -> Int32) -> (Nat -> Int32) -> (Nat -> Int32) -> Prop} {K7 : Int32 -> Int32 -> Int32 -> (Nat -> Int32) -> (Nat -> Int32) -> (Nat -> Int32) -> Prop} {n7 : Int} (oY : Int32) (rD : Nat -> Int32) (dN bD : Int32) (uU gF pL mX oE : Nat -> Int32) (dU pQ : Int32) (pN : Nat -> Int32) (aAE : 0 <= Int32.toInt oY /\ Int32.toInt oY <= 65535) (zR : ∀ k : Nat, 0 <= Int32.toInt (rD k) /\ Int32.toInt (rD k) <= 65535) (xL : 0 <= Int32.toInt dN /\ Int32.toInt dN <= 16) (wX : 0 <= Int32.toInt bD /\ Int32.toInt bD <= 8) (zU : 0 <= Int32.toInt pQ /\ Int32.toInt pQ <= 40) (hpost : ∀ (pl_load' : Nat -> Int32) (aCG : Nat -> Int32) (aB4 : Nat -> Int32), post pl_load' aCG aB4) (hK7 : ∀ (x1 : Int32) (x2 : Int32) (x3 : Int32) (vX : Nat -> Int32) (qY : Nat -> Int32) (qU : Nat -> Int32), (0 <= Int32.toInt x1 /\ Int32.toInt x1 <= 255) -> (0 <= Int32.toInt x2 /\ Int32.toInt x2 <= 65535) -> (0 <= Int32.toInt x3 /\ Int32.toInt x3 <= 8) -> (8 - Int32.toInt x3 < n7) -> K7 x1 x2 x3 vX qY qU) (x1 x2 x3 k0 : Int32) (vX qY qU : Nat -> Int32) (aBK : 0 <= Int32.toInt x1 /\ Int32.toInt x1 <= 255) (aBN : 0 <= Int32.toInt x2 /\ Int32.toInt x2 <= 65535) (aCH : 0 <= Int32.toInt x3 /\ Int32.toInt x3 <= 7) (h_k0 : 0 <= Int32.toInt k0 /\ Int32.toInt k0 <= 65535) (hn7 : 8 - Int32.toInt x3 <= n7) : ws_X5_loadFirsts_45 post K7 oY rD dN bD uU gF pL mX oE dU pQ pN x1 x2 x3 k0 vX qY qU := by
  have l0 := aE0
  exact ⟨18, tb_X5_loadFirsts_50 oY rD dN bD uU gF pL mX oE dU pQ pN aAE zR xL wX zU hpost hK7 _ x1 x2 x3 k0 0 vX qY qU aBK aBN aCH h_k0 (by omega) hn7 (by omega)⟩
set_option maxHeartbeats 8000000 in
set_option maxRecDepth 200000 in
theorem ts_X5_loadFirsts_7 {post : (Nat -> Int32) -> (Nat -> Int32) -> (Nat -> Int32) -> Prop} {next : Int32 -> Int32 -> Int32 -> (Nat -> Int32) -> (Nat -> Int32) -> (Nat -> Int32) -> Prop} {n7 : Int} (oY : Int32) (rD : Nat -> Int32) (dN bD : Int32) (uU gF pL mX oE : Nat -> Int32) (dU pQ : Int32) (pN : Nat -> Int32) (aAE : 0 <= Int32.toInt oY /\ Int32.toInt oY <= 65535) (zR : ∀ k : Nat, 0 <= Int32.toInt (rD k) /\ Int32.toInt (rD k) <= 65535) (xL : 0 <= Int32.toInt dN /\ Int32.toInt dN <= 16) (wX : 0 <= Int32.toInt bD /\ Int32.toInt bD <= 8) (zU : 0 <= Int32.toInt pQ /\ Int32.toInt pQ <= 40) (hpost : ∀ (pl_load' : Nat -> Int32) (aCG : Nat -> Int32) (aB4 : Nat -> Int32), post pl_load' aCG aB4) (hKn : ∀ (x1 : Int32) (x2 : Int32) (x3 : Int32) (vX : Nat -> Int32) (qY : Nat -> Int32) (qU : Nat -> Int32), (0 <= Int32.toInt x1 /\ Int32.toInt x1 <= 255) -> (0 <= Int32.toInt x2 /\ Int32.toInt x2 <= 65535) -> (0 <= Int32.toInt x3 /\ Int32.toInt x3 <= 8) -> (8 - Int32.toInt x3 < n7) -> next x1 x2 x3 vX qY qU) (x1 x2 x3 : Int32) (vX qY qU : Nat -> Int32) (aBK : 0 <= Int32.toInt x1 /\ Int32.toInt x1 <= 255) (aBN : 0 <= Int32.toInt x2 /\ Int32.toInt x2 <= 65535) (aCH : 0 <= Int32.toInt x3 /\ Int32.toInt x3 <= 8) (hn7 : 8 - Int32.toInt x3 <= n7) : ws_X5_loadFirsts_7 post next oY rD dN bD uU gF pL mX oE dU pQ pN x1 x2 x3 vX qY qU := by
  have l0 := aE0
  have l1 := aEc
  refine And.intro (fun c21 => ?_) (fun c21 => ?_)
  · skip
    have c21 := (aAO _ _).mp c21
    exact hpost _ _ _ 
  · skip
    have c21 := mt (aAO _ _).mpr c21
    refine And.intro (aBZ (by omega)) ?_
    intro v22 ev22
    have f23 := aRJ x1 x3 (by omega)
    have hv22 := congrArg Int32.toInt ev22
    have f25 := aAQ v22 1 (by omega)
    have f26 := aBx v22 1 (by omega)
    refine And.intro (fun c24 => ?_) (fun c24 => ?_)
    · skip
      have c24 := (zJ _ _).mp c24
      exact ts_X5_loadFirsts_45 oY rD dN bD uU gF pL mX oE dU pQ pN aAE zR xL wX zU hpost hKn x1 x2 x3 0 (upd vX x3.toNatClampNeg 0) qY qU aBK aBN (by omega) (by omega) hn7
    · skip
      have c24 := mt (zJ _ _).mpr c24
      refine And.intro (aBZ (by omega)) ?_
      intro v27 ev27
      have f29 := zR x3.toNatClampNeg
      have f28 := aAQ x2 (rD x3.toNatClampNeg) (by omega)
      have f30 := aBx x2 (rD x3.toNatClampNeg) (by omega)
      have hv27 := congrArg Int32.toInt ev27
      exact ts_X5_loadFirsts_45 oY rD dN bD uU gF pL mX oE dU pQ pN aAE zR xL wX zU hpost hKn x1 x2 x3 v27 (upd vX x3.toNatClampNeg 0) qY qU aBK aBN (by omega) (by omega) hn7
set_option maxHeartbeats 8000000 in
set_option maxRecDepth 200000 in
theorem tb_X5_loadFirsts_7 {post : (Nat -> Int32) -> (Nat -> Int32) -> (Nat -> Int32) -> Prop} (oY : Int32) (rD : Nat -> Int32) (dN bD : Int32) (uU gF pL mX oE : Nat -> Int32) (dU pQ : Int32) (pN : Nat -> Int32) (aAE : 0 <= Int32.toInt oY /\ Int32.toInt oY <= 65535) (zR : ∀ k : Nat, 0 <= Int32.toInt (rD k) /\ Int32.toInt (rD k) <= 65535) (xL : 0 <= Int32.toInt dN /\ Int32.toInt dN <= 16) (wX : 0 <= Int32.toInt bD /\ Int32.toInt bD <= 8) (zU : 0 <= Int32.toInt pQ /\ Int32.toInt pQ <= 40) (hpost : ∀ (pl_load' : Nat -> Int32) (aCG : Nat -> Int32) (aB4 : Nat -> Int32), post pl_load' aCG aB4) : ∀ (n : Nat) (x1 x2 x3 : Int32) (vX qY qU : Nat -> Int32), (0 <= Int32.toInt x1 /\ Int32.toInt x1 <= 255) -> (0 <= Int32.toInt x2 /\ Int32.toInt x2 <= 65535) -> (0 <= Int32.toInt x3 /\ Int32.toInt x3 <= 8) -> (8 - Int32.toInt x3 < (n : Int)) -> wb_X5_loadFirsts_7 post oY rD dN bD uU gF pL mX oE dU pQ pN n x1 x2 x3 vX qY qU := by
  intro n
  induction n with
  | zero =>
    intro x1 x2 x3 vX qY qU aBK aBN aCH hm
    exfalso; omega
  | succ n ih =>
    intro x1 x2 x3 vX qY qU aBK aBN aCH hm
    exact ts_X5_loadFirsts_7 oY rD dN bD uU gF pL mX oE dU pQ pN aAE zR xL wX zU hpost ih x1 x2 x3 vX qY qU aBK aBN aCH (by omega)
set_option maxHeartbeats 8000000 in
set_option maxRecDepth 200000 in
theorem t_X5_loadFirsts {post : (Nat -> Int32) -> (Nat -> Int32) -> (Nat -> Int32) -> Prop} {p0 oY : Int32} {rD vX : Nat -> Int32} {dN bD : Int32} {uU gF pL mX oE : Nat -> Int32} {dU pQ : Int32} {qY qU pN : Nat -> Int32} (h_p0 : 0 <= Int32.toInt p0 /\ Int32.toInt p0 <= 255) (aAE : 0 <= Int32.toInt oY /\ Int32.toInt oY <= 65535) (zR : ∀ k : Nat, 0 <= Int32.toInt (rD k) /\ Int32.toInt (rD k) <= 65535) (xL : 0 <= Int32.toInt dN /\ Int32.toInt dN <= 16) (wX : 0 <= Int32.toInt bD /\ Int32.toInt bD <= 8) (zU : 0 <= Int32.toInt pQ /\ Int32.toInt pQ <= 40) (hpost : ∀ (pl_load' : Nat -> Int32) (aCG : Nat -> Int32) (aB4 : Nat -> Int32), post pl_load' aCG aB4) : wp_X5_loadFirsts post p0 oY rD vX dN bD uU gF pL mX oE dU pQ qY qU pN := by
  have l0 := aE0
  exact ⟨10, tb_X5_loadFirsts_7 oY rD dN bD uU gF pL mX oE dU pQ pN aAE zR xL wX zU hpost _ p0 oY 0 vX qY qU h_p0 aAE (by omega) (by omega)⟩
set_option maxHeartbeats 8000000 in
set_option maxRecDepth 200000 in
theorem ts_X5_loadOf_32 {post : Int32 -> Prop} {K4 : Int32 -> Int32 -> Int32 -> Prop} {n4 : Int} (vX : Nat -> Int32) (bD : Int32) (wX : 0 <= Int32.toInt bD /\ Int32.toInt bD <= 8) (hpost : ∀ (r : Int32) , post r) (hK4 : ∀ (x1 : Int32) (x2 : Int32) (x3 : Int32), (0 <= Int32.toInt x1 /\ Int32.toInt x1 <= 255) -> (0 <= Int32.toInt x3 /\ Int32.toInt x3 <= 8) -> (8 - Int32.toInt x3 < n4) -> K4 x1 x2 x3) (x1 x2 x3 : Int32) (aBK : 0 <= Int32.toInt x1 /\ Int32.toInt x1 <= 255) (aCH : 0 <= Int32.toInt x3 /\ Int32.toInt x3 <= 7) (hn4 : 8 - Int32.toInt x3 <= n4) : ws_X5_loadOf_32 post K4 vX bD x1 x2 x3 := by
  have l0 := aEc
  intro v1 ev1
  have f2 : Int32.toInt (x3 + 1) = Int32.toInt x3 + Int32.toInt (1 : Int32) := aAD _ _ (by omega)
  rw [<- ev1] at f2
  have f3 := aAT x2
  exact hK4 x1 x2 v1 aBK (by omega) (by omega)
set_option maxHeartbeats 8000000 in
set_option maxRecDepth 200000 in
theorem ts_X5_loadOf_4 {post : Int32 -> Prop} {next : Int32 -> Int32 -> Int32 -> Prop} {n4 : Int} (vX : Nat -> Int32) (bD : Int32) (wX : 0 <= Int32.toInt bD /\ Int32.toInt bD <= 8) (hpost : ∀ (r : Int32) , post r) (hKn : ∀ (x1 : Int32) (x2 : Int32) (x3 : Int32), (0 <= Int32.toInt x1 /\ Int32.toInt x1 <= 255) -> (0 <= Int32.toInt x3 /\ Int32.toInt x3 <= 8) -> (8 - Int32.toInt x3 < n4) -> next x1 x2 x3) (x1 x2 x3 : Int32) (aBK : 0 <= Int32.toInt x1 /\ Int32.toInt x1 <= 255) (aCH : 0 <= Int32.toInt x3 /\ Int32.toInt x3 <= 8) (hn4 : 8 - Int32.toInt x3 <= n4) : ws_X5_loadOf_4 post next vX bD x1 x2 x3 := by
  have l0 := aE0
  have l1 := aEc
  refine And.intro (fun c4 => ?_) (fun c4 => ?_)
  · skip
    have c4 := (aAO _ _).mp c4
    exact hpost _ 
  · skip
    have c4 := mt (aAO _ _).mpr c4
    intro v5 ev5
    have f6 := aRJ x1 x3 (by omega)
    have hv5 := congrArg Int32.toInt ev5
    have f8 := aAQ v5 1 (by omega)
    have f9 := aBx v5 1 (by omega)
    refine And.intro (fun c7 => ?_) (fun c7 => ?_)
    · skip
      have c7 := (zJ _ _).mp c7
      have f10 := aAT x2
      exact ts_X5_loadOf_32 vX bD wX hpost hKn x1 x2 x3 aBK (by omega) hn4
    · skip
      have c7 := mt (zJ _ _).mpr c7
      refine And.intro (aBZ (by omega)) ?_
      intro v11 ev11
      have hv11 := congrArg Int32.toInt ev11
      have f13 := aAT v11
      exact ts_X5_loadOf_32 vX bD wX hpost hKn x1 v11 x3 aBK (by omega) hn4
set_option maxHeartbeats 8000000 in
set_option maxRecDepth 200000 in
theorem tb_X5_loadOf_4 {post : Int32 -> Prop} (vX : Nat -> Int32) (bD : Int32) (wX : 0 <= Int32.toInt bD /\ Int32.toInt bD <= 8) (hpost : ∀ (r : Int32) , post r) : ∀ (n : Nat) (x1 x2 x3 : Int32), (0 <= Int32.toInt x1 /\ Int32.toInt x1 <= 255) -> (0 <= Int32.toInt x3 /\ Int32.toInt x3 <= 8) -> (8 - Int32.toInt x3 < (n : Int)) -> wb_X5_loadOf_4 post vX bD n x1 x2 x3 := by
  intro n
  induction n with
  | zero =>
    intro x1 x2 x3 aBK aCH hm
    exfalso; omega
  | succ n ih =>
    intro x1 x2 x3 aBK aCH hm
    exact ts_X5_loadOf_4 vX bD wX hpost ih x1 x2 x3 aBK aCH (by omega)
set_option maxHeartbeats 8000000 in
set_option maxRecDepth 200000 in
theorem t_X5_loadOf {post : Int32 -> Prop} {p0 : Int32} {vX : Nat -> Int32} {bD : Int32} (h_p0 : 0 <= Int32.toInt p0 /\ Int32.toInt p0 <= 255) (wX : 0 <= Int32.toInt bD /\ Int32.toInt bD <= 8) (hpost : ∀ (r : Int32) , post r) : wp_X5_loadOf post p0 vX bD := by
  have l0 := aE0
  exact ⟨10, tb_X5_loadOf_4 vX bD wX hpost _ p0 0 0 h_p0 (by omega) (by omega)⟩
set_option maxHeartbeats 8000000 in
set_option maxRecDepth 200000 in
theorem ts_X9_share_96 {post : Int32 -> Int32 -> (Nat -> Int32) -> (Nat -> Int32) -> (Nat -> Int32) -> (Nat -> Int32) -> Int32 -> (Nat -> Int32) -> Prop} {K45 : Int32 -> Int32 -> Int32 -> Int32 -> Int32 -> Int32 -> (Nat -> Int32) -> (Nat -> Int32) -> (Nat -> Int32) -> (Nat -> Int32) -> Int32 -> (Nat -> Int32) -> Prop} {n45 : Int} (dN bD : Int32) (uU gF pL qF mX oE dY : Nat -> Int32) (jE eW eY dU gJ jG pQ : Int32) (pN : Nat -> Int32) (xL : 0 <= Int32.toInt dN /\ Int32.toInt dN <= 16) (wX : 0 <= Int32.toInt bD /\ Int32.toInt bD <= 8) (zK : 0 <= Int32.toInt jG /\ Int32.toInt jG <= 9) (zU : 0 <= Int32.toInt pQ /\ Int32.toInt pQ <= 40) (hpost : ∀ (r : Int32) (aAY : Int32) (aBC : Nat -> Int32) (pl_load' : Nat -> Int32) (aCG : Nat -> Int32) (aB4 : Nat -> Int32) (zV : Int32) (aAV : Nat -> Int32), (0 <= Int32.toInt aAY /\ Int32.toInt aAY <= 65535) -> (∀ k : Nat, 0 <= Int32.toInt (aBC k) /\ Int32.toInt (aBC k) <= 65535) -> (0 <= Int32.toInt zV /\ Int32.toInt zV <= 16) -> post r aAY aBC pl_load' aCG aB4 zV aAV) (hK45 : ∀ (x1 : Int32) (x2 : Int32) (x3 : Int32) (x4 : Int32) (x5 : Int32) (oY : Int32) (rD : Nat -> Int32) (vX : Nat -> Int32) (qY : Nat -> Int32) (qU : Nat -> Int32) (qB : Int32) (jK : Nat -> Int32), (0 <= Int32.toInt x1 /\ Int32.toInt x1 <= 255) -> (0 <= Int32.toInt x3 /\ Int32.toInt x3 <= 255) -> (1 <= Int32.toInt x5 /\ Int32.toInt x5 <= 256) -> (0 <= Int32.toInt oY /\ Int32.toInt oY <= 65535) -> (∀ k : Nat, 0 <= Int32.toInt (rD k) /\ Int32.toInt (rD k) <= 65535) -> (0 <= Int32.toInt qB /\ Int32.toInt qB <= 16) -> (256 - Int32.toInt x5 < n45) -> K45 x1 x2 x3 x4 x5 oY rD vX qY qU qB jK) (x1 x2 x3 x4 x5 oY : Int32) (rD vX qY qU : Nat -> Int32) (qB : Int32) (jK : Nat -> Int32) (aBK : 1 <= Int32.toInt x1 /\ Int32.toInt x1 <= 255) (aCH : 0 <= Int32.toInt x3 /\ Int32.toInt x3 <= 255) (aF7 : 1 <= Int32.toInt x5 /\ Int32.toInt x5 <= 255) (aAE : 0 <= Int32.toInt oY /\ Int32.toInt oY <= 65535) (zR : ∀ k : Nat, 0 <= Int32.toInt (rD k) /\ Int32.toInt (rD k) <= 65535) (aAK : 0 <= Int32.toInt qB /\ Int32.toInt qB <= 16) (hn45 : 256 - Int32.toInt x5 <= n45) : ws_X9_share_96 post K45 dN bD uU gF pL qF mX oE dY jE eW eY dU gJ jG pQ pN x1 x2 x3 x4 x5 oY rD vX qY qU qB jK := by
  have l0 := aEc
  intro v1 ev1
  have f2 : Int32.toInt (x5 + 1) = Int32.toInt x5 + Int32.toInt (1 : Int32) := aAD _ _ (by omega)
  rw [<- ev1] at f2
  have f3 := aAT x2
  have f4 := aAT x4
  exact hK45 x1 x2 x3 x4 v1 oY rD vX qY qU qB jK (by omega) aCH (by omega) aAE zR aAK (by omega)
set_option maxHeartbeats 8000000 in
set_option maxRecDepth 200000 in
theorem ts_X9_share_45 {post : Int32 -> Int32 -> (Nat -> Int32) -> (Nat -> Int32) -> (Nat -> Int32) -> (Nat -> Int32) -> Int32 -> (Nat -> Int32) -> Prop} {next : Int32 -> Int32 -> Int32 -> Int32 -> Int32 -> Int32 -> (Nat -> Int32) -> (Nat -> Int32) -> (Nat -> Int32) -> (Nat -> Int32) -> Int32 -> (Nat -> Int32) -> Prop} {n45 : Int} (dN bD : Int32) (uU gF pL qF mX oE dY : Nat -> Int32) (jE eW eY dU gJ jG pQ : Int32) (pN : Nat -> Int32) (xL : 0 <= Int32.toInt dN /\ Int32.toInt dN <= 16) (wX : 0 <= Int32.toInt bD /\ Int32.toInt bD <= 8) (zK : 0 <= Int32.toInt jG /\ Int32.toInt jG <= 9) (zU : 0 <= Int32.toInt pQ /\ Int32.toInt pQ <= 40) (hpost : ∀ (r : Int32) (aAY : Int32) (aBC : Nat -> Int32) (pl_load' : Nat -> Int32) (aCG : Nat -> Int32) (aB4 : Nat -> Int32) (zV : Int32) (aAV : Nat -> Int32), (0 <= Int32.toInt aAY /\ Int32.toInt aAY <= 65535) -> (∀ k : Nat, 0 <= Int32.toInt (aBC k) /\ Int32.toInt (aBC k) <= 65535) -> (0 <= Int32.toInt zV /\ Int32.toInt zV <= 16) -> post r aAY aBC pl_load' aCG aB4 zV aAV) (hKn : ∀ (x1 : Int32) (x2 : Int32) (x3 : Int32) (x4 : Int32) (x5 : Int32) (oY : Int32) (rD : Nat -> Int32) (vX : Nat -> Int32) (qY : Nat -> Int32) (qU : Nat -> Int32) (qB : Int32) (jK : Nat -> Int32), (0 <= Int32.toInt x1 /\ Int32.toInt x1 <= 255) -> (0 <= Int32.toInt x3 /\ Int32.toInt x3 <= 255) -> (1 <= Int32.toInt x5 /\ Int32.toInt x5 <= 256) -> (0 <= Int32.toInt oY /\ Int32.toInt oY <= 65535) -> (∀ k : Nat, 0 <= Int32.toInt (rD k) /\ Int32.toInt (rD k) <= 65535) -> (0 <= Int32.toInt qB /\ Int32.toInt qB <= 16) -> (256 - Int32.toInt x5 < n45) -> next x1 x2 x3 x4 x5 oY rD vX qY qU qB jK) (x1 x2 x3 x4 x5 oY : Int32) (rD vX qY qU : Nat -> Int32) (qB : Int32) (jK : Nat -> Int32) (aBK : 0 <= Int32.toInt x1 /\ Int32.toInt x1 <= 255) (aCH : 0 <= Int32.toInt x3 /\ Int32.toInt x3 <= 255) (aF7 : 1 <= Int32.toInt x5 /\ Int32.toInt x5 <= 256) (aAE : 0 <= Int32.toInt oY /\ Int32.toInt oY <= 65535) (zR : ∀ k : Nat, 0 <= Int32.toInt (rD k) /\ Int32.toInt (rD k) <= 65535) (aAK : 0 <= Int32.toInt qB /\ Int32.toInt qB <= 16) (hn45 : 256 - Int32.toInt x5 <= n45) : ws_X9_share_45 post next dN bD uU gF pL qF mX oE dY jE eW eY dU gJ jG pQ pN x1 x2 x3 x4 x5 oY rD vX qY qU qB jK := by
  have l0 := aE0
  have l1 := aEc
  have l2 := li_16
  refine And.intro (fun c5 => ?_) (fun c5 => ?_)
  · skip
    have c5 := (aAd _ _).mp c5
    refine t_X5_loadOf aCH wX (fun r6 => ?_)
    intro v7 ev7
    have hv7 := congrArg Int32.toInt ev7
    refine And.intro (fun h9 => absurd h9 (by decide)) (fun _ => ?_)
    refine And.intro (aBZ (by omega)) ?_
    intro v9 ev9
    have f10 : Int32.toInt (0 + 1) = Int32.toInt (0 : Int32) + Int32.toInt (1 : Int32) := aAD _ _ (by omega)
    rw [<- ev9] at f10
    refine And.intro (fun c11 => ?_) (fun c11 => ?_)
    · skip
      have c11 := (aAO _ _).mp c11
      exfalso; omega
    · skip
      have c11 := mt (aAO _ _).mpr c11
      refine And.intro (aBZ (by omega)) ?_
      intro v12 ev12
      have f13 : Int32.toInt (v9 + 1) = Int32.toInt v9 + Int32.toInt (1 : Int32) := aAD _ _ (by omega)
      rw [<- ev12] at f13
      exact hpost _ _ _ _ _ _ _ _ aAE zR (by omega)
  · skip
    have c5 := mt (aAd _ _).mpr c5
    have f16 := aBx x5 (x1 ^^^ (-1)) (by omega)
    refine And.intro (fun c14 => ?_) (fun c14 => ?_)
    · skip
      have c14 := mt (zJ _ _).mpr c14
      have f17 := aAT x2
      have f18 := aAT x4
      exact ts_X9_share_96 dN bD uU gF pL qF mX oE dY jE eW eY dU gJ jG pQ pN xL wX zK zU hpost hKn x1 x2 x3 x4 x5 oY rD vX qY qU qB jK (by omega) aCH (by omega) aAE zR aAK hn45
    · skip
      have c14Z := c14
      have c14 := (zJ _ _).mp c14
      have s19 := ti_subset x5 x1 (c14Z) (by omega)
      refine t_X5_loadOf (by omega) wX (fun r20 => ?_)
      intro v21 ev21
      have hv21 := congrArg Int32.toInt ev21
      intro v23 ev23
      have f25 := aAT r20
      have f26 := aAT v21
      have f24 := ti_max r20 v21
      have hv23 := congrArg Int32.toInt ev23
      have f28 := aAT v23
      have f29 := aAT x4
      refine And.intro (fun c27 => ?_) (fun c27 => ?_)
      · skip
        have c27 := (aAO _ _).mp c27
        have f30 := aAT x2
        exact ts_X9_share_96 dN bD uU gF pL qF mX oE dY jE eW eY dU gJ jG pQ pN xL wX zK zU hpost hKn x1 x2 x3 x4 x5 oY rD vX qY qU qB jK (by omega) aCH (by omega) aAE zR aAK hn45
      · skip
        have c27 := mt (aAO _ _).mpr c27
        have f31 := aAT x2
        exact ts_X9_share_96 dN bD uU gF pL qF mX oE dY jE eW eY dU gJ jG pQ pN xL wX zK zU hpost hKn x1 x2 x5 v23 x5 oY rD vX qY qU qB jK (by omega) (by omega) (by omega) aAE zR aAK hn45
set_option maxHeartbeats 8000000 in
set_option maxRecDepth 200000 in
theorem tb_X9_share_45 {post : Int32 -> Int32 -> (Nat -> Int32) -> (Nat -> Int32) -> (Nat -> Int32) -> (Nat -> Int32) -> Int32 -> (Nat -> Int32) -> Prop} (dN bD : Int32) (uU gF pL qF mX oE dY : Nat -> Int32) (jE eW eY dU gJ jG pQ : Int32) (pN : Nat -> Int32) (xL : 0 <= Int32.toInt dN /\ Int32.toInt dN <= 16) (wX : 0 <= Int32.toInt bD /\ Int32.toInt bD <= 8) (zK : 0 <= Int32.toInt jG /\ Int32.toInt jG <= 9) (zU : 0 <= Int32.toInt pQ /\ Int32.toInt pQ <= 40) (hpost : ∀ (r : Int32) (aAY : Int32) (aBC : Nat -> Int32) (pl_load' : Nat -> Int32) (aCG : Nat -> Int32) (aB4 : Nat -> Int32) (zV : Int32) (aAV : Nat -> Int32), (0 <= Int32.toInt aAY /\ Int32.toInt aAY <= 65535) -> (∀ k : Nat, 0 <= Int32.toInt (aBC k) /\ Int32.toInt (aBC k) <= 65535) -> (0 <= Int32.toInt zV /\ Int32.toInt zV <= 16) -> post r aAY aBC pl_load' aCG aB4 zV aAV) : ∀ (n : Nat) (x1 x2 x3 x4 x5 oY : Int32) (rD vX qY qU : Nat -> Int32) (qB : Int32) (jK : Nat -> Int32), (0 <= Int32.toInt x1 /\ Int32.toInt x1 <= 255) -> (0 <= Int32.toInt x3 /\ Int32.toInt x3 <= 255) -> (1 <= Int32.toInt x5 /\ Int32.toInt x5 <= 256) -> (0 <= Int32.toInt oY /\ Int32.toInt oY <= 65535) -> (∀ k : Nat, 0 <= Int32.toInt (rD k) /\ Int32.toInt (rD k) <= 65535) -> (0 <= Int32.toInt qB /\ Int32.toInt qB <= 16) -> (256 - Int32.toInt x5 < (n : Int)) -> wb_X9_share_45 post dN bD uU gF pL qF mX oE dY jE eW eY dU gJ jG pQ pN n x1 x2 x3 x4 x5 oY rD vX qY qU qB jK := by
  intro n
  induction n with
  | zero =>
    intro x1 x2 x3 x4 x5 oY rD vX qY qU qB jK aBK aCH aF7 aAE zR aAK hm
    exfalso; omega
  | succ n ih =>
    intro x1 x2 x3 x4 x5 oY rD vX qY qU qB jK aBK aCH aF7 aAE zR aAK hm
    exact ts_X9_share_45 dN bD uU gF pL qF mX oE dY jE eW eY dU gJ jG pQ pN xL wX zK zU hpost ih x1 x2 x3 x4 x5 oY rD vX qY qU qB jK aBK aCH aF7 aAE zR aAK (by omega)
set_option maxHeartbeats 8000000 in
set_option maxRecDepth 200000 in
theorem t_X9_share {post : Int32 -> Int32 -> (Nat -> Int32) -> (Nat -> Int32) -> (Nat -> Int32) -> (Nat -> Int32) -> Int32 -> (Nat -> Int32) -> Prop} {p0 oY : Int32} {rD vX : Nat -> Int32} {dN bD : Int32} {uU gF pL qF mX oE dY : Nat -> Int32} {jE eW eY dU gJ jG pQ : Int32} {qY qU pN : Nat -> Int32} {qB : Int32} {jK : Nat -> Int32} (aAE : 0 <= Int32.toInt oY /\ Int32.toInt oY <= 65535) (zR : ∀ k : Nat, 0 <= Int32.toInt (rD k) /\ Int32.toInt (rD k) <= 65535) (xL : 0 <= Int32.toInt dN /\ Int32.toInt dN <= 16) (wX : 0 <= Int32.toInt bD /\ Int32.toInt bD <= 8) (zK : 0 <= Int32.toInt jG /\ Int32.toInt jG <= 9) (zU : 0 <= Int32.toInt pQ /\ Int32.toInt pQ <= 40) (aAK : 0 <= Int32.toInt qB /\ Int32.toInt qB <= 16) (hpost : ∀ (r : Int32) (aAY : Int32) (aBC : Nat -> Int32) (pl_load' : Nat -> Int32) (aCG : Nat -> Int32) (aB4 : Nat -> Int32) (zV : Int32) (aAV : Nat -> Int32), (0 <= Int32.toInt aAY /\ Int32.toInt aAY <= 65535) -> (∀ k : Nat, 0 <= Int32.toInt (aBC k) /\ Int32.toInt (aBC k) <= 65535) -> (0 <= Int32.toInt zV /\ Int32.toInt zV <= 16) -> post r aAY aBC pl_load' aCG aB4 zV aAV) : wp_X9_share post p0 oY rD vX dN bD uU gF pL qF mX oE dY jE eW eY dU gJ jG pQ qY qU pN qB jK := by
  have l0 := aE0
  have l1 := aEc
  intro v32 ev32
  have f33 := aDv 8 256 bD (by decide) (by omega)
  have hv32 := congrArg Int32.toInt ev32
  refine And.intro (fun c34 => ?_) (fun c34 => ?_)
  · skip
    have c34 := mt (zJ _ _).mpr c34
    refine And.intro (fun h9 => absurd h9 (by decide)) (fun _ => ?_)
    exact hpost _ _ _ _ _ _ _ _ aAE zR aAK
  · skip
    have c34Z := c34
    have c34 := (zJ _ _).mp c34
    have f36 : Int32.toInt (v32 - 1) = Int32.toInt v32 - Int32.toInt (1 : Int32) := aCA _ _ (by omega)
    have s37 := ti_subset p0 (v32 - 1) (c34Z) (by omega)
    refine And.intro (fun _ => ?_) (fun h9 => absurd h9 (by decide))
    refine aVe zK aAE zR xL wX (fun pl_wanted_38 pl_near_39 h_pl_wanted_38 h_pl_near_39 => ?_)
    refine t_X5_loadFirsts (by omega) h_pl_wanted_38 h_pl_near_39 xL wX zU (fun pl_load_40 ru_given_41 ru_stack_42 => ?_)
    refine t_X5_loadOf (by omega) wX (fun r43 => ?_)
    have f44 := aAT r43
    exact ⟨257, tb_X9_share_45 dN bD uU gF pL qF mX oE dY jE eW eY dU gJ jG pQ pN xL wX zK zU hpost _ p0 r43 0 r43 1 pl_wanted_38 pl_near_39 pl_load_40 ru_given_41 ru_stack_42 qB jK (by omega) (by omega) (by omega) h_pl_wanted_38 h_pl_near_39 aAK (by omega)⟩
set_option maxHeartbeats 8000000 in
set_option maxRecDepth 200000 in
theorem ts_X9_ripens_48 {post : Int32 -> Int32 -> (Nat -> Int32) -> Int32 -> (Nat -> Int32) -> Prop} {K18 : Int32 -> Int32 -> Int32 -> Int32 -> (Nat -> Int32) -> Int32 -> (Nat -> Int32) -> Prop} {n18 : Int} (dN bD : Int32) (uU gF qF mX oE dY : Nat -> Int32) (jE eW eY gJ jG : Int32) (xL : 0 <= Int32.toInt dN /\ Int32.toInt dN <= 16) (wX : 0 <= Int32.toInt bD /\ Int32.toInt bD <= 8) (zK : 0 <= Int32.toInt jG /\ Int32.toInt jG <= 9) (hpost : ∀ (r : Int32) (aAY : Int32) (aBC : Nat -> Int32) (zV : Int32) (aAV : Nat -> Int32), (0 <= Int32.toInt r /\ Int32.toInt r <= 63) -> (0 <= Int32.toInt aAY /\ Int32.toInt aAY <= 65535) -> (∀ k : Nat, 0 <= Int32.toInt (aBC k) /\ Int32.toInt (aBC k) <= 65535) -> (2 <= Int32.toInt zV /\ Int32.toInt zV <= 2) -> post r aAY aBC zV aAV) (hK18 : ∀ (x1 : Int32) (x2 : Int32) (x3 : Int32) (oY : Int32) (rD : Nat -> Int32) (qB : Int32) (jK : Nat -> Int32), (0 <= Int32.toInt x1 /\ Int32.toInt x1 <= 9) -> (0 <= Int32.toInt x2 /\ Int32.toInt x2 <= 63) -> (0 <= Int32.toInt x3 /\ Int32.toInt x3 <= 10) -> (0 <= Int32.toInt oY /\ Int32.toInt oY <= 65535) -> (∀ k : Nat, 0 <= Int32.toInt (rD k) /\ Int32.toInt (rD k) <= 65535) -> (0 <= Int32.toInt qB /\ Int32.toInt qB <= 16) -> (10 - Int32.toInt x3 < n18) -> K18 x1 x2 x3 oY rD qB jK) (x1 x2 x3 oY : Int32) (rD : Nat -> Int32) (qB : Int32) (jK : Nat -> Int32) (aBK : 0 <= Int32.toInt x1 /\ Int32.toInt x1 <= 9) (aBN : 0 <= Int32.toInt x2 /\ Int32.toInt x2 <= 63) (aCH : 0 <= Int32.toInt x3 /\ Int32.toInt x3 <= 9) (aAE : 0 <= Int32.toInt oY /\ Int32.toInt oY <= 65535) (zR : ∀ k : Nat, 0 <= Int32.toInt (rD k) /\ Int32.toInt (rD k) <= 65535) (aAK : 0 <= Int32.toInt qB /\ Int32.toInt qB <= 16) (hn18 : 10 - Int32.toInt x3 <= n18) : ws_X9_ripens_48 post K18 dN bD uU gF qF mX oE dY jE eW eY gJ jG x1 x2 x3 oY rD qB jK := by
  have l0 := aEc
  intro v1 ev1
  have f2 : Int32.toInt (x3 + 1) = Int32.toInt x3 + Int32.toInt (1 : Int32) := aAD _ _ (by omega)
  rw [<- ev1] at f2
  exact hK18 x1 x2 v1 oY rD qB jK aBK aBN (by omega) aAE zR aAK (by omega)
set_option maxHeartbeats 8000000 in
set_option maxRecDepth 200000 in
theorem ts_X9_ripens_18 {post : Int32 -> Int32 -> (Nat -> Int32) -> Int32 -> (Nat -> Int32) -> Prop} {next : Int32 -> Int32 -> Int32 -> Int32 -> (Nat -> Int32) -> Int32 -> (Nat -> Int32) -> Prop} {n18 : Int} (dN bD : Int32) (uU gF qF mX oE dY : Nat -> Int32) (jE eW eY gJ jG : Int32) (xL : 0 <= Int32.toInt dN /\ Int32.toInt dN <= 16) (wX : 0 <= Int32.toInt bD /\ Int32.toInt bD <= 8) (zK : 0 <= Int32.toInt jG /\ Int32.toInt jG <= 9) (hpost : ∀ (r : Int32) (aAY : Int32) (aBC : Nat -> Int32) (zV : Int32) (aAV : Nat -> Int32), (0 <= Int32.toInt r /\ Int32.toInt r <= 63) -> (0 <= Int32.toInt aAY /\ Int32.toInt aAY <= 65535) -> (∀ k : Nat, 0 <= Int32.toInt (aBC k) /\ Int32.toInt (aBC k) <= 65535) -> (2 <= Int32.toInt zV /\ Int32.toInt zV <= 2) -> post r aAY aBC zV aAV) (hKn : ∀ (x1 : Int32) (x2 : Int32) (x3 : Int32) (oY : Int32) (rD : Nat -> Int32) (qB : Int32) (jK : Nat -> Int32), (0 <= Int32.toInt x1 /\ Int32.toInt x1 <= 9) -> (0 <= Int32.toInt x2 /\ Int32.toInt x2 <= 63) -> (0 <= Int32.toInt x3 /\ Int32.toInt x3 <= 10) -> (0 <= Int32.toInt oY /\ Int32.toInt oY <= 65535) -> (∀ k : Nat, 0 <= Int32.toInt (rD k) /\ Int32.toInt (rD k) <= 65535) -> (0 <= Int32.toInt qB /\ Int32.toInt qB <= 16) -> (10 - Int32.toInt x3 < n18) -> next x1 x2 x3 oY rD qB jK) (x1 x2 x3 oY : Int32) (rD : Nat -> Int32) (qB : Int32) (jK : Nat -> Int32) (aBK : 0 <= Int32.toInt x1 /\ Int32.toInt x1 <= 9) (aBN : 0 <= Int32.toInt x2 /\ Int32.toInt x2 <= 63) (aCH : 0 <= Int32.toInt x3 /\ Int32.toInt x3 <= 10) (aAE : 0 <= Int32.toInt oY /\ Int32.toInt oY <= 65535) (zR : ∀ k : Nat, 0 <= Int32.toInt (rD k) /\ Int32.toInt (rD k) <= 65535) (aAK : 0 <= Int32.toInt qB /\ Int32.toInt qB <= 16) (hn18 : 10 - Int32.toInt x3 <= n18) : ws_X9_ripens_18 post next dN bD uU gF qF mX oE dY jE eW eY gJ jG x1 x2 x3 oY rD qB jK := by
  have l0 := aE0
  have l1 := aEc
  have l2 := aKH
  have l3 := li_16
  have l4 := aJ8
  have l5 := li_63
  have l6 := aJ9
  have l7 := li_9
  refine And.intro (fun c3 => ?_) (fun c3 => ?_)
  · skip
    have c3 := (aAd _ _).mp c3
    refine aVe (by omega) aAE zR xL wX (fun pl_wanted_4 pl_near_5 h_pl_wanted_4 h_pl_near_5 => ?_)
    intro v6 ev6
    have f7 := aDv 8 256 bD (by decide) (by omega)
    have hv6 := congrArg Int32.toInt ev6
    have f9 : Int32.toInt (v6 - 1) = Int32.toInt v6 - Int32.toInt (1 : Int32) := aCA _ _ (by omega)
    refine t_X5_smallestCover h_pl_wanted_4 (by omega) h_pl_near_5 wX (fun r8 h_r8 => ?_)
    intro v10 ev10
    intro v11 ev11
    have f13 := aAQ v10 1431655765 (by omega)
    have f12 : Int32.toInt (r8 - (v10 &&& 1431655765)) = Int32.toInt r8 - Int32.toInt (v10 &&& 1431655765) := aCA _ _ (by omega)
    rw [<- ev11] at f12
    intro v14 ev14
    have f15 := aAQ v11 858993459 (by omega)
    have hv14 := congrArg Int32.toInt ev14
    intro v16 ev16
    intro v17 ev17
    have f19 := aAQ v16 858993459 (by omega)
    have f18 : Int32.toInt (v14 + (v16 &&& 858993459)) = Int32.toInt v14 + Int32.toInt (v16 &&& 858993459) := aAD _ _ (by omega)
    rw [<- ev17] at f18
    intro v20 ev20
    have hv20 := congrArg Int32.toInt ev20
    intro v22 ev22
    have f23 := aAQ v20 252645135 (by omega)
    have hv22 := congrArg Int32.toInt ev22
    intro v24 ev24
    have hv24 := congrArg Int32.toInt ev24
    intro v26 ev26
    have hv26 := congrArg Int32.toInt ev26
    refine And.intro (fun h9 => absurd h9 (by decide)) (fun _ => ?_)
    refine And.intro (aBZ (by omega)) ?_
    intro v28 ev28
    have f29 : Int32.toInt (0 + 1) = Int32.toInt (0 : Int32) + Int32.toInt (1 : Int32) := aAD _ _ (by omega)
    rw [<- ev28] at f29
    refine And.intro (fun c30 => ?_) (fun c30 => ?_)
    · skip
      have c30 := (aAO _ _).mp c30
      exfalso; omega
    · skip
      have c30 := mt (aAO _ _).mpr c30
      refine And.intro (aBZ (by omega)) ?_
      intro v31 ev31
      have f32 : Int32.toInt (v28 + 1) = Int32.toInt v28 + Int32.toInt (1 : Int32) := aAD _ _ (by omega)
      rw [<- ev31] at f32
      exact hpost _ _ _ _ _ aBN h_pl_wanted_4 h_pl_near_5 (by omega)
  · skip
    have c3 := mt (aAd _ _).mpr c3
    intro v33 ev33
    have f34 := aDv 16 65536 dN (by decide) (by omega)
    have hv33 := congrArg Int32.toInt ev33
    intro v35 ev35
    intro v36 ev36
    refine t_X3_ripeBy (by omega) xL (fun r37 h_r37 => ?_)
    intro v38 ev38
    have f39 := aAQ ((v33 - 1) &&& (v36 ^^^ (-1))) r37 (by omega)
    have f41 : Int32.toInt (v33 - 1) = Int32.toInt v33 - Int32.toInt (1 : Int32) := aCA _ _ (by omega)
    have f42 := aBx (v33 - 1) (v36 ^^^ (-1)) (by omega)
    have f43 := aBx ((v33 - 1) &&& (v36 ^^^ (-1))) r37 (by omega)
    have hv38 := congrArg Int32.toInt ev38
    refine And.intro (fun c44 => ?_) (fun c44 => ?_)
    · skip
      have c44 := (aAO _ _).mp c44
      intro v45 ev45
      intro v46 ev46
      have f48 := aAQ v45 1431655765 (by omega)
      have f47 : Int32.toInt (v38 - (v45 &&& 1431655765)) = Int32.toInt v38 - Int32.toInt (v45 &&& 1431655765) := aCA _ _ (by omega)
      rw [<- ev46] at f47
      intro v49 ev49
      have f50 := aAQ v46 858993459 (by omega)
      have hv49 := congrArg Int32.toInt ev49
      intro v51 ev51
      intro v52 ev52
      have f54 := aAQ v51 858993459 (by omega)
      have f53 : Int32.toInt (v49 + (v51 &&& 858993459)) = Int32.toInt v49 + Int32.toInt (v51 &&& 858993459) := aAD _ _ (by omega)
      rw [<- ev52] at f53
      intro v55 ev55
      have hv55 := congrArg Int32.toInt ev55
      intro v57 ev57
      have f58 := aAQ v55 252645135 (by omega)
      have hv57 := congrArg Int32.toInt ev57
      intro v59 ev59
      have hv59 := congrArg Int32.toInt ev59
      intro v61 ev61
      have hv61 := congrArg Int32.toInt ev61
      have f64 := aAQ v61 63 (by omega)
      refine And.intro (fun c63 => ?_) (fun c63 => ?_)
      · skip
        have c63 := (aAO _ _).mp c63
        exact ts_X9_ripens_48 dN bD uU gF qF mX oE dY jE eW eY gJ jG xL wX zK hpost hKn x1 x2 x3 oY rD qB jK aBK aBN (by omega) aAE zR aAK hn18
      · skip
        have c63 := mt (aAO _ _).mpr c63
        exact ts_X9_ripens_48 dN bD uU gF qF mX oE dY jE eW eY gJ jG xL wX zK hpost hKn x3 (v61 &&& 63) x3 oY rD qB jK (by omega) (by omega) (by omega) aAE zR aAK hn18
    · skip
      have c44 := mt (aAO _ _).mpr c44
      intro v65 ev65
      have f66 : Int32.toInt (x3 - 1) = Int32.toInt x3 - Int32.toInt (1 : Int32) := aCA _ _ (by omega)
      rw [<- ev65] at f66
      refine t_X3_ripeBy (by omega) xL (fun r67 h_r67 => ?_)
      intro v68 ev68
      have f70 := aBx v38 (r67 ^^^ (-1)) (by omega)
      have hv68 := congrArg Int32.toInt ev68
      intro v71 ev71
      intro v72 ev72
      have f74 := aAQ v71 1431655765 (by omega)
      have f73 : Int32.toInt (v68 - (v71 &&& 1431655765)) = Int32.toInt v68 - Int32.toInt (v71 &&& 1431655765) := aCA _ _ (by omega)
      rw [<- ev72] at f73
      intro v75 ev75
      have f76 := aAQ v72 858993459 (by omega)
      have hv75 := congrArg Int32.toInt ev75
      intro v77 ev77
      intro v78 ev78
      have f80 := aAQ v77 858993459 (by omega)
      have f79 : Int32.toInt (v75 + (v77 &&& 858993459)) = Int32.toInt v75 + Int32.toInt (v77 &&& 858993459) := aAD _ _ (by omega)
      rw [<- ev78] at f79
      intro v81 ev81
      have hv81 := congrArg Int32.toInt ev81
      intro v83 ev83
      have f84 := aAQ v81 252645135 (by omega)
      have hv83 := congrArg Int32.toInt ev83
      intro v85 ev85
      have hv85 := congrArg Int32.toInt ev85
      intro v87 ev87
      have hv87 := congrArg Int32.toInt ev87
      have f90 := aAQ v87 63 (by omega)
      refine And.intro (fun c89 => ?_) (fun c89 => ?_)
      · skip
        have c89 := (aAO _ _).mp c89
        exact ts_X9_ripens_48 dN bD uU gF qF mX oE dY jE eW eY gJ jG xL wX zK hpost hKn x1 x2 x3 oY rD qB jK aBK aBN (by omega) aAE zR aAK hn18
      · skip
        have c89 := mt (aAO _ _).mpr c89
        exact ts_X9_ripens_48 dN bD uU gF qF mX oE dY jE eW eY gJ jG xL wX zK hpost hKn x3 (v87 &&& 63) x3 oY rD qB jK (by omega) (by omega) (by omega) aAE zR aAK hn18
set_option maxHeartbeats 8000000 in
set_option maxRecDepth 200000 in
theorem tb_X9_ripens_18 {post : Int32 -> Int32 -> (Nat -> Int32) -> Int32 -> (Nat -> Int32) -> Prop} (dN bD : Int32) (uU gF qF mX oE dY : Nat -> Int32) (jE eW eY gJ jG : Int32) (xL : 0 <= Int32.toInt dN /\ Int32.toInt dN <= 16) (wX : 0 <= Int32.toInt bD /\ Int32.toInt bD <= 8) (zK : 0 <= Int32.toInt jG /\ Int32.toInt jG <= 9) (hpost : ∀ (r : Int32) (aAY : Int32) (aBC : Nat -> Int32) (zV : Int32) (aAV : Nat -> Int32), (0 <= Int32.toInt r /\ Int32.toInt r <= 63) -> (0 <= Int32.toInt aAY /\ Int32.toInt aAY <= 65535) -> (∀ k : Nat, 0 <= Int32.toInt (aBC k) /\ Int32.toInt (aBC k) <= 65535) -> (2 <= Int32.toInt zV /\ Int32.toInt zV <= 2) -> post r aAY aBC zV aAV) : ∀ (n : Nat) (x1 x2 x3 oY : Int32) (rD : Nat -> Int32) (qB : Int32) (jK : Nat -> Int32), (0 <= Int32.toInt x1 /\ Int32.toInt x1 <= 9) -> (0 <= Int32.toInt x2 /\ Int32.toInt x2 <= 63) -> (0 <= Int32.toInt x3 /\ Int32.toInt x3 <= 10) -> (0 <= Int32.toInt oY /\ Int32.toInt oY <= 65535) -> (∀ k : Nat, 0 <= Int32.toInt (rD k) /\ Int32.toInt (rD k) <= 65535) -> (0 <= Int32.toInt qB /\ Int32.toInt qB <= 16) -> (10 - Int32.toInt x3 < (n : Int)) -> wb_X9_ripens_18 post dN bD uU gF qF mX oE dY jE eW eY gJ jG n x1 x2 x3 oY rD qB jK := by
  intro n
  induction n with
  | zero =>
    intro x1 x2 x3 oY rD qB jK aBK aBN aCH aAE zR aAK hm
    exfalso; omega
  | succ n ih =>
    intro x1 x2 x3 oY rD qB jK aBK aBN aCH aAE zR aAK hm
    exact ts_X9_ripens_18 dN bD uU gF qF mX oE dY jE eW eY gJ jG xL wX zK hpost ih x1 x2 x3 oY rD qB jK aBK aBN aCH aAE zR aAK (by omega)
set_option maxHeartbeats 8000000 in
set_option maxRecDepth 200000 in
theorem t_X9_ripens {post : Int32 -> Int32 -> (Nat -> Int32) -> Int32 -> (Nat -> Int32) -> Prop} {oY : Int32} {rD : Nat -> Int32} {dN bD : Int32} {uU gF qF mX oE dY : Nat -> Int32} {jE eW eY gJ jG qB : Int32} {jK : Nat -> Int32} (aAE : 0 <= Int32.toInt oY /\ Int32.toInt oY <= 65535) (zR : ∀ k : Nat, 0 <= Int32.toInt (rD k) /\ Int32.toInt (rD k) <= 65535) (xL : 0 <= Int32.toInt dN /\ Int32.toInt dN <= 16) (wX : 0 <= Int32.toInt bD /\ Int32.toInt bD <= 8) (zK : 0 <= Int32.toInt jG /\ Int32.toInt jG <= 9) (aAK : 0 <= Int32.toInt qB /\ Int32.toInt qB <= 16) (hpost : ∀ (r : Int32) (aAY : Int32) (aBC : Nat -> Int32) (zV : Int32) (aAV : Nat -> Int32), (0 <= Int32.toInt r /\ Int32.toInt r <= 63) -> (0 <= Int32.toInt aAY /\ Int32.toInt aAY <= 65535) -> (∀ k : Nat, 0 <= Int32.toInt (aBC k) /\ Int32.toInt (aBC k) <= 65535) -> (2 <= Int32.toInt zV /\ Int32.toInt zV <= 2) -> post r aAY aBC zV aAV) : wp_X9_ripens post oY rD dN bD uU gF qF mX oE dY jE eW eY gJ jG qB jK := by
  have l0 := aE0
  exact ⟨12, tb_X9_ripens_18 dN bD uU gF qF mX oE dY jE eW eY gJ jG xL wX zK hpost _ jG 0 jG oY rD qB jK zK (by omega) (by omega) aAE zR aAK (by omega)⟩
set_option maxHeartbeats 8000000 in
set_option maxRecDepth 200000 in
theorem t_X9_ondays {post : Int32 -> Int32 -> (Nat -> Int32) -> Int32 -> (Nat -> Int32) -> Prop} {p0 oY : Int32} {rD : Nat -> Int32} {dN bD : Int32} {uU gF qF mX oE dY : Nat -> Int32} {jE eW eY gJ jG qB : Int32} {jK : Nat -> Int32} (aAE : 0 <= Int32.toInt oY /\ Int32.toInt oY <= 65535) (zR : ∀ k : Nat, 0 <= Int32.toInt (rD k) /\ Int32.toInt (rD k) <= 65535) (xL : 0 <= Int32.toInt dN /\ Int32.toInt dN <= 16) (wX : 0 <= Int32.toInt bD /\ Int32.toInt bD <= 8) (zK : 0 <= Int32.toInt jG /\ Int32.toInt jG <= 9) (aAK : 0 <= Int32.toInt qB /\ Int32.toInt qB <= 16) (hpost : ∀ (r : Int32) (aAY : Int32) (aBC : Nat -> Int32) (zV : Int32) (aAV : Nat -> Int32), (-1 <= Int32.toInt r /\ Int32.toInt r <= 16) -> (0 <= Int32.toInt aAY /\ Int32.toInt aAY <= 65535) -> (∀ k : Nat, 0 <= Int32.toInt (aBC k) /\ Int32.toInt (aBC k) <= 65535) -> (0 <= Int32.toInt zV /\ Int32.toInt zV <= 16) -> post r aAY aBC zV aAV) : wp_X9_ondays post p0 oY rD dN bD uU gF qF mX oE dY jE eW eY gJ jG qB jK := by
  have l0 := aI2
  have l1 := aEc
  have l2 := li_9
  have f2 := aAT p0
  refine And.intro (fun c1 => ?_) (fun c1 => ?_)
  · skip
    have c1 := (aAd _ _).mp c1
    exact hpost _ _ _ _ _ (by omega) aAE zR aAK
  · skip
    have c1 := mt (aAd _ _).mpr c1
    refine And.intro (fun c3 => ?_) (fun c3 => ?_)
    · skip
      have c3 := (aAO _ _).mp c3
      refine aVe zK aAE zR xL wX (fun pl_wanted_4 pl_near_5 h_pl_wanted_4 h_pl_near_5 => ?_)
      intro v6 ev6
      have f7 := aDv 16 65536 dN (by decide) (by omega)
      have hv6 := congrArg Int32.toInt ev6
      intro v8 ev8
      intro v9 ev9
      refine t_X3_ripeBy (by omega) xL (fun r10 h_r10 => ?_)
      intro v11 ev11
      have f12 := aAQ ((v6 - 1) &&& (v9 ^^^ (-1))) r10 (by omega)
      have f14 : Int32.toInt (v6 - 1) = Int32.toInt v6 - Int32.toInt (1 : Int32) := aCA _ _ (by omega)
      have f15 := aBx (v6 - 1) (v9 ^^^ (-1)) (by omega)
      have f16 := aBx ((v6 - 1) &&& (v9 ^^^ (-1))) r10 (by omega)
      have hv11 := congrArg Int32.toInt ev11
      refine And.intro (fun c17 => ?_) (fun c17 => ?_)
      · skip
        have c17 := (aAO _ _).mp c17
        intro v18 ev18
        have f19 := aDv 8 256 bD (by decide) (by omega)
        have hv18 := congrArg Int32.toInt ev18
        have f21 : Int32.toInt (v18 - 1) = Int32.toInt v18 - Int32.toInt (1 : Int32) := aCA _ _ (by omega)
        refine aUy (by omega) h_pl_near_5 wX (fun r20 h_r20 => ?_)
        intro v22 ev22
        have f23 := aAQ v11 r20 (by omega)
        have f24 := aBx v11 r20 (by omega)
        have hv22 := congrArg Int32.toInt ev22
        intro v25 ev25
        have hv25 := congrArg Int32.toInt ev25
        have f27 : Int32.toInt (v25 - 1) = Int32.toInt v25 - Int32.toInt (1 : Int32) := aCA _ _ (by omega)
        refine t_X5_smallestCover (by omega) (by omega) h_pl_near_5 wX (fun r26 h_r26 => ?_)
        refine t_X9_tellMembers h_r26 aAK (fun r30 ro_size_28 ro_numbers_29 h_r30 h_ro_size_28 => ?_)
        exact hpost _ _ _ _ _ (by omega) h_pl_wanted_4 h_pl_near_5 h_ro_size_28
      · skip
        have c17 := mt (aAO _ _).mpr c17
        intro v31 ev31
        have f32 : Int32.toInt (p0 - 1) = Int32.toInt p0 - Int32.toInt (1 : Int32) := aCA _ _ (by omega)
        rw [<- ev31] at f32
        refine t_X3_ripeBy (by omega) xL (fun r33 h_r33 => ?_)
        intro v34 ev34
        have f36 := aBx v11 (r33 ^^^ (-1)) (by omega)
        have hv34 := congrArg Int32.toInt ev34
        intro v37 ev37
        have f38 := aDv 8 256 bD (by decide) (by omega)
        have hv37 := congrArg Int32.toInt ev37
        have f40 : Int32.toInt (v37 - 1) = Int32.toInt v37 - Int32.toInt (1 : Int32) := aCA _ _ (by omega)
        refine aUy (by omega) h_pl_near_5 wX (fun r39 h_r39 => ?_)
        intro v41 ev41
        have f42 := aAQ v34 r39 (by omega)
        have f43 := aBx v34 r39 (by omega)
        have hv41 := congrArg Int32.toInt ev41
        intro v44 ev44
        have hv44 := congrArg Int32.toInt ev44
        have f46 : Int32.toInt (v44 - 1) = Int32.toInt v44 - Int32.toInt (1 : Int32) := aCA _ _ (by omega)
        refine t_X5_smallestCover (by omega) (by omega) h_pl_near_5 wX (fun r45 h_r45 => ?_)
        refine t_X9_tellMembers h_r45 aAK (fun r49 ro_size_47 ro_numbers_48 h_r49 h_ro_size_47 => ?_)
        exact hpost _ _ _ _ _ (by omega) h_pl_wanted_4 h_pl_near_5 h_ro_size_47
    · skip
      have c3 := mt (aAO _ _).mpr c3
      exact hpost _ _ _ _ _ (by omega) aAE zR aAK
set_option maxHeartbeats 8000000 in
set_option maxRecDepth 200000 in
theorem ts_X9_allripe_62 {post : Int32 -> Int32 -> (Nat -> Int32) -> Prop} (dN : Int32) (pL qF : Nat -> Int32) (jE eW eY dU jG : Int32) (xL : 0 <= Int32.toInt dN /\ Int32.toInt dN <= 16) (zK : 0 <= Int32.toInt jG /\ Int32.toInt jG <= 9) (hpost : ∀ (r : Int32) (zV : Int32) (aAV : Nat -> Int32), (0 <= Int32.toInt r /\ Int32.toInt r <= 9) -> (2 <= Int32.toInt zV /\ Int32.toInt zV <= 2) -> post r zV aAV) (x2 x3 qB : Int32) (jK : Nat -> Int32) (aBN : 0 <= Int32.toInt x2 /\ Int32.toInt x2 <= 65535) (aCH : 0 <= Int32.toInt x3 /\ Int32.toInt x3 <= 9) (aAK : 0 <= Int32.toInt qB /\ Int32.toInt qB <= 16) : ws_X9_allripe_62 post dN pL qF jE eW eY dU jG x2 x3 qB jK := by
  have l0 := aE0
  have l1 := aEc
  have l2 := aKH
  have l3 := li_16
  have l4 := aJ8
  have l5 := aJ9
  intro v1 ev1
  intro v2 ev2
  have f4 := aAQ v1 1431655765 (by omega)
  have f3 : Int32.toInt (x2 - (v1 &&& 1431655765)) = Int32.toInt x2 - Int32.toInt (v1 &&& 1431655765) := aCA _ _ (by omega)
  rw [<- ev2] at f3
  intro v5 ev5
  have f6 := aAQ v2 858993459 (by omega)
  have hv5 := congrArg Int32.toInt ev5
  intro v7 ev7
  intro v8 ev8
  have f10 := aAQ v7 858993459 (by omega)
  have f9 : Int32.toInt (v5 + (v7 &&& 858993459)) = Int32.toInt v5 + Int32.toInt (v7 &&& 858993459) := aAD _ _ (by omega)
  rw [<- ev8] at f9
  intro v11 ev11
  have hv11 := congrArg Int32.toInt ev11
  intro v13 ev13
  have f14 := aAQ v11 252645135 (by omega)
  have hv13 := congrArg Int32.toInt ev13
  intro v15 ev15
  have hv15 := congrArg Int32.toInt ev15
  intro v17 ev17
  have hv17 := congrArg Int32.toInt ev17
  refine aUx xL (fun r19 => ?_)
  refine And.intro (fun h9 => absurd h9 (by decide)) (fun _ => ?_)
  refine And.intro (aBZ (by omega)) ?_
  intro v20 ev20
  have f21 : Int32.toInt (0 + 1) = Int32.toInt (0 : Int32) + Int32.toInt (1 : Int32) := aAD _ _ (by omega)
  rw [<- ev20] at f21
  refine And.intro (fun c22 => ?_) (fun c22 => ?_)
  · skip
    have c22 := (aAO _ _).mp c22
    exfalso; omega
  · skip
    have c22 := mt (aAO _ _).mpr c22
    refine And.intro (aBZ (by omega)) ?_
    intro v23 ev23
    have f24 : Int32.toInt (v20 + 1) = Int32.toInt v20 + Int32.toInt (1 : Int32) := aAD _ _ (by omega)
    rw [<- ev23] at f24
    exact hpost _ _ _ aCH (by omega)
set_option maxHeartbeats 8000000 in
set_option maxRecDepth 200000 in
theorem ts_X9_allripe_35 {post : Int32 -> Int32 -> (Nat -> Int32) -> Prop} {next : Int32 -> Int32 -> Int32 -> Int32 -> (Nat -> Int32) -> Prop} {n35 : Int} (dN : Int32) (pL qF : Nat -> Int32) (jE eW eY dU jG : Int32) (xL : 0 <= Int32.toInt dN /\ Int32.toInt dN <= 16) (zK : 0 <= Int32.toInt jG /\ Int32.toInt jG <= 9) (hpost : ∀ (r : Int32) (zV : Int32) (aAV : Nat -> Int32), (0 <= Int32.toInt r /\ Int32.toInt r <= 9) -> (2 <= Int32.toInt zV /\ Int32.toInt zV <= 2) -> post r zV aAV) (hKn : ∀ (x1 : Int32) (x2 : Int32) (x3 : Int32) (qB : Int32) (jK : Nat -> Int32), (0 <= Int32.toInt x1 /\ Int32.toInt x1 <= 65535) -> (0 <= Int32.toInt x2 /\ Int32.toInt x2 <= 65535) -> (0 <= Int32.toInt x3 /\ Int32.toInt x3 <= 9) -> (0 <= Int32.toInt qB /\ Int32.toInt qB <= 16) -> (9 - Int32.toInt x3 < n35) -> next x1 x2 x3 qB jK) (x1 x2 x3 qB : Int32) (jK : Nat -> Int32) (aBK : 0 <= Int32.toInt x1 /\ Int32.toInt x1 <= 65535) (aBN : 0 <= Int32.toInt x2 /\ Int32.toInt x2 <= 65535) (aCH : 0 <= Int32.toInt x3 /\ Int32.toInt x3 <= 9) (aAK : 0 <= Int32.toInt qB /\ Int32.toInt qB <= 16) (hn35 : 9 - Int32.toInt x3 <= n35) : ws_X9_allripe_35 post next dN pL qF jE eW eY dU jG x1 x2 x3 qB jK := by
  have l0 := aE0
  have l1 := aEc
  have l2 := li_9
  refine And.intro (fun c25 => ?_) (fun c25 => ?_)
  · skip
    have c25 := (aAO _ _).mp c25
    exact ts_X9_allripe_62 dN pL qF jE eW eY dU jG xL zK hpost x2 x3 qB jK aBN aCH aAK
  · skip
    have c25 := mt (aAO _ _).mpr c25
    refine t_X3_ripeBy aCH xL (fun r26 h_r26 => ?_)
    have f29 := aBx x1 (r26 ^^^ (-1)) (by omega)
    refine And.intro (fun c27 => ?_) (fun c27 => ?_)
    · skip
      have c27Z := c27
      have c27 := (zJ _ _).mp c27
      have s30 := ti_subset x1 r26 (c27Z) (by omega)
      exact ts_X9_allripe_62 dN pL qF jE eW eY dU jG xL zK hpost x2 x3 qB jK aBN aCH aAK
    · skip
      have c27 := mt (zJ _ _).mpr c27
      intro v31 ev31
      have f32 : Int32.toInt (x3 + 1) = Int32.toInt x3 + Int32.toInt (1 : Int32) := aAD _ _ (by omega)
      rw [<- ev31] at f32
      exact hKn x1 x2 v31 qB jK aBK aBN (by omega) aAK (by omega)
set_option maxHeartbeats 8000000 in
set_option maxRecDepth 200000 in
theorem tb_X9_allripe_35 {post : Int32 -> Int32 -> (Nat -> Int32) -> Prop} (dN : Int32) (pL qF : Nat -> Int32) (jE eW eY dU jG : Int32) (xL : 0 <= Int32.toInt dN /\ Int32.toInt dN <= 16) (zK : 0 <= Int32.toInt jG /\ Int32.toInt jG <= 9) (hpost : ∀ (r : Int32) (zV : Int32) (aAV : Nat -> Int32), (0 <= Int32.toInt r /\ Int32.toInt r <= 9) -> (2 <= Int32.toInt zV /\ Int32.toInt zV <= 2) -> post r zV aAV) : ∀ (n : Nat) (x1 x2 x3 qB : Int32) (jK : Nat -> Int32), (0 <= Int32.toInt x1 /\ Int32.toInt x1 <= 65535) -> (0 <= Int32.toInt x2 /\ Int32.toInt x2 <= 65535) -> (0 <= Int32.toInt x3 /\ Int32.toInt x3 <= 9) -> (0 <= Int32.toInt qB /\ Int32.toInt qB <= 16) -> (9 - Int32.toInt x3 < (n : Int)) -> wb_X9_allripe_35 post dN pL qF jE eW eY dU jG n x1 x2 x3 qB jK := by
  intro n
  induction n with
  | zero =>
    intro x1 x2 x3 qB jK aBK aBN aCH aAK hm
    exfalso; omega
  | succ n ih =>
    intro x1 x2 x3 qB jK aBK aBN aCH aAK hm
    exact ts_X9_allripe_35 dN pL qF jE eW eY dU jG xL zK hpost ih x1 x2 x3 qB jK aBK aBN aCH aAK (by omega)
set_option maxHeartbeats 8000000 in
set_option maxRecDepth 200000 in
theorem t_X9_allripe {post : Int32 -> Int32 -> (Nat -> Int32) -> Prop} {dN : Int32} {pL qF : Nat -> Int32} {jE eW eY dU jG qB : Int32} {jK : Nat -> Int32} (xL : 0 <= Int32.toInt dN /\ Int32.toInt dN <= 16) (zK : 0 <= Int32.toInt jG /\ Int32.toInt jG <= 9) (aAK : 0 <= Int32.toInt qB /\ Int32.toInt qB <= 16) (hpost : ∀ (r : Int32) (zV : Int32) (aAV : Nat -> Int32), (0 <= Int32.toInt r /\ Int32.toInt r <= 9) -> (2 <= Int32.toInt zV /\ Int32.toInt zV <= 2) -> post r zV aAV) : wp_X9_allripe post dN pL qF jE eW eY dU jG qB jK := by
  have l0 := aEc
  intro v33 ev33
  have f34 := aDv 16 65536 dN (by decide) (by omega)
  have hv33 := congrArg Int32.toInt ev33
  intro v35 ev35
  intro v36 ev36
  refine t_X3_ripeBy zK xL (fun r37 h_r37 => ?_)
  intro v38 ev38
  have f41 : Int32.toInt (v33 - 1) = Int32.toInt v33 - Int32.toInt (1 : Int32) := aCA _ _ (by omega)
  have f42 := aBx (v33 - 1) (v36 ^^^ (-1)) (by omega)
  have f43 := aBx ((v33 - 1) &&& (v36 ^^^ (-1))) (r37 ^^^ (-1)) (by omega)
  have hv38 := congrArg Int32.toInt ev38
  exact ⟨11, tb_X9_allripe_35 dN pL qF jE eW eY dU jG xL zK hpost _ ((v33 - 1) &&& (v36 ^^^ (-1))) v38 jG qB jK (by omega) (by omega) zK aAK (by omega)⟩
