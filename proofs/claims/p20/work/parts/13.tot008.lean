set_option maxHeartbeats 8000000 in
set_option maxRecDepth 200000 in
theorem ts_X3_within_32 {post : Int32 → Prop} {K5 : Int32 → Int32 → Int32 → Int32 → Prop} {n5 : Int} (dN : Int32) (uU gF mX oE : Nat → Int32) (xL : 0 ≤ Int32.toInt dN ∧ Int32.toInt dN ≤ 16) (hpost : ∀ (r : Int32) , (0 ≤ Int32.toInt r ∧ Int32.toInt r ≤ 65535) → post r) (hK5 : ∀ (x1 : Int32) (x2 : Int32) (x3 : Int32) (x4 : Int32), (0 ≤ Int32.toInt x1 ∧ Int32.toInt x1 ≤ 7) → (0 ≤ Int32.toInt x3 ∧ Int32.toInt x3 ≤ 65535) → (0 ≤ Int32.toInt x4 ∧ Int32.toInt x4 ≤ 16) → (16 - Int32.toInt x4 < n5) → K5 x1 x2 x3 x4) (x1 x2 x3 x4 : Int32) (aBK : 0 ≤ Int32.toInt x1 ∧ Int32.toInt x1 ≤ 7) (aCH : 0 ≤ Int32.toInt x3 ∧ Int32.toInt x3 ≤ 65535) (aDO : 0 ≤ Int32.toInt x4 ∧ Int32.toInt x4 ≤ 15) (hn5 : 16 - Int32.toInt x4 ≤ n5) : ws_X3_within_32 post K5 dN uU gF mX oE x1 x2 x3 x4 := by
  have l0 := aEc
  intro v1 ev1
  have f2 : Int32.toInt (x4 + 1) = Int32.toInt x4 + Int32.toInt (1 : Int32) := aAD _ _ (by omega)
  rw [← ev1] at f2
  have f3 := aAT x2
  exact hK5 x1 x2 x3 v1 aBK aCH (by omega) (by omega)
set_option maxHeartbeats 8000000 in
set_option maxRecDepth 200000 in
theorem ts_X3_within_5 {post : Int32 → Prop} {next : Int32 → Int32 → Int32 → Int32 → Prop} {n5 : Int} (dN : Int32) (uU gF mX oE : Nat → Int32) (xL : 0 ≤ Int32.toInt dN ∧ Int32.toInt dN ≤ 16) (hpost : ∀ (r : Int32) , (0 ≤ Int32.toInt r ∧ Int32.toInt r ≤ 65535) → post r) (hKn : ∀ (x1 : Int32) (x2 : Int32) (x3 : Int32) (x4 : Int32), (0 ≤ Int32.toInt x1 ∧ Int32.toInt x1 ≤ 7) → (0 ≤ Int32.toInt x3 ∧ Int32.toInt x3 ≤ 65535) → (0 ≤ Int32.toInt x4 ∧ Int32.toInt x4 ≤ 16) → (16 - Int32.toInt x4 < n5) → next x1 x2 x3 x4) (x1 x2 x3 x4 : Int32) (aBK : 0 ≤ Int32.toInt x1 ∧ Int32.toInt x1 ≤ 7) (aCH : 0 ≤ Int32.toInt x3 ∧ Int32.toInt x3 ≤ 65535) (aDO : 0 ≤ Int32.toInt x4 ∧ Int32.toInt x4 ≤ 16) (hn5 : 16 - Int32.toInt x4 ≤ n5) : ws_X3_within_5 post next dN uU gF mX oE x1 x2 x3 x4 := by
  have l0 := aE0
  refine And.intro (fun c4 => ?_) (fun c4 => ?_)
  · skip
    have c4 := (aAO _ _).mp c4
    exact hpost _ aCH
  · skip
    have c4 := mt (aAO _ _).mpr c4
    refine And.intro (aBZ (by omega)) ?_
    intro v5 ev5
    have hv5 := congrArg Int32.toInt ev5
    refine And.intro (aBZ (by omega)) ?_
    have f8 := aAT v5
    refine And.intro (fun c7 => ?_) (fun c7 => ?_)
    · skip
      have c7 := (aAO _ _).mp c7
      refine And.intro (aBZ (by omega)) ?_
      intro v10 ev10
      have hv10 := congrArg Int32.toInt ev10
      refine And.intro (aBZ (by omega)) ?_
      refine And.intro (aBZ (by omega)) ?_
      intro v11 ev11
      have hv11 := congrArg Int32.toInt ev11
      refine And.intro (aBZ (by omega)) ?_
      have f14 := aAT v11
      refine And.intro (fun c13 => ?_) (fun c13 => ?_)
      · skip
        have c13 := (aAO _ _).mp c13
        intro v16 ev16
        have hv16 := congrArg Int32.toInt ev16
        intro v18 ev18
        have f20 := aAT v16
        have f21 : Int32.toInt (0 * 0) = Int32.toInt (0 : Int32) * 0 := ta_mulc _ _ (by decide) (by omega)
        have f19 : Int32.toInt (v16 + (0 * 0)) = Int32.toInt v16 + Int32.toInt (0 * 0) := aAD _ _ (by omega)
        rw [← ev18] at f19
        have f23 := aAT v18
        refine And.intro (fun c22 => ?_) (fun c22 => ?_)
        · skip
          have c22 := (aAd _ _).mp c22
          refine And.intro (fun _ => ?_) (fun h9 => absurd h9 (by decide))
          have f25 := aAT x2
          exact ts_X3_within_32 dN uU gF mX oE xL hpost hKn x1 x2 x3 x4 aBK aCH (by omega) hn5
        · skip
          have c22 := mt (aAd _ _).mpr c22
          refine And.intro (fun h9 => absurd h9 (by decide)) (fun _ => ?_)
          intro v26 ev26
          have f28 := aDv 15 32768 x4 (by decide) (by omega)
          have f27 := ti_or 16 65536 x3 (1 <<< (x4 &&& 31)) (by decide) (by omega) (by omega)
          have hv26 := congrArg Int32.toInt ev26
          have f29 := aAT x2
          exact ts_X3_within_32 dN uU gF mX oE xL hpost hKn x1 x2 v26 x4 aBK (by omega) (by omega) hn5
      · skip
        have c13 := mt (aAO _ _).mpr c13
        refine And.intro (aBZ (by omega)) ?_
        intro v30 ev30
        have hv30 := congrArg Int32.toInt ev30
        refine And.intro (aBZ (by omega)) ?_
        intro v31 ev31
        have hv31 := congrArg Int32.toInt ev31
        intro v33 ev33
        have hv33 := congrArg Int32.toInt ev33
        intro v35 ev35
        have hv35 := congrArg Int32.toInt ev35
        have f38 := aAT v35
        refine And.intro (fun c37 => ?_) (fun c37 => ?_)
        · skip
          have c37 := (aAd _ _).mp c37
          refine And.intro (fun _ => ?_) (fun h9 => absurd h9 (by decide))
          have f40 := aAT x2
          exact ts_X3_within_32 dN uU gF mX oE xL hpost hKn x1 x2 x3 x4 aBK aCH (by omega) hn5
        · skip
          have c37 := mt (aAd _ _).mpr c37
          refine And.intro (fun h9 => absurd h9 (by decide)) (fun _ => ?_)
          intro v41 ev41
          have f43 := aDv 15 32768 x4 (by decide) (by omega)
          have f42 := ti_or 16 65536 x3 (1 <<< (x4 &&& 31)) (by decide) (by omega) (by omega)
          have hv41 := congrArg Int32.toInt ev41
          have f44 := aAT x2
          exact ts_X3_within_32 dN uU gF mX oE xL hpost hKn x1 x2 v41 x4 aBK (by omega) (by omega) hn5
    · skip
      have c7 := mt (aAO _ _).mpr c7
      refine And.intro (aBZ (by omega)) ?_
      intro v45 ev45
      have hv45 := congrArg Int32.toInt ev45
      refine And.intro (aBZ (by omega)) ?_
      intro v46 ev46
      have hv46 := congrArg Int32.toInt ev46
      refine And.intro (aBZ (by omega)) ?_
      intro v48 ev48
      have hv48 := congrArg Int32.toInt ev48
      refine And.intro (aBZ (by omega)) ?_
      have f51 := aAT v48
      refine And.intro (fun c50 => ?_) (fun c50 => ?_)
      · skip
        have c50 := (aAO _ _).mp c50
        intro v53 ev53
        have hv53 := congrArg Int32.toInt ev53
        intro v55 ev55
        have f57 := aAT v53
        have f58 : Int32.toInt (0 * 0) = Int32.toInt (0 : Int32) * 0 := ta_mulc _ _ (by decide) (by omega)
        have f56 : Int32.toInt (v53 + (0 * 0)) = Int32.toInt v53 + Int32.toInt (0 * 0) := aAD _ _ (by omega)
        rw [← ev55] at f56
        have f60 := aAT v55
        refine And.intro (fun c59 => ?_) (fun c59 => ?_)
        · skip
          have c59 := (aAd _ _).mp c59
          refine And.intro (fun _ => ?_) (fun h9 => absurd h9 (by decide))
          have f62 := aAT x2
          exact ts_X3_within_32 dN uU gF mX oE xL hpost hKn x1 x2 x3 x4 aBK aCH (by omega) hn5
        · skip
          have c59 := mt (aAd _ _).mpr c59
          refine And.intro (fun h9 => absurd h9 (by decide)) (fun _ => ?_)
          intro v63 ev63
          have f65 := aDv 15 32768 x4 (by decide) (by omega)
          have f64 := ti_or 16 65536 x3 (1 <<< (x4 &&& 31)) (by decide) (by omega) (by omega)
          have hv63 := congrArg Int32.toInt ev63
          have f66 := aAT x2
          exact ts_X3_within_32 dN uU gF mX oE xL hpost hKn x1 x2 v63 x4 aBK (by omega) (by omega) hn5
      · skip
        have c50 := mt (aAO _ _).mpr c50
        refine And.intro (aBZ (by omega)) ?_
        intro v67 ev67
        have hv67 := congrArg Int32.toInt ev67
        refine And.intro (aBZ (by omega)) ?_
        intro v68 ev68
        have hv68 := congrArg Int32.toInt ev68
        intro v70 ev70
        have hv70 := congrArg Int32.toInt ev70
        intro v72 ev72
        have hv72 := congrArg Int32.toInt ev72
        have f75 := aAT v72
        refine And.intro (fun c74 => ?_) (fun c74 => ?_)
        · skip
          have c74 := (aAd _ _).mp c74
          refine And.intro (fun _ => ?_) (fun h9 => absurd h9 (by decide))
          have f77 := aAT x2
          exact ts_X3_within_32 dN uU gF mX oE xL hpost hKn x1 x2 x3 x4 aBK aCH (by omega) hn5
        · skip
          have c74 := mt (aAd _ _).mpr c74
          refine And.intro (fun h9 => absurd h9 (by decide)) (fun _ => ?_)
          intro v78 ev78
          have f80 := aDv 15 32768 x4 (by decide) (by omega)
          have f79 := ti_or 16 65536 x3 (1 <<< (x4 &&& 31)) (by decide) (by omega) (by omega)
          have hv78 := congrArg Int32.toInt ev78
          have f81 := aAT x2
          exact ts_X3_within_32 dN uU gF mX oE xL hpost hKn x1 x2 v78 x4 aBK (by omega) (by omega) hn5
set_option maxHeartbeats 8000000 in
set_option maxRecDepth 200000 in
theorem tb_X3_within_5 {post : Int32 → Prop} (dN : Int32) (uU gF mX oE : Nat → Int32) (xL : 0 ≤ Int32.toInt dN ∧ Int32.toInt dN ≤ 16) (hpost : ∀ (r : Int32) , (0 ≤ Int32.toInt r ∧ Int32.toInt r ≤ 65535) → post r) : ∀ (n : Nat) (x1 x2 x3 x4 : Int32), (0 ≤ Int32.toInt x1 ∧ Int32.toInt x1 ≤ 7) → (0 ≤ Int32.toInt x3 ∧ Int32.toInt x3 ≤ 65535) → (0 ≤ Int32.toInt x4 ∧ Int32.toInt x4 ≤ 16) → (16 - Int32.toInt x4 < (n : Int)) → wb_X3_within_5 post dN uU gF mX oE n x1 x2 x3 x4 := by
  intro n
  induction n with
  | zero =>
    intro x1 x2 x3 x4 aBK aCH aDO hm
    exfalso; omega
  | succ n ih =>
    intro x1 x2 x3 x4 aBK aCH aDO hm
    exact ts_X3_within_5 dN uU gF mX oE xL hpost ih x1 x2 x3 x4 aBK aCH aDO (by omega)
set_option maxHeartbeats 8000000 in
set_option maxRecDepth 200000 in
theorem t_X3_within {post : Int32 → Prop} {p0 p1 dN : Int32} {uU gF mX oE : Nat → Int32} (h_p0 : 0 ≤ Int32.toInt p0 ∧ Int32.toInt p0 ≤ 7) (xL : 0 ≤ Int32.toInt dN ∧ Int32.toInt dN ≤ 16) (hpost : ∀ (r : Int32) , (0 ≤ Int32.toInt r ∧ Int32.toInt r ≤ 65535) → post r) : bBS post p0 p1 dN uU gF mX oE := by
  have l0 := aE0
  have f82 := aAT p1
  exact ⟨18, tb_X3_within_5 dN uU gF mX oE xL hpost _ p0 p1 0 0 h_p0 (by omega) (by omega) (by omega)⟩
set_option maxHeartbeats 8000000 in
set_option maxRecDepth 200000 in
theorem ts_X3_ripeBy_28 {post : Int32 → Prop} {K4 : Int32 → Int32 → Int32 → Prop} {n4 : Int} (dN : Int32) (qF : Nat → Int32) (xL : 0 ≤ Int32.toInt dN ∧ Int32.toInt dN ≤ 16) (hpost : ∀ (r : Int32) , (0 ≤ Int32.toInt r ∧ Int32.toInt r ≤ 65535) → post r) (hK4 : ∀ (x1 : Int32) (x2 : Int32) (x3 : Int32), (0 ≤ Int32.toInt x1 ∧ Int32.toInt x1 ≤ 9) → (0 ≤ Int32.toInt x2 ∧ Int32.toInt x2 ≤ 65535) → (0 ≤ Int32.toInt x3 ∧ Int32.toInt x3 ≤ 16) → (16 - Int32.toInt x3 < n4) → K4 x1 x2 x3) (x1 x2 x3 : Int32) (aBK : 0 ≤ Int32.toInt x1 ∧ Int32.toInt x1 ≤ 9) (aBN : 0 ≤ Int32.toInt x2 ∧ Int32.toInt x2 ≤ 65535) (aCH : 0 ≤ Int32.toInt x3 ∧ Int32.toInt x3 ≤ 15) (hn4 : 16 - Int32.toInt x3 ≤ n4) : ws_X3_ripeBy_28 post K4 dN qF x1 x2 x3 := by
  have l0 := aEc
  intro v1 ev1
  have f2 : Int32.toInt (x3 + 1) = Int32.toInt x3 + Int32.toInt (1 : Int32) := aAD _ _ (by omega)
  rw [← ev1] at f2
  exact hK4 x1 x2 v1 aBK aBN (by omega) (by omega)
set_option maxHeartbeats 8000000 in
set_option maxRecDepth 200000 in
theorem ts_X3_ripeBy_4 {post : Int32 → Prop} {next : Int32 → Int32 → Int32 → Prop} {n4 : Int} (dN : Int32) (qF : Nat → Int32) (xL : 0 ≤ Int32.toInt dN ∧ Int32.toInt dN ≤ 16) (hpost : ∀ (r : Int32) , (0 ≤ Int32.toInt r ∧ Int32.toInt r ≤ 65535) → post r) (hKn : ∀ (x1 : Int32) (x2 : Int32) (x3 : Int32), (0 ≤ Int32.toInt x1 ∧ Int32.toInt x1 ≤ 9) → (0 ≤ Int32.toInt x2 ∧ Int32.toInt x2 ≤ 65535) → (0 ≤ Int32.toInt x3 ∧ Int32.toInt x3 ≤ 16) → (16 - Int32.toInt x3 < n4) → next x1 x2 x3) (x1 x2 x3 : Int32) (aBK : 0 ≤ Int32.toInt x1 ∧ Int32.toInt x1 ≤ 9) (aBN : 0 ≤ Int32.toInt x2 ∧ Int32.toInt x2 ≤ 65535) (aCH : 0 ≤ Int32.toInt x3 ∧ Int32.toInt x3 ≤ 16) (hn4 : 16 - Int32.toInt x3 ≤ n4) : ws_X3_ripeBy_4 post next dN qF x1 x2 x3 := by
  refine And.intro (fun c3 => ?_) (fun c3 => ?_)
  · skip
    have c3 := (aAO _ _).mp c3
    exact hpost _ aBN
  · skip
    have c3 := mt (aAO _ _).mpr c3
    refine And.intro (aBZ (by omega)) ?_
    intro v4 ev4
    have hv4 := congrArg Int32.toInt ev4
    have f7 := aAT v4
    refine And.intro (fun c6 => ?_) (fun c6 => ?_)
    · skip
      have c6 := (aAd _ _).mp c6
      exact ts_X3_ripeBy_28 dN qF xL hpost hKn x1 x2 x3 aBK aBN (by omega) hn4
    · skip
      have c6 := mt (aAd _ _).mpr c6
      intro v8 ev8
      have f10 := aDv 15 32768 x3 (by decide) (by omega)
      have f9 := ti_or 16 65536 x2 (1 <<< (x3 &&& 31)) (by decide) (by omega) (by omega)
      have hv8 := congrArg Int32.toInt ev8
      exact ts_X3_ripeBy_28 dN qF xL hpost hKn x1 v8 x3 aBK (by omega) (by omega) hn4
set_option maxHeartbeats 8000000 in
set_option maxRecDepth 200000 in
theorem tb_X3_ripeBy_4 {post : Int32 → Prop} (dN : Int32) (qF : Nat → Int32) (xL : 0 ≤ Int32.toInt dN ∧ Int32.toInt dN ≤ 16) (hpost : ∀ (r : Int32) , (0 ≤ Int32.toInt r ∧ Int32.toInt r ≤ 65535) → post r) : ∀ (n : Nat) (x1 x2 x3 : Int32), (0 ≤ Int32.toInt x1 ∧ Int32.toInt x1 ≤ 9) → (0 ≤ Int32.toInt x2 ∧ Int32.toInt x2 ≤ 65535) → (0 ≤ Int32.toInt x3 ∧ Int32.toInt x3 ≤ 16) → (16 - Int32.toInt x3 < (n : Int)) → wb_X3_ripeBy_4 post dN qF n x1 x2 x3 := by
  intro n
  induction n with
  | zero =>
    intro x1 x2 x3 aBK aBN aCH hm
    exfalso; omega
  | succ n ih =>
    intro x1 x2 x3 aBK aBN aCH hm
    exact ts_X3_ripeBy_4 dN qF xL hpost ih x1 x2 x3 aBK aBN aCH (by omega)
set_option maxHeartbeats 8000000 in
set_option maxRecDepth 200000 in
theorem t_X3_ripeBy {post : Int32 → Prop} {p0 dN : Int32} {qF : Nat → Int32} (h_p0 : 0 ≤ Int32.toInt p0 ∧ Int32.toInt p0 ≤ 9) (xL : 0 ≤ Int32.toInt dN ∧ Int32.toInt dN ≤ 16) (hpost : ∀ (r : Int32) , (0 ≤ Int32.toInt r ∧ Int32.toInt r ≤ 65535) → post r) : aZj post p0 dN qF := by
  have l0 := aE0
  exact ⟨18, tb_X3_ripeBy_4 dN qF xL hpost _ p0 0 0 h_p0 (by omega) (by omega) (by omega)⟩
set_option maxHeartbeats 8000000 in
set_option maxRecDepth 200000 in
theorem ts_X0_shakeTree_63 {post : Int32 → Int32 → Int32 → Int32 → Prop} {K29 : Int32 → Int32 → Int32 → Int32 → Int32 → Int32 → Int32 → Prop} {n29 : Int} (dN : Int32) (uU gF qF mX oE dY : Nat → Int32) (jE eW fY gJ jG : Int32) (xL : 0 ≤ Int32.toInt dN ∧ Int32.toInt dN ≤ 16) (aAC : -1 ≤ Int32.toInt fY ∧ Int32.toInt fY ≤ 7) (zK : 0 ≤ Int32.toInt jG ∧ Int32.toInt jG ≤ 9) (hpost : ∀ (r : Int32) (aGr : Int32) (aFB : Int32) (aFi : Int32), (-2 ≤ Int32.toInt r ∧ Int32.toInt r ≤ 63) → post r aGr aFB aFi) (hK29 : ∀ (x1 : Int32) (x2 : Int32) (x3 : Int32) (x4 : Int32) (eY : Int32) (dU : Int32) (nU : Int32), (0 ≤ Int32.toInt x1 ∧ Int32.toInt x1 ≤ 65535) → (0 ≤ Int32.toInt x2 ∧ Int32.toInt x2 ≤ 65535) → (0 ≤ Int32.toInt x3 ∧ Int32.toInt x3 ≤ 65535) → (0 ≤ Int32.toInt x4 ∧ Int32.toInt x4 ≤ 16) → (16 - Int32.toInt x4 < n29) → K29 x1 x2 x3 x4 eY dU nU) (x1 x2 x3 x4 eY dU nU : Int32) (aBK : 0 ≤ Int32.toInt x1 ∧ Int32.toInt x1 ≤ 65535) (aBN : 0 ≤ Int32.toInt x2 ∧ Int32.toInt x2 ≤ 65535) (aCH : 0 ≤ Int32.toInt x3 ∧ Int32.toInt x3 ≤ 65535) (aDO : 0 ≤ Int32.toInt x4 ∧ Int32.toInt x4 ≤ 15) (hn29 : 16 - Int32.toInt x4 ≤ n29) : ws_X0_shakeTree_63 post K29 dN uU gF qF mX oE dY jE eW fY gJ jG x1 x2 x3 x4 eY dU nU := by
  have l0 := aEc
  intro v1 ev1
  have f2 : Int32.toInt (x4 + 1) = Int32.toInt x4 + Int32.toInt (1 : Int32) := aAD _ _ (by omega)
  rw [← ev1] at f2
  have f3 := aAT eY
  have f4 := aAT dU
  have f5 := aAT nU
  exact hK29 x1 x2 x3 v1 eY dU nU aBK aBN aCH (by omega) (by omega)
set_option maxHeartbeats 8000000 in
set_option maxRecDepth 200000 in
theorem ts_X0_shakeTree_29 {post : Int32 → Int32 → Int32 → Int32 → Prop} {next : Int32 → Int32 → Int32 → Int32 → Int32 → Int32 → Int32 → Prop} {n29 : Int} (dN : Int32) (uU gF qF mX oE dY : Nat → Int32) (jE eW fY gJ jG : Int32) (xL : 0 ≤ Int32.toInt dN ∧ Int32.toInt dN ≤ 16) (aAC : -1 ≤ Int32.toInt fY ∧ Int32.toInt fY ≤ 7) (zK : 0 ≤ Int32.toInt jG ∧ Int32.toInt jG ≤ 9) (hpost : ∀ (r : Int32) (aGr : Int32) (aFB : Int32) (aFi : Int32), (-2 ≤ Int32.toInt r ∧ Int32.toInt r ≤ 63) → post r aGr aFB aFi) (hKn : ∀ (x1 : Int32) (x2 : Int32) (x3 : Int32) (x4 : Int32) (eY : Int32) (dU : Int32) (nU : Int32), (0 ≤ Int32.toInt x1 ∧ Int32.toInt x1 ≤ 65535) → (0 ≤ Int32.toInt x2 ∧ Int32.toInt x2 ≤ 65535) → (0 ≤ Int32.toInt x3 ∧ Int32.toInt x3 ≤ 65535) → (0 ≤ Int32.toInt x4 ∧ Int32.toInt x4 ≤ 16) → (16 - Int32.toInt x4 < n29) → next x1 x2 x3 x4 eY dU nU) (x1 x2 x3 x4 eY dU nU : Int32) (aBK : 0 ≤ Int32.toInt x1 ∧ Int32.toInt x1 ≤ 65535) (aBN : 0 ≤ Int32.toInt x2 ∧ Int32.toInt x2 ≤ 65535) (aCH : 0 ≤ Int32.toInt x3 ∧ Int32.toInt x3 ≤ 65535) (aDO : 0 ≤ Int32.toInt x4 ∧ Int32.toInt x4 ≤ 16) (hn29 : 16 - Int32.toInt x4 ≤ n29) : ws_X0_shakeTree_29 post next dN uU gF qF mX oE dY jE eW fY gJ jG x1 x2 x3 x4 eY dU nU := by
  have l0 := aE0
  have l1 := aEc
  have l2 := aKH
  have l3 := aJ8
  have l4 := li_63
  have l5 := aJ9
  have l6 := li_9999
  refine And.intro (fun c6 => ?_) (fun c6 => ?_)
  · skip
    have c6 := (aAO _ _).mp c6
    intro v7 ev7
    intro v8 ev8
    intro v9 ev9
    have hv9 := congrArg Int32.toInt ev9
    intro v11 ev11
    have f12 := aAT (if v9 < 9999 then v9 else 9999)
    have f14 := aAT v9
    have f13 := ti_min (9999 : Int32) v9
    have hv11 := congrArg Int32.toInt ev11
    intro v15 ev15
    intro v16 ev16
    have f18 := aAQ v15 1431655765 (by omega)
    have f17 : Int32.toInt (x2 - (v15 &&& 1431655765)) = Int32.toInt x2 - Int32.toInt (v15 &&& 1431655765) := aCA _ _ (by omega)
    rw [← ev16] at f17
    intro v19 ev19
    have f20 := aAQ v16 858993459 (by omega)
    have hv19 := congrArg Int32.toInt ev19
    intro v21 ev21
    intro v22 ev22
    have f24 := aAQ v21 858993459 (by omega)
    have f23 : Int32.toInt (v19 + (v21 &&& 858993459)) = Int32.toInt v19 + Int32.toInt (v21 &&& 858993459) := aAD _ _ (by omega)
    rw [← ev22] at f23
    intro v25 ev25
    have hv25 := congrArg Int32.toInt ev25
    intro v27 ev27
    have f28 := aAQ v25 252645135 (by omega)
    have hv27 := congrArg Int32.toInt ev27
    intro v29 ev29
    have hv29 := congrArg Int32.toInt ev29
    intro v31 ev31
    have hv31 := congrArg Int32.toInt ev31
    have f33 := aAQ v31 63 (by omega)
    exact hpost _ _ _ _ (by omega)
  · skip
    have c6 := mt (aAO _ _).mpr c6
    intro v34 ev34
    have f35 := aRJ x2 x4 (by omega)
    have hv34 := congrArg Int32.toInt ev34
    have f37 := aAQ v34 1 (by omega)
    have f38 := aBx v34 1 (by omega)
    refine And.intro (fun c36 => ?_) (fun c36 => ?_)
    · skip
      have c36 := (zJ _ _).mp c36
      have f39 := aAT eY
      have f40 := aAT dU
      have f41 := aAT nU
      exact ts_X0_shakeTree_63 dN uU gF qF mX oE dY jE eW fY gJ jG xL aAC zK hpost hKn x1 x2 x3 x4 eY dU nU aBK aBN aCH (by omega) hn29
    · skip
      have c36 := mt (zJ _ _).mpr c36
      refine t_X3_lowerThan (by omega) aBK (by omega) (fun r42 h_r42 => ?_)
      intro v43 ev43
      have f44 := ti_or 16 65536 x3 r42 (by decide) (by omega) (by omega)
      have hv43 := congrArg Int32.toInt ev43
      have f45 := aAT eY
      have f46 := aAT dU
      have f47 := aAT nU
      exact ts_X0_shakeTree_63 dN uU gF qF mX oE dY jE eW fY gJ jG xL aAC zK hpost hKn x1 x2 v43 x4 eY dU nU aBK aBN (by omega) (by omega) hn29
set_option maxHeartbeats 8000000 in
set_option maxRecDepth 200000 in
theorem tb_X0_shakeTree_29 {post : Int32 → Int32 → Int32 → Int32 → Prop} (dN : Int32) (uU gF qF mX oE dY : Nat → Int32) (jE eW fY gJ jG : Int32) (xL : 0 ≤ Int32.toInt dN ∧ Int32.toInt dN ≤ 16) (aAC : -1 ≤ Int32.toInt fY ∧ Int32.toInt fY ≤ 7) (zK : 0 ≤ Int32.toInt jG ∧ Int32.toInt jG ≤ 9) (hpost : ∀ (r : Int32) (aGr : Int32) (aFB : Int32) (aFi : Int32), (-2 ≤ Int32.toInt r ∧ Int32.toInt r ≤ 63) → post r aGr aFB aFi) : ∀ (n : Nat) (x1 x2 x3 x4 eY dU nU : Int32), (0 ≤ Int32.toInt x1 ∧ Int32.toInt x1 ≤ 65535) → (0 ≤ Int32.toInt x2 ∧ Int32.toInt x2 ≤ 65535) → (0 ≤ Int32.toInt x3 ∧ Int32.toInt x3 ≤ 65535) → (0 ≤ Int32.toInt x4 ∧ Int32.toInt x4 ≤ 16) → (16 - Int32.toInt x4 < (n : Int)) → wb_X0_shakeTree_29 post dN uU gF qF mX oE dY jE eW fY gJ jG n x1 x2 x3 x4 eY dU nU := by
  intro n
  induction n with
  | zero =>
    intro x1 x2 x3 x4 eY dU nU aBK aBN aCH aDO hm
    exfalso; omega
  | succ n ih =>
    intro x1 x2 x3 x4 eY dU nU aBK aBN aCH aDO hm
    exact ts_X0_shakeTree_29 dN uU gF qF mX oE dY jE eW fY gJ jG xL aAC zK hpost ih x1 x2 x3 x4 eY dU nU aBK aBN aCH aDO (by omega)
set_option maxHeartbeats 8000000 in
set_option maxRecDepth 200000 in
theorem t_X0_shakeTree {post : Int32 → Int32 → Int32 → Int32 → Prop} {dN : Int32} {uU gF qF mX oE dY : Nat → Int32} {jE eW eY dU fY gJ jG nU : Int32} (xL : 0 ≤ Int32.toInt dN ∧ Int32.toInt dN ≤ 16) (aAC : -1 ≤ Int32.toInt fY ∧ Int32.toInt fY ≤ 7) (zK : 0 ≤ Int32.toInt jG ∧ Int32.toInt jG ≤ 9) (hpost : ∀ (r : Int32) (aGr : Int32) (aFB : Int32) (aFi : Int32), (-2 ≤ Int32.toInt r ∧ Int32.toInt r ≤ 63) → post r aGr aFB aFi) : wp_X0_shakeTree post dN uU gF qF mX oE dY jE eW eY dU fY gJ jG nU := by
  have l0 := aI2
  have l1 := li_m2
  have l2 := aE0
  have l3 := aEc
  have l4 := li_2
  refine And.intro (fun c48 => ?_) (fun c48 => ?_)
  · skip
    have c48 := mt (zJ _ _).mpr c48
    intro v49 ev49
    have f50 := aDv 16 65536 dN (by decide) (by omega)
    have hv49 := congrArg Int32.toInt ev49
    intro v51 ev51
    intro v52 ev52
    refine And.intro (fun c53 => ?_) (fun c53 => ?_)
    · skip
      have c53 := mt (zJ _ _).mpr c53
      intro v54 ev54
      have hv54 := congrArg Int32.toInt ev54
      intro v56 ev56
      have hv56 := congrArg Int32.toInt ev56
      refine t_X3_within (by omega) xL (fun r58 h_r58 => ?_)
      intro v59 ev59
      have hv59 := congrArg Int32.toInt ev59
      intro v60 ev60
      intro v61 ev61
      refine t_X3_ripeBy zK xL (fun r62 h_r62 => ?_)
      intro v63 ev63
      have f64 := aAQ ((v59 - 1) &&& (v61 ^^^ (-1))) r62 (by omega)
      have f66 : Int32.toInt (v59 - 1) = Int32.toInt v59 - Int32.toInt (1 : Int32) := aCA _ _ (by omega)
      have f67 := aBx (v59 - 1) (v61 ^^^ (-1)) (by omega)
      have f68 := aBx ((v59 - 1) &&& (v61 ^^^ (-1))) r62 (by omega)
      have hv63 := congrArg Int32.toInt ev63
      have f70 : Int32.toInt (v49 - 1) = Int32.toInt v49 - Int32.toInt (1 : Int32) := aCA _ _ (by omega)
      have f71 := aBx (v49 - 1) (v52 ^^^ (-1)) (by omega)
      have f72 := aAQ v63 r58 (by omega)
      have f73 := aBx v63 r58 (by omega)
      have f74 := aAT eY
      have f75 := aAT dU
      have f76 := aAT nU
      exact ⟨18, tb_X0_shakeTree_29 dN uU gF qF mX oE dY jE eW fY gJ jG xL aAC zK hpost _ ((v49 - 1) &&& (v52 ^^^ (-1))) (v63 &&& r58) (v63 &&& r58) 0 eY dU nU (by omega) (by omega) (by omega) (by omega) (by omega)⟩
    · skip
      have c53 := (zJ _ _).mp c53
      exfalso; omega
  · skip
    have c48 := (zJ _ _).mp c48
    exact hpost _ _ _ _ (by omega)
set_option maxHeartbeats 8000000 in
set_option maxRecDepth 200000 in
theorem t_X9_shake {post : Int32 → Int32 → Int32 → Int32 → Int32 → Int32 → (Nat → Int32) → Prop} {dN : Int32} {uU gF qF mX oE dY : Nat → Int32} {jE eW eY dU fY gJ jG nU pR uM : Int32} {tD : Nat → Int32} (xL : 0 ≤ Int32.toInt dN ∧ Int32.toInt dN ≤ 16) (aAC : -1 ≤ Int32.toInt fY ∧ Int32.toInt fY ≤ 7) (zK : 0 ≤ Int32.toInt jG ∧ Int32.toInt jG ≤ 9) (aAr : 0 ≤ Int32.toInt pR ∧ Int32.toInt pR ≤ 12) (aBy : 0 ≤ Int32.toInt uM ∧ Int32.toInt uM ≤ 12) (aBF : ∀ k : Nat, k % 8 = 4 → -1 ≤ Int32.toInt (tD k) ∧ Int32.toInt (tD k) ≤ 7) (aBG : ∀ k : Nat, k % 8 = 6 → 0 ≤ Int32.toInt (tD k) ∧ Int32.toInt (tD k) ≤ 9) (hpost : ∀ (r : Int32) (aGr : Int32) (aFB : Int32) (aFi : Int32) (aBa : Int32) (aEN : Int32) (aCN : Nat → Int32), (-2 ≤ Int32.toInt r ∧ Int32.toInt r ≤ 63) → (0 ≤ Int32.toInt aBa ∧ Int32.toInt aBa ≤ 12) → (0 ≤ Int32.toInt aEN ∧ Int32.toInt aEN ≤ 12) → (∀ k : Nat, k % 8 = 4 → -1 ≤ Int32.toInt (aCN k) ∧ Int32.toInt (aCN k) ≤ 7) → (∀ k : Nat, k % 8 = 6 → 0 ≤ Int32.toInt (aCN k) ∧ Int32.toInt (aCN k) ≤ 9) → post r aGr aFB aFi aBa aEN aCN) : wp_X9_shake post dN uU gF qF mX oE dY jE eW eY dU fY gJ jG nU pR uM tD := by
  have l0 := aE0
  have l1 := aEc
  have l2 := li_104
  have l3 := li_12
  have l4 := li_13
  have l5 := li_2
  have l6 := li_3
  have l7 := li_4
  have l8 := li_5
  have l9 := li_6
  have l10 := li_7
  have l11 := li_8
  intro v1 ev1
  have f2 : Int32.toInt (uM * 8) = Int32.toInt uM * 8 := ta_mulc _ _ (by decide) (by omega)
  rw [← ev1] at f2
  refine And.intro (fun c3 => ?_) (fun c3 => ?_)
  · skip
    have c3 := (aAd _ _).mp c3
    exfalso; omega
  · skip
    have c3 := mt (aAd _ _).mpr c3
    have f5 : Int32.toInt (104 - 8) = Int32.toInt (104 : Int32) - Int32.toInt (8 : Int32) := aCA _ _ (by omega)
    refine And.intro (fun c4 => ?_) (fun c4 => ?_)
    · skip
      have c4 := (aAO _ _).mp c4
      refine And.intro (aBZ (by omega)) ?_
      have f7 := aAT jE
      have e6 : ∀ k : Nat, k % 8 = 4 → -1 ≤ Int32.toInt ((upd tD v1.toNatClampNeg jE) k) ∧ Int32.toInt ((upd tD v1.toNatClampNeg jE) k) ≤ 7 := aCJ (C := fun k => k % 8 = 4) aBF (fun hk => by have e9 : v1.toNatClampNeg = (Int32.toInt v1).toNat := rfl; have hk : v1.toNatClampNeg % 8 = 4 := hk; omega)
      have e8 : ∀ k : Nat, k % 8 = 6 → 0 ≤ Int32.toInt ((upd tD v1.toNatClampNeg jE) k) ∧ Int32.toInt ((upd tD v1.toNatClampNeg jE) k) ≤ 9 := aCJ (C := fun k => k % 8 = 6) aBG (fun hk => by have e9 : v1.toNatClampNeg = (Int32.toInt v1).toNat := rfl; have hk : v1.toNatClampNeg % 8 = 6 := hk; omega)
      intro v9 ev9
      have f10 : Int32.toInt (v1 + 1) = Int32.toInt v1 + Int32.toInt (1 : Int32) := aAD _ _ (by omega)
      rw [← ev9] at f10
      refine And.intro (aBZ (by omega)) ?_
      have f12 := aAT eW
      have e11 : ∀ k : Nat, k % 8 = 4 → -1 ≤ Int32.toInt ((upd (upd tD v1.toNatClampNeg jE) v9.toNatClampNeg eW) k) ∧ Int32.toInt ((upd (upd tD v1.toNatClampNeg jE) v9.toNatClampNeg eW) k) ≤ 7 := aCJ (C := fun k => k % 8 = 4) e6 (fun hk => by have e9 : v9.toNatClampNeg = (Int32.toInt v9).toNat := rfl; have hk : v9.toNatClampNeg % 8 = 4 := hk; omega)
      have e13 : ∀ k : Nat, k % 8 = 6 → 0 ≤ Int32.toInt ((upd (upd tD v1.toNatClampNeg jE) v9.toNatClampNeg eW) k) ∧ Int32.toInt ((upd (upd tD v1.toNatClampNeg jE) v9.toNatClampNeg eW) k) ≤ 9 := aCJ (C := fun k => k % 8 = 6) e8 (fun hk => by have e9 : v9.toNatClampNeg = (Int32.toInt v9).toNat := rfl; have hk : v9.toNatClampNeg % 8 = 6 := hk; omega)
      intro v14 ev14
      have f15 : Int32.toInt (v1 + 2) = Int32.toInt v1 + Int32.toInt (2 : Int32) := aAD _ _ (by omega)
      rw [← ev14] at f15
      refine And.intro (aBZ (by omega)) ?_
      have f17 := aAT eY
      have e16 : ∀ k : Nat, k % 8 = 4 → -1 ≤ Int32.toInt ((upd (upd (upd tD v1.toNatClampNeg jE) v9.toNatClampNeg eW) v14.toNatClampNeg eY) k) ∧ Int32.toInt ((upd (upd (upd tD v1.toNatClampNeg jE) v9.toNatClampNeg eW) v14.toNatClampNeg eY) k) ≤ 7 := aCJ (C := fun k => k % 8 = 4) e11 (fun hk => by have e9 : v14.toNatClampNeg = (Int32.toInt v14).toNat := rfl; have hk : v14.toNatClampNeg % 8 = 4 := hk; omega)
      have e18 : ∀ k : Nat, k % 8 = 6 → 0 ≤ Int32.toInt ((upd (upd (upd tD v1.toNatClampNeg jE) v9.toNatClampNeg eW) v14.toNatClampNeg eY) k) ∧ Int32.toInt ((upd (upd (upd tD v1.toNatClampNeg jE) v9.toNatClampNeg eW) v14.toNatClampNeg eY) k) ≤ 9 := aCJ (C := fun k => k % 8 = 6) e13 (fun hk => by have e9 : v14.toNatClampNeg = (Int32.toInt v14).toNat := rfl; have hk : v14.toNatClampNeg % 8 = 6 := hk; omega)
      intro v19 ev19
      have f20 : Int32.toInt (v1 + 3) = Int32.toInt v1 + Int32.toInt (3 : Int32) := aAD _ _ (by omega)
      rw [← ev19] at f20
      refine And.intro (aBZ (by omega)) ?_
      have f22 := aAT dU
      have e21 : ∀ k : Nat, k % 8 = 4 → -1 ≤ Int32.toInt ((upd (upd (upd (upd tD v1.toNatClampNeg jE) v9.toNatClampNeg eW) v14.toNatClampNeg eY) v19.toNatClampNeg dU) k) ∧ Int32.toInt ((upd (upd (upd (upd tD v1.toNatClampNeg jE) v9.toNatClampNeg eW) v14.toNatClampNeg eY) v19.toNatClampNeg dU) k) ≤ 7 := aCJ (C := fun k => k % 8 = 4) e16 (fun hk => by have e9 : v19.toNatClampNeg = (Int32.toInt v19).toNat := rfl; have hk : v19.toNatClampNeg % 8 = 4 := hk; omega)
      have e23 : ∀ k : Nat, k % 8 = 6 → 0 ≤ Int32.toInt ((upd (upd (upd (upd tD v1.toNatClampNeg jE) v9.toNatClampNeg eW) v14.toNatClampNeg eY) v19.toNatClampNeg dU) k) ∧ Int32.toInt ((upd (upd (upd (upd tD v1.toNatClampNeg jE) v9.toNatClampNeg eW) v14.toNatClampNeg eY) v19.toNatClampNeg dU) k) ≤ 9 := aCJ (C := fun k => k % 8 = 6) e18 (fun hk => by have e9 : v19.toNatClampNeg = (Int32.toInt v19).toNat := rfl; have hk : v19.toNatClampNeg % 8 = 6 := hk; omega)
      intro v24 ev24
      have f25 : Int32.toInt (v1 + 4) = Int32.toInt v1 + Int32.toInt (4 : Int32) := aAD _ _ (by omega)
      rw [← ev24] at f25
      refine And.intro (aBZ (by omega)) ?_
      have e26 : ∀ k : Nat, k % 8 = 4 → -1 ≤ Int32.toInt ((upd (upd (upd (upd (upd tD v1.toNatClampNeg jE) v9.toNatClampNeg eW) v14.toNatClampNeg eY) v19.toNatClampNeg dU) v24.toNatClampNeg fY) k) ∧ Int32.toInt ((upd (upd (upd (upd (upd tD v1.toNatClampNeg jE) v9.toNatClampNeg eW) v14.toNatClampNeg eY) v19.toNatClampNeg dU) v24.toNatClampNeg fY) k) ≤ 7 := aCJ (C := fun k => k % 8 = 4) e21 (fun hk => by have e9 : v24.toNatClampNeg = (Int32.toInt v24).toNat := rfl; have hk : v24.toNatClampNeg % 8 = 4 := hk; omega)
      have e27 : ∀ k : Nat, k % 8 = 6 → 0 ≤ Int32.toInt ((upd (upd (upd (upd (upd tD v1.toNatClampNeg jE) v9.toNatClampNeg eW) v14.toNatClampNeg eY) v19.toNatClampNeg dU) v24.toNatClampNeg fY) k) ∧ Int32.toInt ((upd (upd (upd (upd (upd tD v1.toNatClampNeg jE) v9.toNatClampNeg eW) v14.toNatClampNeg eY) v19.toNatClampNeg dU) v24.toNatClampNeg fY) k) ≤ 9 := aCJ (C := fun k => k % 8 = 6) e23 (fun hk => by have e9 : v24.toNatClampNeg = (Int32.toInt v24).toNat := rfl; have hk : v24.toNatClampNeg % 8 = 6 := hk; omega)
      intro v28 ev28
      have f29 : Int32.toInt (v1 + 5) = Int32.toInt v1 + Int32.toInt (5 : Int32) := aAD _ _ (by omega)
      rw [← ev28] at f29
      refine And.intro (aBZ (by omega)) ?_
      have f31 := aAT gJ
      have e30 : ∀ k : Nat, k % 8 = 4 → -1 ≤ Int32.toInt ((upd (upd (upd (upd (upd (upd tD v1.toNatClampNeg jE) v9.toNatClampNeg eW) v14.toNatClampNeg eY) v19.toNatClampNeg dU) v24.toNatClampNeg fY) v28.toNatClampNeg gJ) k) ∧ Int32.toInt ((upd (upd (upd (upd (upd (upd tD v1.toNatClampNeg jE) v9.toNatClampNeg eW) v14.toNatClampNeg eY) v19.toNatClampNeg dU) v24.toNatClampNeg fY) v28.toNatClampNeg gJ) k) ≤ 7 := aCJ (C := fun k => k % 8 = 4) e26 (fun hk => by have e9 : v28.toNatClampNeg = (Int32.toInt v28).toNat := rfl; have hk : v28.toNatClampNeg % 8 = 4 := hk; omega)
      have e32 : ∀ k : Nat, k % 8 = 6 → 0 ≤ Int32.toInt ((upd (upd (upd (upd (upd (upd tD v1.toNatClampNeg jE) v9.toNatClampNeg eW) v14.toNatClampNeg eY) v19.toNatClampNeg dU) v24.toNatClampNeg fY) v28.toNatClampNeg gJ) k) ∧ Int32.toInt ((upd (upd (upd (upd (upd (upd tD v1.toNatClampNeg jE) v9.toNatClampNeg eW) v14.toNatClampNeg eY) v19.toNatClampNeg dU) v24.toNatClampNeg fY) v28.toNatClampNeg gJ) k) ≤ 9 := aCJ (C := fun k => k % 8 = 6) e27 (fun hk => by have e9 : v28.toNatClampNeg = (Int32.toInt v28).toNat := rfl; have hk : v28.toNatClampNeg % 8 = 6 := hk; omega)
      intro v33 ev33
      have f34 : Int32.toInt (v1 + 6) = Int32.toInt v1 + Int32.toInt (6 : Int32) := aAD _ _ (by omega)
      rw [← ev33] at f34
      refine And.intro (aBZ (by omega)) ?_
      have e35 : ∀ k : Nat, k % 8 = 4 → -1 ≤ Int32.toInt ((upd (upd (upd (upd (upd (upd (upd tD v1.toNatClampNeg jE) v9.toNatClampNeg eW) v14.toNatClampNeg eY) v19.toNatClampNeg dU) v24.toNatClampNeg fY) v28.toNatClampNeg gJ) v33.toNatClampNeg jG) k) ∧ Int32.toInt ((upd (upd (upd (upd (upd (upd (upd tD v1.toNatClampNeg jE) v9.toNatClampNeg eW) v14.toNatClampNeg eY) v19.toNatClampNeg dU) v24.toNatClampNeg fY) v28.toNatClampNeg gJ) v33.toNatClampNeg jG) k) ≤ 7 := aCJ (C := fun k => k % 8 = 4) e30 (fun hk => by have e9 : v33.toNatClampNeg = (Int32.toInt v33).toNat := rfl; have hk : v33.toNatClampNeg % 8 = 4 := hk; omega)
      have e36 : ∀ k : Nat, k % 8 = 6 → 0 ≤ Int32.toInt ((upd (upd (upd (upd (upd (upd (upd tD v1.toNatClampNeg jE) v9.toNatClampNeg eW) v14.toNatClampNeg eY) v19.toNatClampNeg dU) v24.toNatClampNeg fY) v28.toNatClampNeg gJ) v33.toNatClampNeg jG) k) ∧ Int32.toInt ((upd (upd (upd (upd (upd (upd (upd tD v1.toNatClampNeg jE) v9.toNatClampNeg eW) v14.toNatClampNeg eY) v19.toNatClampNeg dU) v24.toNatClampNeg fY) v28.toNatClampNeg gJ) v33.toNatClampNeg jG) k) ≤ 9 := aCJ (C := fun k => k % 8 = 6) e32 (fun hk => by have e9 : v33.toNatClampNeg = (Int32.toInt v33).toNat := rfl; have hk : v33.toNatClampNeg % 8 = 6 := hk; omega)
      intro v37 ev37
      have f38 : Int32.toInt (v1 + 7) = Int32.toInt v1 + Int32.toInt (7 : Int32) := aAD _ _ (by omega)
      rw [← ev37] at f38
      refine And.intro (aBZ (by omega)) ?_
      have f40 := aAT nU
      have e39 : ∀ k : Nat, k % 8 = 4 → -1 ≤ Int32.toInt ((upd (upd (upd (upd (upd (upd (upd (upd tD v1.toNatClampNeg jE) v9.toNatClampNeg eW) v14.toNatClampNeg eY) v19.toNatClampNeg dU) v24.toNatClampNeg fY) v28.toNatClampNeg gJ) v33.toNatClampNeg jG) v37.toNatClampNeg nU) k) ∧ Int32.toInt ((upd (upd (upd (upd (upd (upd (upd (upd tD v1.toNatClampNeg jE) v9.toNatClampNeg eW) v14.toNatClampNeg eY) v19.toNatClampNeg dU) v24.toNatClampNeg fY) v28.toNatClampNeg gJ) v33.toNatClampNeg jG) v37.toNatClampNeg nU) k) ≤ 7 := aCJ (C := fun k => k % 8 = 4) e35 (fun hk => by have e9 : v37.toNatClampNeg = (Int32.toInt v37).toNat := rfl; have hk : v37.toNatClampNeg % 8 = 4 := hk; omega)
      have e41 : ∀ k : Nat, k % 8 = 6 → 0 ≤ Int32.toInt ((upd (upd (upd (upd (upd (upd (upd (upd tD v1.toNatClampNeg jE) v9.toNatClampNeg eW) v14.toNatClampNeg eY) v19.toNatClampNeg dU) v24.toNatClampNeg fY) v28.toNatClampNeg gJ) v33.toNatClampNeg jG) v37.toNatClampNeg nU) k) ∧ Int32.toInt ((upd (upd (upd (upd (upd (upd (upd (upd tD v1.toNatClampNeg jE) v9.toNatClampNeg eW) v14.toNatClampNeg eY) v19.toNatClampNeg dU) v24.toNatClampNeg fY) v28.toNatClampNeg gJ) v33.toNatClampNeg jG) v37.toNatClampNeg nU) k) ≤ 9 := aCJ (C := fun k => k % 8 = 6) e36 (fun hk => by have e9 : v37.toNatClampNeg = (Int32.toInt v37).toNat := rfl; have hk : v37.toNatClampNeg % 8 = 6 := hk; omega)
      refine t_X0_shakeTree xL aAC zK (fun r45 no_ground_42 no_bruised_43 no_clock_44 h_r45 => ?_)
      refine And.intro (fun c46 => ?_) (fun c46 => ?_)
      · skip
        have c46 := (aAd _ _).mp c46
        exact hpost _ _ _ _ _ _ _ h_r45 aAr aBy e39 e41
      · skip
        have c46 := mt (aAd _ _).mpr c46
        intro v47 ev47
        have f48 : Int32.toInt (uM + 1) = Int32.toInt uM + Int32.toInt (1 : Int32) := aAD _ _ (by omega)
        rw [← ev47] at f48
        intro v49 ev49
        have f50 : Int32.toInt (v47 - v47 / 13 * 13) = Int32.toInt v47 % 13 := ti_rem _ _ (by decide) (by omega) (by decide)
        rw [← ev49] at f50
        intro v51 ev51
        have f52 : Int32.toInt (pR + 1) = Int32.toInt pR + Int32.toInt (1 : Int32) := aAD _ _ (by omega)
        rw [← ev51] at f52
        intro v53 ev53
        have f54 := ti_min (12 : Int32) v51
        have hv53 := congrArg Int32.toInt ev53
        exact hpost _ _ _ _ _ _ _ h_r45 (by omega) (by omega) e39 e41
    · skip
      have c4 := mt (aAO _ _).mpr c4
      exfalso; omega
