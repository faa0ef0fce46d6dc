set_option maxHeartbeats 8000000 in
set_option maxRecDepth 200000 in
theorem ts_X3_waySeconds_67 {post : Int32 → Prop} {K21 : Int32 → Int32 → Int32 → Int32 → Int32 → Int32 → Prop} {n21 : Int} (bD : Int32) (mX dY : Nat → Int32) (wX : 0 ≤ Int32.toInt bD ∧ Int32.toInt bD ≤ 8) (hpost : ∀ (r : Int32) , post r) (hK21 : ∀ (x1 : Int32) (x2 : Int32) (x3 : Int32) (x4 : Int32) (x5 : Int32) (x6 : Int32), (-1 ≤ Int32.toInt x1 ∧ Int32.toInt x1 ≤ 7) → (0 ≤ Int32.toInt x2 ∧ Int32.toInt x2 ≤ 255) → (1 ≤ Int32.toInt x3 ∧ Int32.toInt x3 ≤ 63) → (-2147483648 ≤ Int32.toInt x4 ∧ Int32.toInt x4 ≤ 99) → (0 ≤ Int32.toInt x5 ∧ Int32.toInt x5 ≤ 2147483647) → (0 ≤ Int32.toInt x6 ∧ Int32.toInt x6 ≤ 8) → (8 - Int32.toInt x6 < n21) → K21 x1 x2 x3 x4 x5 x6) (x1 x2 x3 x4 x5 x6 : Int32) (aBK : -1 ≤ Int32.toInt x1 ∧ Int32.toInt x1 ≤ 7) (aBN : 0 ≤ Int32.toInt x2 ∧ Int32.toInt x2 ≤ 255) (aCH : 1 ≤ Int32.toInt x3 ∧ Int32.toInt x3 ≤ 63) (aDO : -2147483648 ≤ Int32.toInt x4 ∧ Int32.toInt x4 ≤ 99) (aF7 : 0 ≤ Int32.toInt x5 ∧ Int32.toInt x5 ≤ 2147483647) (h_x6 : 0 ≤ Int32.toInt x6 ∧ Int32.toInt x6 ≤ 7) (hn21 : 8 - Int32.toInt x6 ≤ n21) : ws_X3_waySeconds_67 post K21 bD mX dY x1 x2 x3 x4 x5 x6 := by
  have l0 := aEc
  intro v1 ev1
  have f2 : Int32.toInt (x6 + 1) = Int32.toInt x6 + Int32.toInt (1 : Int32) := aAD _ _ (by omega)
  rw [← ev1] at f2
  have f3 := aAT x4
  have f4 := aAT x5
  exact hK21 x1 x2 x3 x4 x5 v1 aBK aBN aCH aDO aF7 (by omega) (by omega)
set_option maxHeartbeats 8000000 in
set_option maxRecDepth 200000 in
theorem ts_X3_waySeconds_117 {post : Int32 → Prop} (bD : Int32) (mX dY : Nat → Int32) (wX : 0 ≤ Int32.toInt bD ∧ Int32.toInt bD ≤ 8) (hpost : ∀ (r : Int32) , post r) (x3 x6 : Int32) (aCH : 1 ≤ Int32.toInt x3 ∧ Int32.toInt x3 ≤ 63) : ws_X3_waySeconds_117 post bD mX dY x3 x6 := by
  have l0 := li_3
  have l1 := li_9
  intro v5 ev5
  have f6 : Int32.toInt (9 * x3) = Int32.toInt x3 * 9 := ta_cmul _ _ (by decide) (by omega)
  rw [← ev5] at f6
  intro v7 ev7
  have hv7 := congrArg Int32.toInt ev7
  exact hpost _ 
set_option maxHeartbeats 8000000 in
set_option maxRecDepth 200000 in
theorem ts_X3_waySeconds_21 {post : Int32 → Prop} {next : Int32 → Int32 → Int32 → Int32 → Int32 → Int32 → Prop} {n21 : Int} (bD : Int32) (mX dY : Nat → Int32) (wX : 0 ≤ Int32.toInt bD ∧ Int32.toInt bD ≤ 8) (hpost : ∀ (r : Int32) , post r) (hKn : ∀ (x1 : Int32) (x2 : Int32) (x3 : Int32) (x4 : Int32) (x5 : Int32) (x6 : Int32), (-1 ≤ Int32.toInt x1 ∧ Int32.toInt x1 ≤ 7) → (0 ≤ Int32.toInt x2 ∧ Int32.toInt x2 ≤ 255) → (1 ≤ Int32.toInt x3 ∧ Int32.toInt x3 ≤ 63) → (-2147483648 ≤ Int32.toInt x4 ∧ Int32.toInt x4 ≤ 99) → (0 ≤ Int32.toInt x5 ∧ Int32.toInt x5 ≤ 2147483647) → (0 ≤ Int32.toInt x6 ∧ Int32.toInt x6 ≤ 8) → (8 - Int32.toInt x6 < n21) → next x1 x2 x3 x4 x5 x6) (x1 x2 x3 x4 x5 x6 : Int32) (aBK : -1 ≤ Int32.toInt x1 ∧ Int32.toInt x1 ≤ 7) (aBN : 0 ≤ Int32.toInt x2 ∧ Int32.toInt x2 ≤ 255) (aCH : 1 ≤ Int32.toInt x3 ∧ Int32.toInt x3 ≤ 63) (aDO : -2147483648 ≤ Int32.toInt x4 ∧ Int32.toInt x4 ≤ 99) (aF7 : 0 ≤ Int32.toInt x5 ∧ Int32.toInt x5 ≤ 2147483647) (h_x6 : 0 ≤ Int32.toInt x6 ∧ Int32.toInt x6 ≤ 8) (hn21 : 8 - Int32.toInt x6 ≤ n21) : ws_X3_waySeconds_21 post next bD mX dY x1 x2 x3 x4 x5 x6 := by
  have l0 := aI2
  have l1 := aE0
  have l2 := aEc
  refine And.intro (fun c9 => ?_) (fun c9 => ?_)
  · skip
    have c9 := (aAO _ _).mp c9
    intro v10 ev10
    have hv10 := congrArg Int32.toInt ev10
    refine And.intro (fun c12 => ?_) (fun c12 => ?_)
    · skip
      have c12 := (zJ _ _).mp c12
      have f13 := aAT v10
      exact ts_X3_waySeconds_117 bD mX dY wX hpost x3 v10 aCH
    · skip
      have c12 := mt (zJ _ _).mpr c12
      refine And.intro (aBZ (by omega)) ?_
      intro v14 ev14
      have hv14 := congrArg Int32.toInt ev14
      intro v16 ev16
      have hv16 := congrArg Int32.toInt ev16
      intro v18 ev18
      have hv18 := congrArg Int32.toInt ev18
      refine And.intro (aBZ (by omega)) ?_
      intro v20 ev20
      have hv20 := congrArg Int32.toInt ev20
      intro v21 ev21
      have hv21 := congrArg Int32.toInt ev21
      intro v23 ev23
      have hv23 := congrArg Int32.toInt ev23
      intro v25 ev25
      have f27 := aAT v18
      have f28 := aAT v23
      have f26 := ti_min v18 v23
      have hv25 := congrArg Int32.toInt ev25
      intro v29 ev29
      have hv29 := congrArg Int32.toInt ev29
      have f31 := aAT v29
      exact ts_X3_waySeconds_117 bD mX dY wX hpost x3 v29 aCH
  · skip
    have c9 := mt (aAO _ _).mpr c9
    intro v32 ev32
    have f33 := aRJ x2 x6 (by omega)
    have hv32 := congrArg Int32.toInt ev32
    have f35 := aAQ v32 1 (by omega)
    have f36 := aBx v32 1 (by omega)
    refine And.intro (fun c34 => ?_) (fun c34 => ?_)
    · skip
      have c34 := (zJ _ _).mp c34
      have f37 := aAT x4
      have f38 := aAT x5
      exact ts_X3_waySeconds_67 bD mX dY wX hpost hKn x1 x2 x3 x4 x5 x6 aBK aBN aCH aDO aF7 (by omega) hn21
    · skip
      have c34 := mt (zJ _ _).mpr c34
      refine And.intro (aBZ (by omega)) ?_
      intro v39 ev39
      have hv39 := congrArg Int32.toInt ev39
      intro v41 ev41
      have f42 := aAT (if v39 < x4 then v39 else x4)
      have f44 := aAT x4
      have f45 := aAT v39
      have f43 := ti_min x4 v39
      have hv41 := congrArg Int32.toInt ev41
      refine And.intro (aBZ (by omega)) ?_
      intro v46 ev46
      have hv46 := congrArg Int32.toInt ev46
      intro v47 ev47
      have f48 := aAT (if x5 < v46 then v46 else x5)
      have f50 := aAT x5
      have f51 := aAT v46
      have f49 := ti_max x5 v46
      have hv47 := congrArg Int32.toInt ev47
      have f52 := aAT v41
      have f53 := aAT v47
      exact ts_X3_waySeconds_67 bD mX dY wX hpost hKn x1 x2 x3 v41 v47 x6 aBK aBN aCH (by omega) (by omega) (by omega) hn21
set_option maxHeartbeats 8000000 in
set_option maxRecDepth 200000 in
theorem tb_X3_waySeconds_21 {post : Int32 → Prop} (bD : Int32) (mX dY : Nat → Int32) (wX : 0 ≤ Int32.toInt bD ∧ Int32.toInt bD ≤ 8) (hpost : ∀ (r : Int32) , post r) : ∀ (n : Nat) (x1 x2 x3 x4 x5 x6 : Int32), (-1 ≤ Int32.toInt x1 ∧ Int32.toInt x1 ≤ 7) → (0 ≤ Int32.toInt x2 ∧ Int32.toInt x2 ≤ 255) → (1 ≤ Int32.toInt x3 ∧ Int32.toInt x3 ≤ 63) → (-2147483648 ≤ Int32.toInt x4 ∧ Int32.toInt x4 ≤ 99) → (0 ≤ Int32.toInt x5 ∧ Int32.toInt x5 ≤ 2147483647) → (0 ≤ Int32.toInt x6 ∧ Int32.toInt x6 ≤ 8) → (8 - Int32.toInt x6 < (n : Int)) → wb_X3_waySeconds_21 post bD mX dY n x1 x2 x3 x4 x5 x6 := by
  intro n
  induction n with
  | zero =>
    intro x1 x2 x3 x4 x5 x6 aBK aBN aCH aDO aF7 h_x6 hm
    exfalso; omega
  | succ n ih =>
    intro x1 x2 x3 x4 x5 x6 aBK aBN aCH aDO aF7 h_x6 hm
    exact ts_X3_waySeconds_21 bD mX dY wX hpost ih x1 x2 x3 x4 x5 x6 aBK aBN aCH aDO aF7 h_x6 (by omega)
set_option maxHeartbeats 8000000 in
set_option maxRecDepth 200000 in
theorem t_X3_waySeconds {post : Int32 → Prop} {p0 p1 bD : Int32} {mX dY : Nat → Int32} (h_p0 : -1 ≤ Int32.toInt p0 ∧ Int32.toInt p0 ≤ 7) (h_p1 : 0 ≤ Int32.toInt p1 ∧ Int32.toInt p1 ≤ 255) (wX : 0 ≤ Int32.toInt bD ∧ Int32.toInt bD ≤ 8) (hpost : ∀ (r : Int32) , post r) : wp_X3_waySeconds post p0 p1 bD mX dY := by
  have l0 := aE0
  have l1 := aKH
  have l2 := aJ8
  have l3 := li_63
  have l4 := aJ9
  have l5 := li_99
  intro v54 ev54
  intro v55 ev55
  have f57 := aAQ v54 1431655765 (by omega)
  have f56 : Int32.toInt (p1 - (v54 &&& 1431655765)) = Int32.toInt p1 - Int32.toInt (v54 &&& 1431655765) := aCA _ _ (by omega)
  rw [← ev55] at f56
  intro v58 ev58
  have f59 := aAQ v55 858993459 (by omega)
  have hv58 := congrArg Int32.toInt ev58
  intro v60 ev60
  intro v61 ev61
  have f63 := aAQ v60 858993459 (by omega)
  have f62 : Int32.toInt (v58 + (v60 &&& 858993459)) = Int32.toInt v58 + Int32.toInt (v60 &&& 858993459) := aAD _ _ (by omega)
  rw [← ev61] at f62
  intro v64 ev64
  have hv64 := congrArg Int32.toInt ev64
  intro v66 ev66
  have f67 := aAQ v64 252645135 (by omega)
  have hv66 := congrArg Int32.toInt ev66
  intro v68 ev68
  have hv68 := congrArg Int32.toInt ev68
  intro v70 ev70
  have hv70 := congrArg Int32.toInt ev70
  have f73 := aAQ v70 63 (by omega)
  refine And.intro (fun c72 => ?_) (fun c72 => ?_)
  · skip
    have c72 := mt (zJ _ _).mpr c72
    exact ⟨10, tb_X3_waySeconds_21 bD mX dY wX hpost _ p0 p1 (v70 &&& 63) 99 0 0 h_p0 h_p1 (by omega) (by omega) (by omega) (by omega) (by omega)⟩
  · skip
    have c72 := (zJ _ _).mp c72
    exact hpost _ 
set_option maxHeartbeats 8000000 in
set_option maxRecDepth 200000 in
theorem ts_X3_firstOfWay_50 {post : Int32 → Prop} {K3 : Int32 → Int32 → Int32 → Int32 → Prop} {n3 : Int} (bD : Int32) (mX dY : Nat → Int32) (wX : 0 ≤ Int32.toInt bD ∧ Int32.toInt bD ≤ 8) (hpost : ∀ (r : Int32) , (-1 ≤ Int32.toInt r ∧ Int32.toInt r ≤ 7) → post r) (hK3 : ∀ (x1 : Int32) (x2 : Int32) (x3 : Int32) (x4 : Int32), (-1 ≤ Int32.toInt x1 ∧ Int32.toInt x1 ≤ 7) → (1 ≤ Int32.toInt x2 ∧ Int32.toInt x2 ≤ 255) → (0 ≤ Int32.toInt x4 ∧ Int32.toInt x4 ≤ 8) → (8 - Int32.toInt x4 < n3) → K3 x1 x2 x3 x4) (x1 x2 x3 x4 : Int32) (aBK : -1 ≤ Int32.toInt x1 ∧ Int32.toInt x1 ≤ 7) (aBN : 1 ≤ Int32.toInt x2 ∧ Int32.toInt x2 ≤ 255) (aDO : 0 ≤ Int32.toInt x4 ∧ Int32.toInt x4 ≤ 7) (hn3 : 8 - Int32.toInt x4 ≤ n3) : ws_X3_firstOfWay_50 post K3 bD mX dY x1 x2 x3 x4 := by
  have l0 := aEc
  intro v1 ev1
  have f2 : Int32.toInt (x4 + 1) = Int32.toInt x4 + Int32.toInt (1 : Int32) := aAD _ _ (by omega)
  rw [← ev1] at f2
  have f3 := aAT x3
  exact hK3 x1 x2 x3 v1 aBK aBN (by omega) (by omega)
set_option maxHeartbeats 8000000 in
set_option maxRecDepth 200000 in
theorem ts_X3_firstOfWay_3 {post : Int32 → Prop} {next : Int32 → Int32 → Int32 → Int32 → Prop} {n3 : Int} (bD : Int32) (mX dY : Nat → Int32) (wX : 0 ≤ Int32.toInt bD ∧ Int32.toInt bD ≤ 8) (hpost : ∀ (r : Int32) , (-1 ≤ Int32.toInt r ∧ Int32.toInt r ≤ 7) → post r) (hKn : ∀ (x1 : Int32) (x2 : Int32) (x3 : Int32) (x4 : Int32), (-1 ≤ Int32.toInt x1 ∧ Int32.toInt x1 ≤ 7) → (1 ≤ Int32.toInt x2 ∧ Int32.toInt x2 ≤ 255) → (0 ≤ Int32.toInt x4 ∧ Int32.toInt x4 ≤ 8) → (8 - Int32.toInt x4 < n3) → next x1 x2 x3 x4) (x1 x2 x3 x4 : Int32) (aBK : -1 ≤ Int32.toInt x1 ∧ Int32.toInt x1 ≤ 7) (aBN : 1 ≤ Int32.toInt x2 ∧ Int32.toInt x2 ≤ 255) (aDO : 0 ≤ Int32.toInt x4 ∧ Int32.toInt x4 ≤ 8) (hn3 : 8 - Int32.toInt x4 ≤ n3) : ws_X3_firstOfWay_3 post next bD mX dY x1 x2 x3 x4 := by
  have l0 := aI2
  have l1 := aE0
  have l2 := aEc
  have l3 := li_3
  refine And.intro (fun c4 => ?_) (fun c4 => ?_)
  · skip
    have c4 := (aAO _ _).mp c4
    exact hpost _ (by omega)
  · skip
    have c4 := mt (aAO _ _).mpr c4
    intro v5 ev5
    have f6 := aRJ x2 x4 (by omega)
    have hv5 := congrArg Int32.toInt ev5
    have f8 := aAQ v5 1 (by omega)
    have f9 := aBx v5 1 (by omega)
    refine And.intro (fun c7 => ?_) (fun c7 => ?_)
    · skip
      have c7 := (zJ _ _).mp c7
      have f10 := aAT x3
      exact ts_X3_firstOfWay_50 bD mX dY wX hpost hKn x1 x2 x3 x4 aBK aBN (by omega) hn3
    · skip
      have c7 := mt (zJ _ _).mpr c7
      refine And.intro (fun c11 => ?_) (fun c11 => ?_)
      · skip
        have c11 := mt (zJ _ _).mpr c11
        intro v12 ev12
        have hv12 := congrArg Int32.toInt ev12
        refine And.intro (aBZ (by omega)) ?_
        intro v14 ev14
        have hv14 := congrArg Int32.toInt ev14
        refine And.intro (aBZ (by omega)) ?_
        intro v16 ev16
        have hv16 := congrArg Int32.toInt ev16
        intro v18 ev18
        have hv18 := congrArg Int32.toInt ev18
        intro v20 ev20
        have f21 := aDv 7 128 x4 (by decide) (by omega)
        have hv20 := congrArg Int32.toInt ev20
        intro v22 ev22
        have f24 := aBx x2 (v20 ^^^ (-1)) (by omega)
        have hv22 := congrArg Int32.toInt ev22
        refine t_X3_waySeconds (by omega) (by omega) wX (fun r25 => ?_)
        intro v26 ev26
        have hv26 := congrArg Int32.toInt ev26
        have f29 := aAT v26
        have f30 := aAT x3
        refine And.intro (fun c28 => ?_) (fun c28 => ?_)
        · skip
          have c28 := mt (zJ _ _).mpr c28
          exact ts_X3_firstOfWay_50 bD mX dY wX hpost hKn x1 x2 x3 x4 aBK aBN (by omega) hn3
        · skip
          have c28 := (zJ _ _).mp c28
          exact hpost _ (by omega)
      · skip
        have c11 := (zJ _ _).mp c11
        intro v31 ev31
        have f32 := aDv 7 128 x4 (by decide) (by omega)
        have hv31 := congrArg Int32.toInt ev31
        intro v33 ev33
        have f35 := aBx x2 (v31 ^^^ (-1)) (by omega)
        have hv33 := congrArg Int32.toInt ev33
        refine t_X3_waySeconds (by omega) (by omega) wX (fun r36 => ?_)
        intro v37 ev37
        have hv37 := congrArg Int32.toInt ev37
        have f40 := aAT v37
        have f41 := aAT x3
        refine And.intro (fun c39 => ?_) (fun c39 => ?_)
        · skip
          have c39 := mt (zJ _ _).mpr c39
          exact ts_X3_firstOfWay_50 bD mX dY wX hpost hKn x1 x2 x3 x4 aBK aBN (by omega) hn3
        · skip
          have c39 := (zJ _ _).mp c39
          exact hpost _ (by omega)
set_option maxHeartbeats 8000000 in
set_option maxRecDepth 200000 in
theorem tb_X3_firstOfWay_3 {post : Int32 → Prop} (bD : Int32) (mX dY : Nat → Int32) (wX : 0 ≤ Int32.toInt bD ∧ Int32.toInt bD ≤ 8) (hpost : ∀ (r : Int32) , (-1 ≤ Int32.toInt r ∧ Int32.toInt r ≤ 7) → post r) : ∀ (n : Nat) (x1 x2 x3 x4 : Int32), (-1 ≤ Int32.toInt x1 ∧ Int32.toInt x1 ≤ 7) → (1 ≤ Int32.toInt x2 ∧ Int32.toInt x2 ≤ 255) → (0 ≤ Int32.toInt x4 ∧ Int32.toInt x4 ≤ 8) → (8 - Int32.toInt x4 < (n : Int)) → wb_X3_firstOfWay_3 post bD mX dY n x1 x2 x3 x4 := by
  intro n
  induction n with
  | zero =>
    intro x1 x2 x3 x4 aBK aBN aDO hm
    exfalso; omega
  | succ n ih =>
    intro x1 x2 x3 x4 aBK aBN aDO hm
    exact ts_X3_firstOfWay_3 bD mX dY wX hpost ih x1 x2 x3 x4 aBK aBN aDO (by omega)
set_option maxHeartbeats 8000000 in
set_option maxRecDepth 200000 in
theorem t_X3_firstOfWay {post : Int32 → Prop} {p0 p1 p2 bD : Int32} {mX dY : Nat → Int32} (h_p0 : -1 ≤ Int32.toInt p0 ∧ Int32.toInt p0 ≤ 7) (h_p1 : 1 ≤ Int32.toInt p1 ∧ Int32.toInt p1 ≤ 255) (wX : 0 ≤ Int32.toInt bD ∧ Int32.toInt bD ≤ 8) (hpost : ∀ (r : Int32) , (-1 ≤ Int32.toInt r ∧ Int32.toInt r ≤ 7) → post r) : wp_X3_firstOfWay post p0 p1 p2 bD mX dY := by
  have l0 := aE0
  have f42 := aAT p2
  exact ⟨10, tb_X3_firstOfWay_3 bD mX dY wX hpost _ p0 p1 p2 0 h_p0 h_p1 (by omega) (by omega)⟩
set_option maxHeartbeats 8000000 in
set_option maxRecDepth 200000 in
theorem ts_X9_route_55 {post : Int32 → Int32 → (Nat → Int32) → Prop} {next : Int32 → Int32 → Int32 → Int32 → Int32 → Int32 → (Nat → Int32) → Prop} {n55 : Int} (bD : Int32) (mX dY : Nat → Int32) (fY : Int32) (wX : 0 ≤ Int32.toInt bD ∧ Int32.toInt bD ≤ 8) (aAC : -1 ≤ Int32.toInt fY ∧ Int32.toInt fY ≤ 7) (hpost : ∀ (r : Int32) (zV : Int32) (aAV : Nat → Int32), (0 ≤ Int32.toInt zV ∧ Int32.toInt zV ≤ 16) → post r zV aAV) (hKn : ∀ (x2 : Int32) (x3 : Int32) (x4 : Int32) (x5 : Int32) (x6 : Int32) (qB : Int32) (jK : Nat → Int32), (0 ≤ Int32.toInt x2 ∧ Int32.toInt x2 ≤ 255) → (-1 ≤ Int32.toInt x3 ∧ Int32.toInt x3 ≤ 7) → (0 ≤ Int32.toInt x6 ∧ Int32.toInt x6 ≤ 8) → (0 ≤ Int32.toInt qB ∧ Int32.toInt qB ≤ 16) → (8 - Int32.toInt x6 < n55) → next x2 x3 x4 x5 x6 qB jK) (x2 x3 x4 x5 x6 qB : Int32) (jK : Nat → Int32) (aBN : 0 ≤ Int32.toInt x2 ∧ Int32.toInt x2 ≤ 255) (aCH : -1 ≤ Int32.toInt x3 ∧ Int32.toInt x3 ≤ 7) (h_x6 : 0 ≤ Int32.toInt x6 ∧ Int32.toInt x6 ≤ 8) (aAK : 0 ≤ Int32.toInt qB ∧ Int32.toInt qB ≤ 16) (hn55 : 8 - Int32.toInt x6 ≤ n55) : ws_X9_route_55 post next bD mX dY fY x2 x3 x4 x5 x6 qB jK := by
  have l0 := aI2
  have l1 := aE0
  have l2 := aEc
  have l3 := li_16
  have l4 := li_3
  have l5 := li_8
  refine And.intro (fun c1 => ?_) (fun c1 => ?_)
  · skip
    have c1 := (aAO _ _).mp c1
    exact hpost _ _ _ aAK
  · skip
    have c1 := mt (aAO _ _).mpr c1
    refine And.intro (fun c2 => ?_) (fun c2 => ?_)
    · skip
      have c2 := (zJ _ _).mp c2
      exact hpost _ _ _ aAK
    · skip
      have c2 := mt (zJ _ _).mpr c2
      refine t_X3_firstOfWay aCH (by omega) wX (fun r3 h_r3 => ?_)
      refine And.intro (fun c4 => ?_) (fun c4 => ?_)
      · skip
        have c4 := mt (zJ _ _).mpr c4
        refine And.intro (fun c5 => ?_) (fun c5 => ?_)
        · skip
          have c5 := (aAO _ _).mp c5
          refine And.intro (fun c6 => ?_) (fun c6 => ?_)
          · skip
            have c6 := mt (zJ _ _).mpr c6
            intro v7 ev7
            have hv7 := congrArg Int32.toInt ev7
            refine And.intro (aBZ (by omega)) ?_
            intro v9 ev9
            have hv9 := congrArg Int32.toInt ev9
            refine And.intro (aBZ (by omega)) ?_
            intro v11 ev11
            have hv11 := congrArg Int32.toInt ev11
            intro v13 ev13
            have hv13 := congrArg Int32.toInt ev13
            intro v15 ev15
            have hv15 := congrArg Int32.toInt ev15
            intro v17 ev17
            have f18 := aDv 7 128 r3 (by decide) (by omega)
            have hv17 := congrArg Int32.toInt ev17
            intro v19 ev19
            have f21 := aBx x2 (v17 ^^^ (-1)) (by omega)
            have hv19 := congrArg Int32.toInt ev19
            intro v22 ev22
            have f23 : Int32.toInt (x6 + 1) = Int32.toInt x6 + Int32.toInt (1 : Int32) := aAD _ _ (by omega)
            rw [← ev22] at f23
            have f24 := aAT x4
            have f25 := aAT v15
            exact hKn v19 r3 x4 v15 v22 qB jK (by omega) h_r3 (by omega) aAK (by omega)
          · skip
            have c6 := (zJ _ _).mp c6
            intro v26 ev26
            have hv26 := congrArg Int32.toInt ev26
            intro v28 ev28
            have f29 := aDv 7 128 r3 (by decide) (by omega)
            have hv28 := congrArg Int32.toInt ev28
            intro v30 ev30
            have f32 := aBx x2 (v28 ^^^ (-1)) (by omega)
            have hv30 := congrArg Int32.toInt ev30
            intro v33 ev33
            have f34 : Int32.toInt (x6 + 1) = Int32.toInt x6 + Int32.toInt (1 : Int32) := aAD _ _ (by omega)
            rw [← ev33] at f34
            have f35 := aAT x4
            have f36 := aAT v26
            exact hKn v30 r3 x4 v26 v33 qB jK (by omega) h_r3 (by omega) aAK (by omega)
        · skip
          have c5 := mt (aAO _ _).mpr c5
          refine And.intro (aBZ (by omega)) ?_
          intro v37 ev37
          have f38 : Int32.toInt (qB + 1) = Int32.toInt qB + Int32.toInt (1 : Int32) := aAD _ _ (by omega)
          rw [← ev37] at f38
          refine And.intro (fun c39 => ?_) (fun c39 => ?_)
          · skip
            have c39 := mt (zJ _ _).mpr c39
            intro v40 ev40
            have hv40 := congrArg Int32.toInt ev40
            refine And.intro (aBZ (by omega)) ?_
            intro v42 ev42
            have hv42 := congrArg Int32.toInt ev42
            refine And.intro (aBZ (by omega)) ?_
            intro v44 ev44
            have hv44 := congrArg Int32.toInt ev44
            intro v46 ev46
            have hv46 := congrArg Int32.toInt ev46
            intro v48 ev48
            have hv48 := congrArg Int32.toInt ev48
            intro v50 ev50
            have f51 := aDv 7 128 r3 (by decide) (by omega)
            have hv50 := congrArg Int32.toInt ev50
            intro v52 ev52
            have f54 := aBx x2 (v50 ^^^ (-1)) (by omega)
            have hv52 := congrArg Int32.toInt ev52
            intro v55 ev55
            have f56 : Int32.toInt (x6 + 1) = Int32.toInt x6 + Int32.toInt (1 : Int32) := aAD _ _ (by omega)
            rw [← ev55] at f56
            have f57 := aAT x4
            have f58 := aAT v48
            exact hKn v52 r3 x4 v48 v55 v37 (upd jK qB.toNatClampNeg r3) (by omega) h_r3 (by omega) (by omega) (by omega)
          · skip
            have c39 := (zJ _ _).mp c39
            intro v59 ev59
            have hv59 := congrArg Int32.toInt ev59
            intro v61 ev61
            have f62 := aDv 7 128 r3 (by decide) (by omega)
            have hv61 := congrArg Int32.toInt ev61
            intro v63 ev63
            have f65 := aBx x2 (v61 ^^^ (-1)) (by omega)
            have hv63 := congrArg Int32.toInt ev63
            intro v66 ev66
            have f67 : Int32.toInt (x6 + 1) = Int32.toInt x6 + Int32.toInt (1 : Int32) := aAD _ _ (by omega)
            rw [← ev66] at f67
            have f68 := aAT x4
            have f69 := aAT v59
            exact hKn v63 r3 x4 v59 v66 v37 (upd jK qB.toNatClampNeg r3) (by omega) h_r3 (by omega) (by omega) (by omega)
      · skip
        have c4 := (zJ _ _).mp c4
        exact hpost _ _ _ aAK
set_option maxHeartbeats 8000000 in
set_option maxRecDepth 200000 in
theorem tb_X9_route_55 {post : Int32 → Int32 → (Nat → Int32) → Prop} (bD : Int32) (mX dY : Nat → Int32) (fY : Int32) (wX : 0 ≤ Int32.toInt bD ∧ Int32.toInt bD ≤ 8) (aAC : -1 ≤ Int32.toInt fY ∧ Int32.toInt fY ≤ 7) (hpost : ∀ (r : Int32) (zV : Int32) (aAV : Nat → Int32), (0 ≤ Int32.toInt zV ∧ Int32.toInt zV ≤ 16) → post r zV aAV) : ∀ (n : Nat) (x2 x3 x4 x5 x6 qB : Int32) (jK : Nat → Int32), (0 ≤ Int32.toInt x2 ∧ Int32.toInt x2 ≤ 255) → (-1 ≤ Int32.toInt x3 ∧ Int32.toInt x3 ≤ 7) → (0 ≤ Int32.toInt x6 ∧ Int32.toInt x6 ≤ 8) → (0 ≤ Int32.toInt qB ∧ Int32.toInt qB ≤ 16) → (8 - Int32.toInt x6 < (n : Int)) → wb_X9_route_55 post bD mX dY fY n x2 x3 x4 x5 x6 qB jK := by
  intro n
  induction n with
  | zero =>
    intro x2 x3 x4 x5 x6 qB jK aBN aCH h_x6 aAK hm
    exfalso; omega
  | succ n ih =>
    intro x2 x3 x4 x5 x6 qB jK aBN aCH h_x6 aAK hm
    exact ts_X9_route_55 bD mX dY fY wX aAC hpost ih x2 x3 x4 x5 x6 qB jK aBN aCH h_x6 aAK (by omega)
set_option maxHeartbeats 8000000 in
set_option maxRecDepth 200000 in
theorem t_X9_route {post : Int32 → Int32 → (Nat → Int32) → Prop} {p0 bD : Int32} {mX dY : Nat → Int32} {fY qB : Int32} {jK : Nat → Int32} (wX : 0 ≤ Int32.toInt bD ∧ Int32.toInt bD ≤ 8) (aAC : -1 ≤ Int32.toInt fY ∧ Int32.toInt fY ≤ 7) (aAK : 0 ≤ Int32.toInt qB ∧ Int32.toInt qB ≤ 16) (hpost : ∀ (r : Int32) (zV : Int32) (aAV : Nat → Int32), (0 ≤ Int32.toInt zV ∧ Int32.toInt zV ≤ 16) → post r zV aAV) : wp_X9_route post p0 bD mX dY fY qB jK := by
  have l0 := aI2
  have l1 := aE0
  have l2 := aEc
  intro v70 ev70
  have f71 := aDv 8 256 bD (by decide) (by omega)
  have hv70 := congrArg Int32.toInt ev70
  refine And.intro (fun c72 => ?_) (fun c72 => ?_)
  · skip
    have c72 := mt (zJ _ _).mpr c72
    refine And.intro (fun h9 => absurd h9 (by decide)) (fun _ => ?_)
    exact hpost _ _ _ aAK
  · skip
    have c72Z := c72
    have c72 := (zJ _ _).mp c72
    have f74 : Int32.toInt (v70 - 1) = Int32.toInt v70 - Int32.toInt (1 : Int32) := aCA _ _ (by omega)
    have s75 := ti_subset p0 (v70 - 1) (c72Z) (by omega)
    refine And.intro (fun _ => ?_) (fun h9 => absurd h9 (by decide))
    refine And.intro (fun c76 => ?_) (fun c76 => ?_)
    · skip
      have c76 := mt (zJ _ _).mpr c76
      intro v77 ev77
      have f78 := aDv 7 128 fY (by decide) (by omega)
      have hv77 := congrArg Int32.toInt ev77
      have f81 := aBx p0 (v77 ^^^ (-1)) (by omega)
      refine t_X3_waySeconds aAC (by omega) wX (fun r79 => ?_)
      have f82 := aAT r79
      exact ⟨10, tb_X9_route_55 bD mX dY fY wX aAC hpost _ (p0 &&& (v77 ^^^ (-1))) fY r79 r79 0 0 jK (by omega) aAC (by omega) (by omega) (by omega)⟩
    · skip
      have c76 := (zJ _ _).mp c76
      refine t_X3_waySeconds aAC (by omega) wX (fun r83 => ?_)
      have f84 := aAT r83
      exact ⟨10, tb_X9_route_55 bD mX dY fY wX aAC hpost _ p0 fY r83 r83 0 0 jK (by omega) aAC (by omega) (by omega) (by omega)⟩
set_option maxHeartbeats 8000000 in
set_option maxRecDepth 200000 in
theorem ts_X5_timeAll_60 {post : (Nat → Int32) → (Nat → Int32) → (Nat → Int32) → Prop} {K2 : Int32 → (Nat → Int32) → (Nat → Int32) → (Nat → Int32) → Prop} {K15 : Int32 → Int32 → (Nat → Int32) → (Nat → Int32) → (Nat → Int32) → Prop} {n2 n15 : Int} (oY : Int32) (rD : Nat → Int32) (dN bD : Int32) (uU gF pL mX oE : Nat → Int32) (dU pQ : Int32) (pN : Nat → Int32) (aAE : 0 ≤ Int32.toInt oY ∧ Int32.toInt oY ≤ 65535) (zR : ∀ k : Nat, 0 ≤ Int32.toInt (rD k) ∧ Int32.toInt (rD k) ≤ 65535) (xL : 0 ≤ Int32.toInt dN ∧ Int32.toInt dN ≤ 16) (wX : 0 ≤ Int32.toInt bD ∧ Int32.toInt bD ≤ 8) (zU : 0 ≤ Int32.toInt pQ ∧ Int32.toInt pQ ≤ 40) (hpost : ∀ (aC9 : Nat → Int32) (aCG : Nat → Int32) (aB4 : Nat → Int32), (∀ k : Nat, 0 ≤ Int32.toInt (aC9 k) ∧ Int32.toInt (aC9 k) ≤ 99) → post aC9 aCG aB4) (hK2 : ∀ (x1 : Int32) (sG : Nat → Int32) (qY : Nat → Int32) (qU : Nat → Int32), (0 ≤ Int32.toInt x1 ∧ Int32.toInt x1 ≤ 16) → (∀ k : Nat, 0 ≤ Int32.toInt (sG k) ∧ Int32.toInt (sG k) ≤ 99) → (16 - Int32.toInt x1 < n2) → K2 x1 sG qY qU) (hK15 : ∀ (x1 : Int32) (x2 : Int32) (sG : Nat → Int32) (qY : Nat → Int32) (qU : Nat → Int32), (0 ≤ Int32.toInt x1 ∧ Int32.toInt x1 ≤ 15) → (0 ≤ Int32.toInt x2 ∧ Int32.toInt x2 ≤ 8) → (∀ k : Nat, 0 ≤ Int32.toInt (sG k) ∧ Int32.toInt (sG k) ≤ 99) → (16 - Int32.toInt x1 ≤ n2) → (8 - Int32.toInt x2 < n15) → K15 x1 x2 sG qY qU) (x1 x2 : Int32) (sG qY qU : Nat → Int32) (aBK : 0 ≤ Int32.toInt x1 ∧ Int32.toInt x1 ≤ 15) (aBN : 0 ≤ Int32.toInt x2 ∧ Int32.toInt x2 ≤ 7) (aAX : ∀ k : Nat, 0 ≤ Int32.toInt (sG k) ∧ Int32.toInt (sG k) ≤ 99) (hn2 : 16 - Int32.toInt x1 ≤ n2) (hn15 : 8 - Int32.toInt x2 ≤ n15) : ws_X5_timeAll_60 post K2 K15 oY rD dN bD uU gF pL mX oE dU pQ pN x1 x2 sG qY qU := by
  have l0 := aEc
  intro v1 ev1
  have f2 : Int32.toInt (x2 + 1) = Int32.toInt x2 + Int32.toInt (1 : Int32) := aAD _ _ (by omega)
  rw [← ev1] at f2
  exact hK15 x1 v1 sG qY qU aBK (by omega) aAX hn2 (by omega)
set_option maxHeartbeats 8000000 in
set_option maxRecDepth 200000 in
theorem ts_X5_timeAll_15 {post : (Nat → Int32) → (Nat → Int32) → (Nat → Int32) → Prop} {K2 : Int32 → (Nat → Int32) → (Nat → Int32) → (Nat → Int32) → Prop} {next : Int32 → Int32 → (Nat → Int32) → (Nat → Int32) → (Nat → Int32) → Prop} {n15 n2 : Int} (oY : Int32) (rD : Nat → Int32) (dN bD : Int32) (uU gF pL mX oE : Nat → Int32) (dU pQ : Int32) (pN : Nat → Int32) (aAE : 0 ≤ Int32.toInt oY ∧ Int32.toInt oY ≤ 65535) (zR : ∀ k : Nat, 0 ≤ Int32.toInt (rD k) ∧ Int32.toInt (rD k) ≤ 65535) (xL : 0 ≤ Int32.toInt dN ∧ Int32.toInt dN ≤ 16) (wX : 0 ≤ Int32.toInt bD ∧ Int32.toInt bD ≤ 8) (zU : 0 ≤ Int32.toInt pQ ∧ Int32.toInt pQ ≤ 40) (hpost : ∀ (aC9 : Nat → Int32) (aCG : Nat → Int32) (aB4 : Nat → Int32), (∀ k : Nat, 0 ≤ Int32.toInt (aC9 k) ∧ Int32.toInt (aC9 k) ≤ 99) → post aC9 aCG aB4) (hK2 : ∀ (x1 : Int32) (sG : Nat → Int32) (qY : Nat → Int32) (qU : Nat → Int32), (0 ≤ Int32.toInt x1 ∧ Int32.toInt x1 ≤ 16) → (∀ k : Nat, 0 ≤ Int32.toInt (sG k) ∧ Int32.toInt (sG k) ≤ 99) → (16 - Int32.toInt x1 < n2) → K2 x1 sG qY qU) (hKn : ∀ (x1 : Int32) (x2 : Int32) (sG : Nat → Int32) (qY : Nat → Int32) (qU : Nat → Int32), (0 ≤ Int32.toInt x1 ∧ Int32.toInt x1 ≤ 15) → (0 ≤ Int32.toInt x2 ∧ Int32.toInt x2 ≤ 8) → (∀ k : Nat, 0 ≤ Int32.toInt (sG k) ∧ Int32.toInt (sG k) ≤ 99) → (16 - Int32.toInt x1 ≤ n2) → (8 - Int32.toInt x2 < n15) → next x1 x2 sG qY qU) (x1 x2 : Int32) (sG qY qU : Nat → Int32) (aBK : 0 ≤ Int32.toInt x1 ∧ Int32.toInt x1 ≤ 15) (aBN : 0 ≤ Int32.toInt x2 ∧ Int32.toInt x2 ≤ 8) (aAX : ∀ k : Nat, 0 ≤ Int32.toInt (sG k) ∧ Int32.toInt (sG k) ≤ 99) (hn2 : 16 - Int32.toInt x1 ≤ n2) (hn15 : 8 - Int32.toInt x2 ≤ n15) : ws_X5_timeAll_15 post K2 next oY rD dN bD uU gF pL mX oE dU pQ pN x1 x2 sG qY qU := by
  have l0 := aE0
  have l1 := aEc
  have l2 := li_8
  refine And.intro (fun c3 => ?_) (fun c3 => ?_)
  · skip
    have c3 := (aAO _ _).mp c3
    intro v4 ev4
    have f5 : Int32.toInt (x1 + 1) = Int32.toInt x1 + Int32.toInt (1 : Int32) := aAD _ _ (by omega)
    rw [← ev4] at f5
    exact hK2 v4 sG qY qU (by omega) aAX (by omega)
  · skip
    have c3 := mt (aAO _ _).mpr c3
    refine And.intro (aBZ (by omega)) ?_
    intro v6 ev6
    have f9 := zR x2.toNatClampNeg
    have f8 := aAQ oY (rD x2.toNatClampNeg) (by omega)
    have f10 := aBx oY (rD x2.toNatClampNeg) (by omega)
    have f7 := aRJ (oY &&& (rD x2.toNatClampNeg)) x1 (by omega)
    have hv6 := congrArg Int32.toInt ev6
    have f12 := aAQ v6 1 (by omega)
    have f13 := aBx v6 1 (by omega)
    refine And.intro (fun c11 => ?_) (fun c11 => ?_)
    · skip
      have c11 := (zJ _ _).mp c11
      exact ts_X5_timeAll_60 oY rD dN bD uU gF pL mX oE dU pQ pN aAE zR xL wX zU hpost hK2 hKn x1 x2 sG qY qU aBK (by omega) aAX hn2 hn15
    · skip
      have c11 := mt (zJ _ _).mpr c11
      intro v14 ev14
      have f15 : Int32.toInt (x1 * 8) = Int32.toInt x1 * 8 := ta_mulc _ _ (by decide) (by omega)
      rw [← ev14] at f15
      intro v16 ev16
      have f17 : Int32.toInt (v14 + x2) = Int32.toInt v14 + Int32.toInt x2 := aAD _ _ (by omega)
      rw [← ev16] at f17
      refine aUV aBK (by omega) (by omega) xL zU (fun r20 ru_given_18 ru_stack_19 h_r20 => ?_)
      refine And.intro (aBZ (by omega)) ?_
      have a21 : ∀ k : Nat, 0 ≤ Int32.toInt ((upd sG v16.toNatClampNeg r20) k) ∧ Int32.toInt ((upd sG v16.toNatClampNeg r20) k) ≤ 99 := t_upd (fun k => by have q9 := aAX k; omega) (by omega)
      exact ts_X5_timeAll_60 oY rD dN bD uU gF pL mX oE dU pQ pN aAE zR xL wX zU hpost hK2 hKn x1 x2 (upd sG v16.toNatClampNeg r20) ru_given_18 ru_stack_19 aBK (by omega) (fun k => by have q9 := a21 k; omega) hn2 hn15
set_option maxHeartbeats 8000000 in
set_option maxRecDepth 200000 in
theorem tb_X5_timeAll_15 {post : (Nat → Int32) → (Nat → Int32) → (Nat → Int32) → Prop} {K2 : Int32 → (Nat → Int32) → (Nat → Int32) → (Nat → Int32) → Prop} {n2 : Int} (oY : Int32) (rD : Nat → Int32) (dN bD : Int32) (uU gF pL mX oE : Nat → Int32) (dU pQ : Int32) (pN : Nat → Int32) (aAE : 0 ≤ Int32.toInt oY ∧ Int32.toInt oY ≤ 65535) (zR : ∀ k : Nat, 0 ≤ Int32.toInt (rD k) ∧ Int32.toInt (rD k) ≤ 65535) (xL : 0 ≤ Int32.toInt dN ∧ Int32.toInt dN ≤ 16) (wX : 0 ≤ Int32.toInt bD ∧ Int32.toInt bD ≤ 8) (zU : 0 ≤ Int32.toInt pQ ∧ Int32.toInt pQ ≤ 40) (hpost : ∀ (aC9 : Nat → Int32) (aCG : Nat → Int32) (aB4 : Nat → Int32), (∀ k : Nat, 0 ≤ Int32.toInt (aC9 k) ∧ Int32.toInt (aC9 k) ≤ 99) → post aC9 aCG aB4) (hK2 : ∀ (x1 : Int32) (sG : Nat → Int32) (qY : Nat → Int32) (qU : Nat → Int32), (0 ≤ Int32.toInt x1 ∧ Int32.toInt x1 ≤ 16) → (∀ k : Nat, 0 ≤ Int32.toInt (sG k) ∧ Int32.toInt (sG k) ≤ 99) → (16 - Int32.toInt x1 < n2) → K2 x1 sG qY qU) : ∀ (n : Nat) (x1 x2 : Int32) (sG qY qU : Nat → Int32), (0 ≤ Int32.toInt x1 ∧ Int32.toInt x1 ≤ 15) → (0 ≤ Int32.toInt x2 ∧ Int32.toInt x2 ≤ 8) → (∀ k : Nat, 0 ≤ Int32.toInt (sG k) ∧ Int32.toInt (sG k) ≤ 99) → (16 - Int32.toInt x1 ≤ n2) → (8 - Int32.toInt x2 < (n : Int)) → wb_X5_timeAll_15 post K2 oY rD dN bD uU gF pL mX oE dU pQ pN n x1 x2 sG qY qU := by
  intro n
  induction n with
  | zero =>
    intro x1 x2 sG qY qU aBK aBN aAX hn2 hm
    exfalso; omega
  | succ n ih =>
    intro x1 x2 sG qY qU aBK aBN aAX hn2 hm
    exact ts_X5_timeAll_15 oY rD dN bD uU gF pL mX oE dU pQ pN aAE zR xL wX zU hpost hK2 ih x1 x2 sG qY qU aBK aBN aAX hn2 (by omega)
set_option maxHeartbeats 8000000 in
set_option maxRecDepth 200000 in
theorem ts_X5_timeAll_2 {post : (Nat → Int32) → (Nat → Int32) → (Nat → Int32) → Prop} {next : Int32 → (Nat → Int32) → (Nat → Int32) → (Nat → Int32) → Prop} {n2 : Int} (oY : Int32) (rD : Nat → Int32) (dN bD : Int32) (uU gF pL mX oE : Nat → Int32) (dU pQ : Int32) (pN : Nat → Int32) (aAE : 0 ≤ Int32.toInt oY ∧ Int32.toInt oY ≤ 65535) (zR : ∀ k : Nat, 0 ≤ Int32.toInt (rD k) ∧ Int32.toInt (rD k) ≤ 65535) (xL : 0 ≤ Int32.toInt dN ∧ Int32.toInt dN ≤ 16) (wX : 0 ≤ Int32.toInt bD ∧ Int32.toInt bD ≤ 8) (zU : 0 ≤ Int32.toInt pQ ∧ Int32.toInt pQ ≤ 40) (hpost : ∀ (aC9 : Nat → Int32) (aCG : Nat → Int32) (aB4 : Nat → Int32), (∀ k : Nat, 0 ≤ Int32.toInt (aC9 k) ∧ Int32.toInt (aC9 k) ≤ 99) → post aC9 aCG aB4) (hKn : ∀ (x1 : Int32) (sG : Nat → Int32) (qY : Nat → Int32) (qU : Nat → Int32), (0 ≤ Int32.toInt x1 ∧ Int32.toInt x1 ≤ 16) → (∀ k : Nat, 0 ≤ Int32.toInt (sG k) ∧ Int32.toInt (sG k) ≤ 99) → (16 - Int32.toInt x1 < n2) → next x1 sG qY qU) (x1 : Int32) (sG qY qU : Nat → Int32) (aBK : 0 ≤ Int32.toInt x1 ∧ Int32.toInt x1 ≤ 16) (aAX : ∀ k : Nat, 0 ≤ Int32.toInt (sG k) ∧ Int32.toInt (sG k) ≤ 99) (hn2 : 16 - Int32.toInt x1 ≤ n2) : ws_X5_timeAll_2 post next oY rD dN bD uU gF pL mX oE dU pQ pN x1 sG qY qU := by
  have l0 := aE0
  refine And.intro (fun c22 => ?_) (fun c22 => ?_)
  · skip
    have c22 := (aAO _ _).mp c22
    exact hpost _ _ _ aAX
  · skip
    have c22 := mt (aAO _ _).mpr c22
    exact ⟨10, tb_X5_timeAll_15 oY rD dN bD uU gF pL mX oE dU pQ pN aAE zR xL wX zU hpost hKn _ x1 0 sG qY qU (by omega) (by omega) aAX hn2 (by omega)⟩
set_option maxHeartbeats 8000000 in
set_option maxRecDepth 200000 in
theorem tb_X5_timeAll_2 {post : (Nat → Int32) → (Nat → Int32) → (Nat → Int32) → Prop} (oY : Int32) (rD : Nat → Int32) (dN bD : Int32) (uU gF pL mX oE : Nat → Int32) (dU pQ : Int32) (pN : Nat → Int32) (aAE : 0 ≤ Int32.toInt oY ∧ Int32.toInt oY ≤ 65535) (zR : ∀ k : Nat, 0 ≤ Int32.toInt (rD k) ∧ Int32.toInt (rD k) ≤ 65535) (xL : 0 ≤ Int32.toInt dN ∧ Int32.toInt dN ≤ 16) (wX : 0 ≤ Int32.toInt bD ∧ Int32.toInt bD ≤ 8) (zU : 0 ≤ Int32.toInt pQ ∧ Int32.toInt pQ ≤ 40) (hpost : ∀ (aC9 : Nat → Int32) (aCG : Nat → Int32) (aB4 : Nat → Int32), (∀ k : Nat, 0 ≤ Int32.toInt (aC9 k) ∧ Int32.toInt (aC9 k) ≤ 99) → post aC9 aCG aB4) : ∀ (n : Nat) (x1 : Int32) (sG qY qU : Nat → Int32), (0 ≤ Int32.toInt x1 ∧ Int32.toInt x1 ≤ 16) → (∀ k : Nat, 0 ≤ Int32.toInt (sG k) ∧ Int32.toInt (sG k) ≤ 99) → (16 - Int32.toInt x1 < (n : Int)) → wb_X5_timeAll_2 post oY rD dN bD uU gF pL mX oE dU pQ pN n x1 sG qY qU := by
  intro n
  induction n with
  | zero =>
    intro x1 sG qY qU aBK aAX hm
    exfalso; omega
  | succ n ih =>
    intro x1 sG qY qU aBK aAX hm
    exact ts_X5_timeAll_2 oY rD dN bD uU gF pL mX oE dU pQ pN aAE zR xL wX zU hpost ih x1 sG qY qU aBK aAX (by omega)
set_option maxHeartbeats 8000000 in
set_option maxRecDepth 200000 in
theorem t_X5_timeAll {post : (Nat → Int32) → (Nat → Int32) → (Nat → Int32) → Prop} {oY : Int32} {rD sG : Nat → Int32} {dN bD : Int32} {uU gF pL mX oE : Nat → Int32} {dU pQ : Int32} {qY qU pN : Nat → Int32} (aAE : 0 ≤ Int32.toInt oY ∧ Int32.toInt oY ≤ 65535) (zR : ∀ k : Nat, 0 ≤ Int32.toInt (rD k) ∧ Int32.toInt (rD k) ≤ 65535) (aAX : ∀ k : Nat, 0 ≤ Int32.toInt (sG k) ∧ Int32.toInt (sG k) ≤ 99) (xL : 0 ≤ Int32.toInt dN ∧ Int32.toInt dN ≤ 16) (wX : 0 ≤ Int32.toInt bD ∧ Int32.toInt bD ≤ 8) (zU : 0 ≤ Int32.toInt pQ ∧ Int32.toInt pQ ≤ 40) (hpost : ∀ (aC9 : Nat → Int32) (aCG : Nat → Int32) (aB4 : Nat → Int32), (∀ k : Nat, 0 ≤ Int32.toInt (aC9 k) ∧ Int32.toInt (aC9 k) ≤ 99) → post aC9 aCG aB4) : wp_X5_timeAll post oY rD sG dN bD uU gF pL mX oE dU pQ qY qU pN := by
  have l0 := aE0
  exact ⟨18, tb_X5_timeAll_2 oY rD dN bD uU gF pL mX oE dU pQ pN aAE zR xL wX zU hpost _ 0 sG qY qU (by omega) aAX (by omega)⟩
