set_option maxHeartbeats 8000000 in
set_option maxRecDepth 200000 in
theorem ts_X5_addToDusk_52 {post : (Nat → Int32) → Prop} {K3 : Int32 → Int32 → Int32 → (Nat → Int32) → Prop} {n3 : Int} (hpost : ∀ (aXg : Nat → Int32), post aXg) (hK3 : ∀ (x2 : Int32) (x3 : Int32) (x4 : Int32) (vV : Nat → Int32), (1 ≤ Int32.toInt x2 ∧ Int32.toInt x2 ≤ 99) → (0 ≤ Int32.toInt x4 ∧ Int32.toInt x4 ≤ 300) → (Int32.toInt x4 - 0 < n3) → K3 x2 x3 x4 vV) (x2 x3 x4 : Int32) (vV : Nat → Int32) (aBN : 1 ≤ Int32.toInt x2 ∧ Int32.toInt x2 ≤ 99) (aDO : 1 ≤ Int32.toInt x4 ∧ Int32.toInt x4 ≤ 300) (hn3 : Int32.toInt x4 - 0 ≤ n3) : ws_X5_addToDusk_52 post K3 x2 x3 x4 vV := by
  have l0 := aI2
  intro v1 ev1
  have f2 : Int32.toInt (x4 + (-1)) = Int32.toInt x4 + Int32.toInt ((-1) : Int32) := aAD _ _ (by omega)
  rw [← ev1] at f2
  have f3 := aAT x3
  exact hK3 x2 x3 v1 vV aBN (by omega) (by omega)
set_option maxHeartbeats 8000000 in
set_option maxRecDepth 200000 in
theorem ts_X5_addToDusk_3 {post : (Nat → Int32) → Prop} {next : Int32 → Int32 → Int32 → (Nat → Int32) → Prop} {n3 : Int} (hpost : ∀ (aXg : Nat → Int32), post aXg) (hKn : ∀ (x2 : Int32) (x3 : Int32) (x4 : Int32) (vV : Nat → Int32), (1 ≤ Int32.toInt x2 ∧ Int32.toInt x2 ≤ 99) → (0 ≤ Int32.toInt x4 ∧ Int32.toInt x4 ≤ 300) → (Int32.toInt x4 - 0 < n3) → next x2 x3 x4 vV) (x2 x3 x4 : Int32) (vV : Nat → Int32) (aBN : 1 ≤ Int32.toInt x2 ∧ Int32.toInt x2 ≤ 99) (aDO : 0 ≤ Int32.toInt x4 ∧ Int32.toInt x4 ≤ 300) (hn3 : Int32.toInt x4 - 0 ≤ n3) : ws_X5_addToDusk_3 post next x2 x3 x4 vV := by
  have l0 := li_m2147483648
  refine And.intro (fun c4 => ?_) (fun c4 => ?_)
  · skip
    have c4 := (aAd _ _).mp c4
    exact hpost _ 
  · skip
    have c4 := mt (aAd _ _).mpr c4
    intro v5 ev5
    have f6 : Int32.toInt (x4 - x2) = Int32.toInt x4 - Int32.toInt x2 := aCA _ _ (by omega)
    rw [← ev5] at f6
    refine And.intro (aBZ (by omega)) ?_
    intro v7 ev7
    have hv7 := congrArg Int32.toInt ev7
    have f10 := aAT v7
    refine And.intro (fun c9 => ?_) (fun c9 => ?_)
    · skip
      have c9 := (zJ _ _).mp c9
      have f11 := aAT x3
      exact ts_X5_addToDusk_52 hpost hKn x2 x3 x4 vV aBN (by omega) hn3
    · skip
      have c9 := mt (zJ _ _).mpr c9
      intro v12 ev12
      have hv12 := congrArg Int32.toInt ev12
      refine And.intro (aBZ (by omega)) ?_
      have f15 := aAT v12
      refine And.intro (fun c14 => ?_) (fun c14 => ?_)
      · skip
        have c14 := (aAO _ _).mp c14
        have f17 := aAT x3
        exact ts_X5_addToDusk_52 hpost hKn x2 x3 x4 vV aBN (by omega) hn3
      · skip
        have c14 := mt (aAO _ _).mpr c14
        intro v18 ev18
        have hv18 := congrArg Int32.toInt ev18
        refine And.intro (aBZ (by omega)) ?_
        have f19 := aAT x3
        exact ts_X5_addToDusk_52 hpost hKn x2 x3 x4 (upd vV x4.toNatClampNeg v18) aBN (by omega) hn3
set_option maxHeartbeats 8000000 in
set_option maxRecDepth 200000 in
theorem tb_X5_addToDusk_3 {post : (Nat → Int32) → Prop} (hpost : ∀ (aXg : Nat → Int32), post aXg) : ∀ (n : Nat) (x2 x3 x4 : Int32) (vV : Nat → Int32), (1 ≤ Int32.toInt x2 ∧ Int32.toInt x2 ≤ 99) → (0 ≤ Int32.toInt x4 ∧ Int32.toInt x4 ≤ 300) → (Int32.toInt x4 - 0 < (n : Int)) → wb_X5_addToDusk_3 post n x2 x3 x4 vV := by
  intro n
  induction n with
  | zero =>
    intro x2 x3 x4 vV aBN aDO hm
    exfalso; omega
  | succ n ih =>
    intro x2 x3 x4 vV aBN aDO hm
    exact ts_X5_addToDusk_3 hpost ih x2 x3 x4 vV aBN aDO (by omega)
set_option maxHeartbeats 8000000 in
set_option maxRecDepth 200000 in
theorem t_X5_addToDusk {post : (Nat → Int32) → Prop} {p0 p1 p2 : Int32} {vV : Nat → Int32} (h_p0 : 0 ≤ Int32.toInt p0 ∧ Int32.toInt p0 ≤ 300) (h_p1 : 1 ≤ Int32.toInt p1 ∧ Int32.toInt p1 ≤ 99) (hpost : ∀ (aXg : Nat → Int32), post aXg) : wp_X5_addToDusk post p0 p1 p2 vV := by
  have f20 := aAT p2
  exact ⟨302, tb_X5_addToDusk_3 hpost _ p1 p2 p0 vV h_p1 h_p0 (by omega)⟩
set_option maxHeartbeats 8000000 in
set_option maxRecDepth 200000 in
theorem ts_X5_fillDusk_123 {post : (Nat → Int32) → (Nat → Int32) → (Nat → Int32) → Prop} {K47 : Int32 → Int32 → Int32 → (Nat → Int32) → (Nat → Int32) → (Nat → Int32) → Prop} {n47 : Int} (dN : Int32) (uU gF pL qF mX oE dY : Nat → Int32) (jE eW eY dU fY gJ jG pQ : Int32) (pN : Nat → Int32) (xL : 0 ≤ Int32.toInt dN ∧ Int32.toInt dN ≤ 16) (aAC : 0 ≤ Int32.toInt fY ∧ Int32.toInt fY ≤ 7) (zK : 0 ≤ Int32.toInt jG ∧ Int32.toInt jG ≤ 9) (zU : 0 ≤ Int32.toInt pQ ∧ Int32.toInt pQ ≤ 40) (hpost : ∀ (aXg : Nat → Int32) (aCG : Nat → Int32) (aB4 : Nat → Int32), post aXg aCG aB4) (hK47 : ∀ (x2 : Int32) (x3 : Int32) (x4 : Int32) (vV : Nat → Int32) (qY : Nat → Int32) (qU : Nat → Int32), (0 ≤ Int32.toInt x2 ∧ Int32.toInt x2 ≤ 300) → (0 ≤ Int32.toInt x3 ∧ Int32.toInt x3 ≤ 65535) → (0 ≤ Int32.toInt x4 ∧ Int32.toInt x4 ≤ 16) → (16 - Int32.toInt x4 < n47) → K47 x2 x3 x4 vV qY qU) (x2 x3 x4 : Int32) (vV qY qU : Nat → Int32) (aBN : 0 ≤ Int32.toInt x2 ∧ Int32.toInt x2 ≤ 300) (aCH : 0 ≤ Int32.toInt x3 ∧ Int32.toInt x3 ≤ 65535) (aDO : 0 ≤ Int32.toInt x4 ∧ Int32.toInt x4 ≤ 15) (hn47 : 16 - Int32.toInt x4 ≤ n47) : ws_X5_fillDusk_123 post K47 dN uU gF pL qF mX oE dY jE eW eY dU fY gJ jG pQ pN x2 x3 x4 vV qY qU := by
  have l0 := aEc
  intro v1 ev1
  have f2 : Int32.toInt (x4 + 1) = Int32.toInt x4 + Int32.toInt (1 : Int32) := aAD _ _ (by omega)
  rw [← ev1] at f2
  exact hK47 x2 x3 v1 vV qY qU aBN aCH (by omega) (by omega)
set_option maxHeartbeats 8000000 in
set_option maxRecDepth 200000 in
theorem ts_X5_fillDusk_47 {post : (Nat → Int32) → (Nat → Int32) → (Nat → Int32) → Prop} {next : Int32 → Int32 → Int32 → (Nat → Int32) → (Nat → Int32) → (Nat → Int32) → Prop} {n47 : Int} (dN : Int32) (uU gF pL qF mX oE dY : Nat → Int32) (jE eW eY dU fY gJ jG pQ : Int32) (pN : Nat → Int32) (xL : 0 ≤ Int32.toInt dN ∧ Int32.toInt dN ≤ 16) (aAC : 0 ≤ Int32.toInt fY ∧ Int32.toInt fY ≤ 7) (zK : 0 ≤ Int32.toInt jG ∧ Int32.toInt jG ≤ 9) (zU : 0 ≤ Int32.toInt pQ ∧ Int32.toInt pQ ≤ 40) (hpost : ∀ (aXg : Nat → Int32) (aCG : Nat → Int32) (aB4 : Nat → Int32), post aXg aCG aB4) (hKn : ∀ (x2 : Int32) (x3 : Int32) (x4 : Int32) (vV : Nat → Int32) (qY : Nat → Int32) (qU : Nat → Int32), (0 ≤ Int32.toInt x2 ∧ Int32.toInt x2 ≤ 300) → (0 ≤ Int32.toInt x3 ∧ Int32.toInt x3 ≤ 65535) → (0 ≤ Int32.toInt x4 ∧ Int32.toInt x4 ≤ 16) → (16 - Int32.toInt x4 < n47) → next x2 x3 x4 vV qY qU) (x2 x3 x4 : Int32) (vV qY qU : Nat → Int32) (aBN : 0 ≤ Int32.toInt x2 ∧ Int32.toInt x2 ≤ 300) (aCH : 0 ≤ Int32.toInt x3 ∧ Int32.toInt x3 ≤ 65535) (aDO : 0 ≤ Int32.toInt x4 ∧ Int32.toInt x4 ≤ 16) (hn47 : 16 - Int32.toInt x4 ≤ n47) : ws_X5_fillDusk_47 post next dN uU gF pL qF mX oE dY jE eW eY dU fY gJ jG pQ pN x2 x3 x4 vV qY qU := by
  have l0 := aE0
  have l1 := aEc
  refine And.intro (fun c3 => ?_) (fun c3 => ?_)
  · skip
    have c3 := (aAO _ _).mp c3
    exact hpost _ _ _ 
  · skip
    have c3 := mt (aAO _ _).mpr c3
    intro v4 ev4
    have f5 := aRJ x3 x4 (by omega)
    have hv4 := congrArg Int32.toInt ev4
    have f7 := aAQ v4 1 (by omega)
    have f8 := aBx v4 1 (by omega)
    refine And.intro (fun c6 => ?_) (fun c6 => ?_)
    · skip
      have c6 := (zJ _ _).mp c6
      exact ts_X5_fillDusk_123 dN uU gF pL qF mX oE dY jE eW eY dU fY gJ jG pQ pN xL aAC zK zU hpost hKn x2 x3 x4 vV qY qU aBN aCH (by omega) hn47
    · skip
      have c6 := mt (zJ _ _).mpr c6
      intro v9 ev9
      have f10 := aDv 15 32768 x4 (by decide) (by omega)
      have hv9 := congrArg Int32.toInt ev9
      refine aUV (by omega) aAC (by omega) xL zU (fun r13 ru_given_11 ru_stack_12 h_r13 => ?_)
      intro v14 ev14
      have f15 := ti_max (1 : Int32) r13
      have hv14 := congrArg Int32.toInt ev14
      refine aUx xL (fun r16 => ?_)
      intro v17 ev17
      intro v18 ev18
      have hv18 := congrArg Int32.toInt ev18
      refine t_X5_addToDusk aBN (by omega) (fun pl_best_20 => ?_)
      exact ts_X5_fillDusk_123 dN uU gF pL qF mX oE dY jE eW eY dU fY gJ jG pQ pN xL aAC zK zU hpost hKn x2 x3 x4 pl_best_20 ru_given_11 ru_stack_12 aBN aCH (by omega) hn47
set_option maxHeartbeats 8000000 in
set_option maxRecDepth 200000 in
theorem tb_X5_fillDusk_47 {post : (Nat → Int32) → (Nat → Int32) → (Nat → Int32) → Prop} (dN : Int32) (uU gF pL qF mX oE dY : Nat → Int32) (jE eW eY dU fY gJ jG pQ : Int32) (pN : Nat → Int32) (xL : 0 ≤ Int32.toInt dN ∧ Int32.toInt dN ≤ 16) (aAC : 0 ≤ Int32.toInt fY ∧ Int32.toInt fY ≤ 7) (zK : 0 ≤ Int32.toInt jG ∧ Int32.toInt jG ≤ 9) (zU : 0 ≤ Int32.toInt pQ ∧ Int32.toInt pQ ≤ 40) (hpost : ∀ (aXg : Nat → Int32) (aCG : Nat → Int32) (aB4 : Nat → Int32), post aXg aCG aB4) : ∀ (n : Nat) (x2 x3 x4 : Int32) (vV qY qU : Nat → Int32), (0 ≤ Int32.toInt x2 ∧ Int32.toInt x2 ≤ 300) → (0 ≤ Int32.toInt x3 ∧ Int32.toInt x3 ≤ 65535) → (0 ≤ Int32.toInt x4 ∧ Int32.toInt x4 ≤ 16) → (16 - Int32.toInt x4 < (n : Int)) → wb_X5_fillDusk_47 post dN uU gF pL qF mX oE dY jE eW eY dU fY gJ jG pQ pN n x2 x3 x4 vV qY qU := by
  intro n
  induction n with
  | zero =>
    intro x2 x3 x4 vV qY qU aBN aCH aDO hm
    exfalso; omega
  | succ n ih =>
    intro x2 x3 x4 vV qY qU aBN aCH aDO hm
    exact ts_X5_fillDusk_47 dN uU gF pL qF mX oE dY jE eW eY dU fY gJ jG pQ pN xL aAC zK zU hpost ih x2 x3 x4 vV qY qU aBN aCH aDO (by omega)
set_option maxHeartbeats 8000000 in
set_option maxRecDepth 200000 in
theorem ts_X5_fillDusk_17 {post : (Nat → Int32) → (Nat → Int32) → (Nat → Int32) → Prop} {next : Int32 → Int32 → (Nat → Int32) → (Nat → Int32) → (Nat → Int32) → Prop} {n17 : Int} (dN : Int32) (uU gF pL qF mX oE dY : Nat → Int32) (jE eW eY dU fY gJ jG pQ : Int32) (pN : Nat → Int32) (xL : 0 ≤ Int32.toInt dN ∧ Int32.toInt dN ≤ 16) (aAC : 0 ≤ Int32.toInt fY ∧ Int32.toInt fY ≤ 7) (zK : 0 ≤ Int32.toInt jG ∧ Int32.toInt jG ≤ 9) (zU : 0 ≤ Int32.toInt pQ ∧ Int32.toInt pQ ≤ 40) (hpost : ∀ (aXg : Nat → Int32) (aCG : Nat → Int32) (aB4 : Nat → Int32), post aXg aCG aB4) (hKn : ∀ (x2 : Int32) (x3 : Int32) (vV : Nat → Int32) (qY : Nat → Int32) (qU : Nat → Int32), (0 ≤ Int32.toInt x2 ∧ Int32.toInt x2 ≤ 300) → (1 ≤ Int32.toInt x3 ∧ Int32.toInt x3 ≤ 301) → (301 - Int32.toInt x3 < n17) → next x2 x3 vV qY qU) (x2 x3 : Int32) (vV qY qU : Nat → Int32) (aBN : 0 ≤ Int32.toInt x2 ∧ Int32.toInt x2 ≤ 300) (aCH : 1 ≤ Int32.toInt x3 ∧ Int32.toInt x3 ≤ 301) (hn17 : 301 - Int32.toInt x3 ≤ n17) : ws_X5_fillDusk_17 post next dN uU gF pL qF mX oE dY jE eW eY dU fY gJ jG pQ pN x2 x3 vV qY qU := by
  have l0 := aI2
  have l1 := aE0
  have l2 := aEc
  have l3 := li_2
  refine And.intro (fun c21 => ?_) (fun c21 => ?_)
  · skip
    have c21 := (aAd _ _).mp c21
    refine And.intro (fun c22 => ?_) (fun c22 => ?_)
    · skip
      have c22 := mt (zJ _ _).mpr c22
      intro v23 ev23
      have hv23 := congrArg Int32.toInt ev23
      intro v25 ev25
      have hv25 := congrArg Int32.toInt ev25
      refine t_X3_within aAC xL (fun r27 h_r27 => ?_)
      intro v28 ev28
      have f29 := aDv 16 65536 dN (by decide) (by omega)
      have hv28 := congrArg Int32.toInt ev28
      intro v30 ev30
      intro v31 ev31
      refine t_X3_ripeBy zK xL (fun r32 h_r32 => ?_)
      intro v33 ev33
      have f34 := aAQ ((v28 - 1) &&& (v31 ^^^ (-1))) r32 (by omega)
      have f36 : Int32.toInt (v28 - 1) = Int32.toInt v28 - Int32.toInt (1 : Int32) := aCA _ _ (by omega)
      have f37 := aBx (v28 - 1) (v31 ^^^ (-1)) (by omega)
      have f38 := aBx ((v28 - 1) &&& (v31 ^^^ (-1))) r32 (by omega)
      have hv33 := congrArg Int32.toInt ev33
      have f39 := aAQ v33 r27 (by omega)
      have f40 := aBx v33 r27 (by omega)
      exact ⟨18, tb_X5_fillDusk_47 dN uU gF pL qF mX oE dY jE eW eY dU fY gJ jG pQ pN xL aAC zK zU hpost _ x2 (v33 &&& r27) 0 vV qY qU aBN (by omega) (by omega) (by omega)⟩
    · skip
      have c22 := (zJ _ _).mp c22
      exfalso; omega
  · skip
    have c21 := mt (aAd _ _).mpr c21
    refine And.intro (aBZ (by omega)) ?_
    intro v41 ev41
    have f42 : Int32.toInt (x3 + 1) = Int32.toInt x3 + Int32.toInt (1 : Int32) := aAD _ _ (by omega)
    rw [← ev41] at f42
    exact hKn x2 v41 (upd vV x3.toNatClampNeg (-2147483648)) qY qU aBN (by omega) (by omega)
set_option maxHeartbeats 8000000 in
set_option maxRecDepth 200000 in
theorem tb_X5_fillDusk_17 {post : (Nat → Int32) → (Nat → Int32) → (Nat → Int32) → Prop} (dN : Int32) (uU gF pL qF mX oE dY : Nat → Int32) (jE eW eY dU fY gJ jG pQ : Int32) (pN : Nat → Int32) (xL : 0 ≤ Int32.toInt dN ∧ Int32.toInt dN ≤ 16) (aAC : 0 ≤ Int32.toInt fY ∧ Int32.toInt fY ≤ 7) (zK : 0 ≤ Int32.toInt jG ∧ Int32.toInt jG ≤ 9) (zU : 0 ≤ Int32.toInt pQ ∧ Int32.toInt pQ ≤ 40) (hpost : ∀ (aXg : Nat → Int32) (aCG : Nat → Int32) (aB4 : Nat → Int32), post aXg aCG aB4) : ∀ (n : Nat) (x2 x3 : Int32) (vV qY qU : Nat → Int32), (0 ≤ Int32.toInt x2 ∧ Int32.toInt x2 ≤ 300) → (1 ≤ Int32.toInt x3 ∧ Int32.toInt x3 ≤ 301) → (301 - Int32.toInt x3 < (n : Int)) → wb_X5_fillDusk_17 post dN uU gF pL qF mX oE dY jE eW eY dU fY gJ jG pQ pN n x2 x3 vV qY qU := by
  intro n
  induction n with
  | zero =>
    intro x2 x3 vV qY qU aBN aCH hm
    exfalso; omega
  | succ n ih =>
    intro x2 x3 vV qY qU aBN aCH hm
    exact ts_X5_fillDusk_17 dN uU gF pL qF mX oE dY jE eW eY dU fY gJ jG pQ pN xL aAC zK zU hpost ih x2 x3 vV qY qU aBN aCH (by omega)
set_option maxHeartbeats 8000000 in
set_option maxRecDepth 200000 in
theorem t_X5_fillDusk {post : (Nat → Int32) → (Nat → Int32) → (Nat → Int32) → Prop} {p0 : Int32} {vV : Nat → Int32} {dN : Int32} {uU gF pL qF mX oE dY : Nat → Int32} {jE eW eY dU fY gJ jG pQ : Int32} {qY qU pN : Nat → Int32} (h_p0 : 0 ≤ Int32.toInt p0 ∧ Int32.toInt p0 ≤ 300) (xL : 0 ≤ Int32.toInt dN ∧ Int32.toInt dN ≤ 16) (aAC : 0 ≤ Int32.toInt fY ∧ Int32.toInt fY ≤ 7) (zK : 0 ≤ Int32.toInt jG ∧ Int32.toInt jG ≤ 9) (zU : 0 ≤ Int32.toInt pQ ∧ Int32.toInt pQ ≤ 40) (hpost : ∀ (aXg : Nat → Int32) (aCG : Nat → Int32) (aB4 : Nat → Int32), post aXg aCG aB4) : wp_X5_fillDusk post p0 vV dN uU gF pL qF mX oE dY jE eW eY dU fY gJ jG pQ qY qU pN := by
  have l0 := aE0
  have l1 := aEc
  have l2 := li_300
  intro v43 ev43
  have f44 := ti_min p0 (300 : Int32)
  have hv43 := congrArg Int32.toInt ev43
  exact ⟨302, tb_X5_fillDusk_17 dN uU gF pL qF mX oE dY jE eW eY dU fY gJ jG pQ pN xL aAC zK zU hpost _ v43 1 (upd vV (0 : Int32).toNatClampNeg 0) qY qU (by omega) (by omega) (by omega)⟩
set_option maxHeartbeats 8000000 in
set_option maxRecDepth 200000 in
theorem ts_X9_dusk_85 {post : Int32 → (Nat → Int32) → (Nat → Int32) → (Nat → Int32) → Int32 → (Nat → Int32) → Prop} {K45 : Int32 → Int32 → Int32 → Int32 → Int32 → (Nat → Int32) → (Nat → Int32) → (Nat → Int32) → Int32 → (Nat → Int32) → Prop} {n45 : Int} (dN : Int32) (uU gF pL qF mX oE dY : Nat → Int32) (jE eW eY dU fY gJ jG pQ : Int32) (pN : Nat → Int32) (xL : 0 ≤ Int32.toInt dN ∧ Int32.toInt dN ≤ 16) (aAC : -1 ≤ Int32.toInt fY ∧ Int32.toInt fY ≤ 7) (zK : 0 ≤ Int32.toInt jG ∧ Int32.toInt jG ≤ 9) (zU : 0 ≤ Int32.toInt pQ ∧ Int32.toInt pQ ≤ 40) (hpost : ∀ (r : Int32) (aXg : Nat → Int32) (aCG : Nat → Int32) (aB4 : Nat → Int32) (zV : Int32) (aAV : Nat → Int32), (-2 ≤ Int32.toInt r ∧ Int32.toInt r ≤ 2147483647) → (0 ≤ Int32.toInt zV ∧ Int32.toInt zV ≤ 16) → post r aXg aCG aB4 zV aAV) (hK45 : ∀ (x1 : Int32) (x2 : Int32) (x3 : Int32) (x4 : Int32) (x5 : Int32) (vV : Nat → Int32) (qY : Nat → Int32) (qU : Nat → Int32) (qB : Int32) (jK : Nat → Int32), (0 ≤ Int32.toInt x1 ∧ Int32.toInt x1 ≤ 300) → (0 ≤ Int32.toInt x2 ∧ Int32.toInt x2 ≤ 2147483647) → (0 ≤ Int32.toInt x3 ∧ Int32.toInt x3 ≤ 65535) → (0 ≤ Int32.toInt x4 ∧ Int32.toInt x4 ≤ 300) → (1 ≤ Int32.toInt x5 ∧ Int32.toInt x5 ≤ 301) → (0 ≤ Int32.toInt qB ∧ Int32.toInt qB ≤ 16) → (301 - Int32.toInt x5 < n45) → K45 x1 x2 x3 x4 x5 vV qY qU qB jK) (x1 x2 x3 x4 x5 : Int32) (vV qY qU : Nat → Int32) (qB : Int32) (jK : Nat → Int32) (aBK : 1 ≤ Int32.toInt x1 ∧ Int32.toInt x1 ≤ 300) (aBN : 0 ≤ Int32.toInt x2 ∧ Int32.toInt x2 ≤ 2147483647) (aCH : 0 ≤ Int32.toInt x3 ∧ Int32.toInt x3 ≤ 65535) (aDO : 0 ≤ Int32.toInt x4 ∧ Int32.toInt x4 ≤ 300) (aF7 : 1 ≤ Int32.toInt x5 ∧ Int32.toInt x5 ≤ 300) (aAK : 0 ≤ Int32.toInt qB ∧ Int32.toInt qB ≤ 16) (hn45 : 301 - Int32.toInt x5 ≤ n45) : ws_X9_dusk_85 post K45 dN uU gF pL qF mX oE dY jE eW eY dU fY gJ jG pQ pN x1 x2 x3 x4 x5 vV qY qU qB jK := by
  have l0 := aEc
  intro v1 ev1
  have f2 : Int32.toInt (x5 + 1) = Int32.toInt x5 + Int32.toInt (1 : Int32) := aAD _ _ (by omega)
  rw [← ev1] at f2
  have f3 := aAT x2
  exact hK45 x1 x2 x3 x4 v1 vV qY qU qB jK (by omega) aBN aCH aDO (by omega) aAK (by omega)
set_option maxHeartbeats 8000000 in
set_option maxRecDepth 200000 in
theorem ts_X9_dusk_45 {post : Int32 → (Nat → Int32) → (Nat → Int32) → (Nat → Int32) → Int32 → (Nat → Int32) → Prop} {next : Int32 → Int32 → Int32 → Int32 → Int32 → (Nat → Int32) → (Nat → Int32) → (Nat → Int32) → Int32 → (Nat → Int32) → Prop} {n45 : Int} (dN : Int32) (uU gF pL qF mX oE dY : Nat → Int32) (jE eW eY dU fY gJ jG pQ : Int32) (pN : Nat → Int32) (xL : 0 ≤ Int32.toInt dN ∧ Int32.toInt dN ≤ 16) (aAC : -1 ≤ Int32.toInt fY ∧ Int32.toInt fY ≤ 7) (zK : 0 ≤ Int32.toInt jG ∧ Int32.toInt jG ≤ 9) (zU : 0 ≤ Int32.toInt pQ ∧ Int32.toInt pQ ≤ 40) (hpost : ∀ (r : Int32) (aXg : Nat → Int32) (aCG : Nat → Int32) (aB4 : Nat → Int32) (zV : Int32) (aAV : Nat → Int32), (-2 ≤ Int32.toInt r ∧ Int32.toInt r ≤ 2147483647) → (0 ≤ Int32.toInt zV ∧ Int32.toInt zV ≤ 16) → post r aXg aCG aB4 zV aAV) (hKn : ∀ (x1 : Int32) (x2 : Int32) (x3 : Int32) (x4 : Int32) (x5 : Int32) (vV : Nat → Int32) (qY : Nat → Int32) (qU : Nat → Int32) (qB : Int32) (jK : Nat → Int32), (0 ≤ Int32.toInt x1 ∧ Int32.toInt x1 ≤ 300) → (0 ≤ Int32.toInt x2 ∧ Int32.toInt x2 ≤ 2147483647) → (0 ≤ Int32.toInt x3 ∧ Int32.toInt x3 ≤ 65535) → (0 ≤ Int32.toInt x4 ∧ Int32.toInt x4 ≤ 300) → (1 ≤ Int32.toInt x5 ∧ Int32.toInt x5 ≤ 301) → (0 ≤ Int32.toInt qB ∧ Int32.toInt qB ≤ 16) → (301 - Int32.toInt x5 < n45) → next x1 x2 x3 x4 x5 vV qY qU qB jK) (x1 x2 x3 x4 x5 : Int32) (vV qY qU : Nat → Int32) (qB : Int32) (jK : Nat → Int32) (aBK : 0 ≤ Int32.toInt x1 ∧ Int32.toInt x1 ≤ 300) (aBN : 0 ≤ Int32.toInt x2 ∧ Int32.toInt x2 ≤ 2147483647) (aCH : 0 ≤ Int32.toInt x3 ∧ Int32.toInt x3 ≤ 65535) (aDO : 0 ≤ Int32.toInt x4 ∧ Int32.toInt x4 ≤ 300) (aF7 : 1 ≤ Int32.toInt x5 ∧ Int32.toInt x5 ≤ 301) (aAK : 0 ≤ Int32.toInt qB ∧ Int32.toInt qB ≤ 16) (hn45 : 301 - Int32.toInt x5 ≤ n45) : ws_X9_dusk_45 post next dN uU gF pL qF mX oE dY jE eW eY dU fY gJ jG pQ pN x1 x2 x3 x4 x5 vV qY qU qB jK := by
  have l0 := aI2
  have l1 := li_m2147483648
  have l2 := aE0
  have l3 := aEc
  have l4 := li_16
  have l5 := li_65535
  refine And.intro (fun c4 => ?_) (fun c4 => ?_)
  · skip
    have c4 := (aAd _ _).mp c4
    refine And.intro (fun h9 => absurd h9 (by decide)) (fun _ => ?_)
    refine And.intro (aBZ (by omega)) ?_
    intro v5 ev5
    have f6 : Int32.toInt (0 + 1) = Int32.toInt (0 : Int32) + Int32.toInt (1 : Int32) := aAD _ _ (by omega)
    rw [← ev5] at f6
    refine And.intro (fun c7 => ?_) (fun c7 => ?_)
    · skip
      have c7 := (aAO _ _).mp c7
      exfalso; omega
    · skip
      have c7 := mt (aAO _ _).mpr c7
      refine And.intro (aBZ (by omega)) ?_
      intro v8 ev8
      have f9 : Int32.toInt (v5 + 1) = Int32.toInt v5 + Int32.toInt (1 : Int32) := aAD _ _ (by omega)
      rw [← ev8] at f9
      have f10 := aAT x2
      exact hpost _ _ _ _ _ _ (by omega) (by omega)
  · skip
    have c4 := mt (aAd _ _).mpr c4
    refine And.intro (aBZ (by omega)) ?_
    intro v11 ev11
    have hv11 := congrArg Int32.toInt ev11
    have f14 := aAT v11
    refine And.intro (fun c13 => ?_) (fun c13 => ?_)
    · skip
      have c13 := mt (zJ _ _).mpr c13
      refine And.intro (aBZ (by omega)) ?_
      intro v15 ev15
      have hv15 := congrArg Int32.toInt ev15
      intro v16 ev16
      have hv16 := congrArg Int32.toInt ev16
      have f19 := aAT (v16 >>> (16 &&& 31))
      have f21 := aAT x2
      refine And.intro (fun c18 => ?_) (fun c18 => ?_)
      · skip
        have c18 := (aAO _ _).mp c18
        exact ts_X9_dusk_85 dN uU gF pL qF mX oE dY jE eW eY dU fY gJ jG pQ pN xL aAC zK zU hpost hKn x1 x2 x3 x4 x5 vV qY qU qB jK (by omega) aBN aCH aDO (by omega) aAK hn45
      · skip
        have c18 := mt (aAO _ _).mpr c18
        refine And.intro (aBZ (by omega)) ?_
        intro v22 ev22
        have hv22 := congrArg Int32.toInt ev22
        have f24 := aAT v22
        refine And.intro (fun c23 => ?_) (fun c23 => ?_)
        · skip
          have c23 := mt (zJ _ _).mpr c23
          refine And.intro (aBZ (by omega)) ?_
          intro v25 ev25
          have f26 := aAT (-(vV x5.toNatClampNeg))
          have f27 := ta_neg (vV x5.toNatClampNeg) (by omega)
          have hv25 := congrArg Int32.toInt ev25
          have f28 := aAQ v25 65535 (by omega)
          exact ts_X9_dusk_85 dN uU gF pL qF mX oE dY jE eW eY dU fY gJ jG pQ pN xL aAC zK zU hpost hKn x1 (v16 >>> (16 &&& 31)) (v25 &&& 65535) x5 x5 vV qY qU qB jK (by omega) (by omega) (by omega) (by omega) (by omega) aAK hn45
        · skip
          have c23 := (zJ _ _).mp c23
          exfalso; omega
    · skip
      have c13 := (zJ _ _).mp c13
      have f30 := aAT x2
      refine And.intro (fun c29 => ?_) (fun c29 => ?_)
      · skip
        have c29 := (aAO _ _).mp c29
        exact ts_X9_dusk_85 dN uU gF pL qF mX oE dY jE eW eY dU fY gJ jG pQ pN xL aAC zK zU hpost hKn x1 x2 x3 x4 x5 vV qY qU qB jK (by omega) aBN aCH aDO (by omega) aAK hn45
      · skip
        have c29 := mt (aAO _ _).mpr c29
        exfalso; omega
set_option maxHeartbeats 8000000 in
set_option maxRecDepth 200000 in
theorem tb_X9_dusk_45 {post : Int32 → (Nat → Int32) → (Nat → Int32) → (Nat → Int32) → Int32 → (Nat → Int32) → Prop} (dN : Int32) (uU gF pL qF mX oE dY : Nat → Int32) (jE eW eY dU fY gJ jG pQ : Int32) (pN : Nat → Int32) (xL : 0 ≤ Int32.toInt dN ∧ Int32.toInt dN ≤ 16) (aAC : -1 ≤ Int32.toInt fY ∧ Int32.toInt fY ≤ 7) (zK : 0 ≤ Int32.toInt jG ∧ Int32.toInt jG ≤ 9) (zU : 0 ≤ Int32.toInt pQ ∧ Int32.toInt pQ ≤ 40) (hpost : ∀ (r : Int32) (aXg : Nat → Int32) (aCG : Nat → Int32) (aB4 : Nat → Int32) (zV : Int32) (aAV : Nat → Int32), (-2 ≤ Int32.toInt r ∧ Int32.toInt r ≤ 2147483647) → (0 ≤ Int32.toInt zV ∧ Int32.toInt zV ≤ 16) → post r aXg aCG aB4 zV aAV) : ∀ (n : Nat) (x1 x2 x3 x4 x5 : Int32) (vV qY qU : Nat → Int32) (qB : Int32) (jK : Nat → Int32), (0 ≤ Int32.toInt x1 ∧ Int32.toInt x1 ≤ 300) → (0 ≤ Int32.toInt x2 ∧ Int32.toInt x2 ≤ 2147483647) → (0 ≤ Int32.toInt x3 ∧ Int32.toInt x3 ≤ 65535) → (0 ≤ Int32.toInt x4 ∧ Int32.toInt x4 ≤ 300) → (1 ≤ Int32.toInt x5 ∧ Int32.toInt x5 ≤ 301) → (0 ≤ Int32.toInt qB ∧ Int32.toInt qB ≤ 16) → (301 - Int32.toInt x5 < (n : Int)) → wb_X9_dusk_45 post dN uU gF pL qF mX oE dY jE eW eY dU fY gJ jG pQ pN n x1 x2 x3 x4 x5 vV qY qU qB jK := by
  intro n
  induction n with
  | zero =>
    intro x1 x2 x3 x4 x5 vV qY qU qB jK aBK aBN aCH aDO aF7 aAK hm
    exfalso; omega
  | succ n ih =>
    intro x1 x2 x3 x4 x5 vV qY qU qB jK aBK aBN aCH aDO aF7 aAK hm
    exact ts_X9_dusk_45 dN uU gF pL qF mX oE dY jE eW eY dU fY gJ jG pQ pN xL aAC zK zU hpost ih x1 x2 x3 x4 x5 vV qY qU qB jK aBK aBN aCH aDO aF7 aAK (by omega)
set_option maxHeartbeats 8000000 in
set_option maxRecDepth 200000 in
theorem t_X9_dusk {post : Int32 → (Nat → Int32) → (Nat → Int32) → (Nat → Int32) → Int32 → (Nat → Int32) → Prop} {p0 : Int32} {vV : Nat → Int32} {dN : Int32} {uU gF pL qF mX oE dY : Nat → Int32} {jE eW eY dU fY gJ jG pQ : Int32} {qY qU pN : Nat → Int32} {qB : Int32} {jK : Nat → Int32} (xL : 0 ≤ Int32.toInt dN ∧ Int32.toInt dN ≤ 16) (aAC : -1 ≤ Int32.toInt fY ∧ Int32.toInt fY ≤ 7) (zK : 0 ≤ Int32.toInt jG ∧ Int32.toInt jG ≤ 9) (zU : 0 ≤ Int32.toInt pQ ∧ Int32.toInt pQ ≤ 40) (aAK : 0 ≤ Int32.toInt qB ∧ Int32.toInt qB ≤ 16) (hpost : ∀ (r : Int32) (aXg : Nat → Int32) (aCG : Nat → Int32) (aB4 : Nat → Int32) (zV : Int32) (aAV : Nat → Int32), (-2 ≤ Int32.toInt r ∧ Int32.toInt r ≤ 2147483647) → (0 ≤ Int32.toInt zV ∧ Int32.toInt zV ≤ 16) → post r aXg aCG aB4 zV aAV) : wp_X9_dusk post p0 vV dN uU gF pL qF mX oE dY jE eW eY dU fY gJ jG pQ qY qU pN qB jK := by
  have l0 := aI2
  have l1 := li_m2
  have l2 := aE0
  have l3 := aEc
  have l4 := li_300
  have f32 := aAT p0
  refine And.intro (fun c31 => ?_) (fun c31 => ?_)
  · skip
    have c31 := (aAd _ _).mp c31
    exact hpost _ _ _ _ _ _ (by omega) aAK
  · skip
    have c31 := mt (aAd _ _).mpr c31
    refine And.intro (fun c33 => ?_) (fun c33 => ?_)
    · skip
      have c33 := (aAO _ _).mp c33
      refine And.intro (fun c34 => ?_) (fun c34 => ?_)
      · skip
        have c34 := mt (zJ _ _).mpr c34
        refine t_X5_fillDusk (by omega) xL (by omega) zK zU (fun pl_best_35 ru_given_36 ru_stack_37 => ?_)
        exact ⟨302, tb_X9_dusk_45 dN uU gF pL qF mX oE dY jE eW eY dU fY gJ jG pQ pN xL aAC zK zU hpost _ p0 0 0 0 1 pl_best_35 ru_given_36 ru_stack_37 qB jK (by omega) (by omega) (by omega) (by omega) (by omega) aAK (by omega)⟩
      · skip
        have c34 := (zJ _ _).mp c34
        exact hpost _ _ _ _ _ _ (by omega) aAK
    · skip
      have c33 := mt (aAO _ _).mpr c33
      exact hpost _ _ _ _ _ _ (by omega) aAK
