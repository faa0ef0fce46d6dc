set_option maxHeartbeats 8000000 in
set_option maxRecDepth 200000 in
theorem ts_X3_firstUncovering_29 {post : Int32 → Prop} {K2 : Int32 → Int32 → Int32 → Prop} {n2 : Int} (dN : Int32) (uU gF : Nat → Int32) (xL : 0 ≤ Int32.toInt dN ∧ Int32.toInt dN ≤ 16) (hpost : ∀ (r : Int32) , (-1 ≤ Int32.toInt r ∧ Int32.toInt r ≤ 15) → post r) (hK2 : ∀ (x1 : Int32) (x2 : Int32) (x3 : Int32), (0 ≤ Int32.toInt x1 ∧ Int32.toInt x1 ≤ 65535) → (0 ≤ Int32.toInt x2 ∧ Int32.toInt x2 ≤ 65535) → (0 ≤ Int32.toInt x3 ∧ Int32.toInt x3 ≤ 16) → (16 - Int32.toInt x3 < n2) → K2 x1 x2 x3) (x1 x2 x3 : Int32) (aBK : 0 ≤ Int32.toInt x1 ∧ Int32.toInt x1 ≤ 65535) (aBN : 0 ≤ Int32.toInt x2 ∧ Int32.toInt x2 ≤ 65535) (aCH : 0 ≤ Int32.toInt x3 ∧ Int32.toInt x3 ≤ 15) (hn2 : 16 - Int32.toInt x3 ≤ n2) : ws_X3_firstUncovering_29 post K2 dN uU gF x1 x2 x3 := by
  have l0 := aEc
  intro v1 ev1
  have f2 : Int32.toInt (x3 + 1) = Int32.toInt x3 + Int32.toInt (1 : Int32) := aAD _ _ (by omega)
  rw [← ev1] at f2
  exact hK2 x1 x2 v1 aBK aBN (by omega) (by omega)
set_option maxHeartbeats 8000000 in
set_option maxRecDepth 200000 in
theorem ts_X3_firstUncovering_2 {post : Int32 → Prop} {next : Int32 → Int32 → Int32 → Prop} {n2 : Int} (dN : Int32) (uU gF : Nat → Int32) (xL : 0 ≤ Int32.toInt dN ∧ Int32.toInt dN ≤ 16) (hpost : ∀ (r : Int32) , (-1 ≤ Int32.toInt r ∧ Int32.toInt r ≤ 15) → post r) (hKn : ∀ (x1 : Int32) (x2 : Int32) (x3 : Int32), (0 ≤ Int32.toInt x1 ∧ Int32.toInt x1 ≤ 65535) → (0 ≤ Int32.toInt x2 ∧ Int32.toInt x2 ≤ 65535) → (0 ≤ Int32.toInt x3 ∧ Int32.toInt x3 ≤ 16) → (16 - Int32.toInt x3 < n2) → next x1 x2 x3) (x1 x2 x3 : Int32) (aBK : 0 ≤ Int32.toInt x1 ∧ Int32.toInt x1 ≤ 65535) (aBN : 0 ≤ Int32.toInt x2 ∧ Int32.toInt x2 ≤ 65535) (aCH : 0 ≤ Int32.toInt x3 ∧ Int32.toInt x3 ≤ 16) (hn2 : 16 - Int32.toInt x3 ≤ n2) : ws_X3_firstUncovering_2 post next dN uU gF x1 x2 x3 := by
  have l0 := aI2
  have l1 := aE0
  have l2 := aEc
  refine And.intro (fun c3 => ?_) (fun c3 => ?_)
  · skip
    have c3 := (aAO _ _).mp c3
    exact hpost _ (by omega)
  · skip
    have c3 := mt (aAO _ _).mpr c3
    intro v4 ev4
    have f5 := aRJ x1 x3 (by omega)
    have hv4 := congrArg Int32.toInt ev4
    have f7 := aAQ v4 1 (by omega)
    have f8 := aBx v4 1 (by omega)
    refine And.intro (fun c6 => ?_) (fun c6 => ?_)
    · skip
      have c6 := (zJ _ _).mp c6
      exact ts_X3_firstUncovering_29 dN uU gF xL hpost hKn x1 x2 x3 aBK aBN (by omega) hn2
    · skip
      have c6 := mt (zJ _ _).mpr c6
      refine t_X3_lowerThan (by omega) aBN (by omega) (fun r9 h_r9 => ?_)
      refine And.intro (fun c10 => ?_) (fun c10 => ?_)
      · skip
        have c10 := mt (zJ _ _).mpr c10
        exact ts_X3_firstUncovering_29 dN uU gF xL hpost hKn x1 x2 x3 aBK aBN (by omega) hn2
      · skip
        have c10 := (zJ _ _).mp c10
        exact hpost _ (by omega)
set_option maxHeartbeats 8000000 in
set_option maxRecDepth 200000 in
theorem tb_X3_firstUncovering_2 {post : Int32 → Prop} (dN : Int32) (uU gF : Nat → Int32) (xL : 0 ≤ Int32.toInt dN ∧ Int32.toInt dN ≤ 16) (hpost : ∀ (r : Int32) , (-1 ≤ Int32.toInt r ∧ Int32.toInt r ≤ 15) → post r) : ∀ (n : Nat) (x1 x2 x3 : Int32), (0 ≤ Int32.toInt x1 ∧ Int32.toInt x1 ≤ 65535) → (0 ≤ Int32.toInt x2 ∧ Int32.toInt x2 ≤ 65535) → (0 ≤ Int32.toInt x3 ∧ Int32.toInt x3 ≤ 16) → (16 - Int32.toInt x3 < (n : Int)) → wb_X3_firstUncovering_2 post dN uU gF n x1 x2 x3 := by
  intro n
  induction n with
  | zero =>
    intro x1 x2 x3 aBK aBN aCH hm
    exfalso; omega
  | succ n ih =>
    intro x1 x2 x3 aBK aBN aCH hm
    exact ts_X3_firstUncovering_2 dN uU gF xL hpost ih x1 x2 x3 aBK aBN aCH (by omega)
set_option maxHeartbeats 8000000 in
set_option maxRecDepth 200000 in
theorem t_X3_firstUncovering {post : Int32 → Prop} {p0 p1 dN : Int32} {uU gF : Nat → Int32} (h_p0 : 0 ≤ Int32.toInt p0 ∧ Int32.toInt p0 ≤ 65535) (h_p1 : 0 ≤ Int32.toInt p1 ∧ Int32.toInt p1 ≤ 65535) (xL : 0 ≤ Int32.toInt dN ∧ Int32.toInt dN ≤ 16) (hpost : ∀ (r : Int32) , (-1 ≤ Int32.toInt r ∧ Int32.toInt r ≤ 15) → post r) : wp_X3_firstUncovering post p0 p1 dN uU gF := by
  have l0 := aE0
  exact ⟨18, tb_X3_firstUncovering_2 dN uU gF xL hpost _ p0 p1 0 h_p0 h_p1 (by omega) (by omega)⟩
set_option maxHeartbeats 8000000 in
set_option maxRecDepth 200000 in
theorem ts_X9_gentle_91 {post : Int32 → Int32 → (Nat → Int32) → Prop} (dN : Int32) (uU gF qF mX oE dY : Nat → Int32) (jE eW eY fY gJ jG : Int32) (xL : 0 ≤ Int32.toInt dN ∧ Int32.toInt dN ≤ 16) (aAC : -1 ≤ Int32.toInt fY ∧ Int32.toInt fY ≤ 7) (zK : 0 ≤ Int32.toInt jG ∧ Int32.toInt jG ≤ 9) (hpost : ∀ (r : Int32) (zV : Int32) (aAV : Nat → Int32), (-2 ≤ Int32.toInt r ∧ Int32.toInt r ≤ 16) → (0 ≤ Int32.toInt zV ∧ Int32.toInt zV ≤ 16) → post r zV aAV) (qB : Int32) (jK : Nat → Int32) (aAK : 0 ≤ Int32.toInt qB ∧ Int32.toInt qB ≤ 16) : ws_X9_gentle_91 post dN uU gF qF mX oE dY jE eW eY fY gJ jG qB jK := by
  exact hpost _ _ _ (by omega) aAK
set_option maxHeartbeats 8000000 in
set_option maxRecDepth 200000 in
theorem ts_X9_gentle_39 {post : Int32 → Int32 → (Nat → Int32) → Prop} {next : Int32 → Int32 → Int32 → Int32 → (Nat → Int32) → Prop} {n39 : Int} (dN : Int32) (uU gF qF mX oE dY : Nat → Int32) (jE eW eY fY gJ jG : Int32) (xL : 0 ≤ Int32.toInt dN ∧ Int32.toInt dN ≤ 16) (aAC : -1 ≤ Int32.toInt fY ∧ Int32.toInt fY ≤ 7) (zK : 0 ≤ Int32.toInt jG ∧ Int32.toInt jG ≤ 9) (hpost : ∀ (r : Int32) (zV : Int32) (aAV : Nat → Int32), (-2 ≤ Int32.toInt r ∧ Int32.toInt r ≤ 16) → (0 ≤ Int32.toInt zV ∧ Int32.toInt zV ≤ 16) → post r zV aAV) (hKn : ∀ (x1 : Int32) (x2 : Int32) (x3 : Int32) (qB : Int32) (jK : Nat → Int32), (0 ≤ Int32.toInt x1 ∧ Int32.toInt x1 ≤ 65535) → (0 ≤ Int32.toInt x2 ∧ Int32.toInt x2 ≤ 65535) → (0 ≤ Int32.toInt x3 ∧ Int32.toInt x3 ≤ 16) → (0 ≤ Int32.toInt qB ∧ Int32.toInt qB ≤ 16) → (16 - Int32.toInt x3 < n39) → next x1 x2 x3 qB jK) (x1 x2 x3 qB : Int32) (jK : Nat → Int32) (aBK : 0 ≤ Int32.toInt x1 ∧ Int32.toInt x1 ≤ 65535) (aBN : 0 ≤ Int32.toInt x2 ∧ Int32.toInt x2 ≤ 65535) (aCH : 0 ≤ Int32.toInt x3 ∧ Int32.toInt x3 ≤ 16) (aAK : 0 ≤ Int32.toInt qB ∧ Int32.toInt qB ≤ 16) (hn39 : 16 - Int32.toInt x3 ≤ n39) : ws_X9_gentle_39 post next dN uU gF qF mX oE dY jE eW eY fY gJ jG x1 x2 x3 qB jK := by
  have l0 := aI2
  have l1 := aEc
  have l2 := li_16
  refine And.intro (fun c1 => ?_) (fun c1 => ?_)
  · skip
    have c1 := (aAO _ _).mp c1
    exact ts_X9_gentle_91 dN uU gF qF mX oE dY jE eW eY fY gJ jG xL aAC zK hpost qB jK aAK
  · skip
    have c1 := mt (aAO _ _).mpr c1
    intro v2 ev2
    have f3 := aAQ x2 x1 (by omega)
    have f4 := aBx x2 x1 (by omega)
    have hv2 := congrArg Int32.toInt ev2
    refine t_X3_firstUncovering (by omega) aBK xL (fun r5 h_r5 => ?_)
    refine And.intro (fun c6 => ?_) (fun c6 => ?_)
    · skip
      have c6 := mt (zJ _ _).mpr c6
      refine And.intro (fun c7 => ?_) (fun c7 => ?_)
      · skip
        have c7 := (aAO _ _).mp c7
        intro v8 ev8
        have f9 := aDv 15 32768 r5 (by decide) (by omega)
        have hv8 := congrArg Int32.toInt ev8
        intro v10 ev10
        have f12 := aBx x1 (v8 ^^^ (-1)) (by omega)
        have hv10 := congrArg Int32.toInt ev10
        intro v13 ev13
        have f14 : Int32.toInt (x3 + 1) = Int32.toInt x3 + Int32.toInt (1 : Int32) := aAD _ _ (by omega)
        rw [← ev13] at f14
        exact hKn v10 x2 v13 qB jK (by omega) aBN (by omega) aAK (by omega)
      · skip
        have c7 := mt (aAO _ _).mpr c7
        refine And.intro (aBZ (by omega)) ?_
        intro v15 ev15
        have f16 : Int32.toInt (qB + 1) = Int32.toInt qB + Int32.toInt (1 : Int32) := aAD _ _ (by omega)
        rw [← ev15] at f16
        intro v17 ev17
        have f18 := aDv 15 32768 r5 (by decide) (by omega)
        have hv17 := congrArg Int32.toInt ev17
        intro v19 ev19
        have f21 := aBx x1 (v17 ^^^ (-1)) (by omega)
        have hv19 := congrArg Int32.toInt ev19
        intro v22 ev22
        have f23 : Int32.toInt (x3 + 1) = Int32.toInt x3 + Int32.toInt (1 : Int32) := aAD _ _ (by omega)
        rw [← ev22] at f23
        exact hKn v19 x2 v22 v15 (upd jK qB.toNatClampNeg r5) (by omega) aBN (by omega) (by omega) (by omega)
    · skip
      have c6 := (zJ _ _).mp c6
      exact ts_X9_gentle_91 dN uU gF qF mX oE dY jE eW eY fY gJ jG xL aAC zK hpost qB jK aAK
set_option maxHeartbeats 8000000 in
set_option maxRecDepth 200000 in
theorem tb_X9_gentle_39 {post : Int32 → Int32 → (Nat → Int32) → Prop} (dN : Int32) (uU gF qF mX oE dY : Nat → Int32) (jE eW eY fY gJ jG : Int32) (xL : 0 ≤ Int32.toInt dN ∧ Int32.toInt dN ≤ 16) (aAC : -1 ≤ Int32.toInt fY ∧ Int32.toInt fY ≤ 7) (zK : 0 ≤ Int32.toInt jG ∧ Int32.toInt jG ≤ 9) (hpost : ∀ (r : Int32) (zV : Int32) (aAV : Nat → Int32), (-2 ≤ Int32.toInt r ∧ Int32.toInt r ≤ 16) → (0 ≤ Int32.toInt zV ∧ Int32.toInt zV ≤ 16) → post r zV aAV) : ∀ (n : Nat) (x1 x2 x3 qB : Int32) (jK : Nat → Int32), (0 ≤ Int32.toInt x1 ∧ Int32.toInt x1 ≤ 65535) → (0 ≤ Int32.toInt x2 ∧ Int32.toInt x2 ≤ 65535) → (0 ≤ Int32.toInt x3 ∧ Int32.toInt x3 ≤ 16) → (0 ≤ Int32.toInt qB ∧ Int32.toInt qB ≤ 16) → (16 - Int32.toInt x3 < (n : Int)) → wb_X9_gentle_39 post dN uU gF qF mX oE dY jE eW eY fY gJ jG n x1 x2 x3 qB jK := by
  intro n
  induction n with
  | zero =>
    intro x1 x2 x3 qB jK aBK aBN aCH aAK hm
    exfalso; omega
  | succ n ih =>
    intro x1 x2 x3 qB jK aBK aBN aCH aAK hm
    exact ts_X9_gentle_39 dN uU gF qF mX oE dY jE eW eY fY gJ jG xL aAC zK hpost ih x1 x2 x3 qB jK aBK aBN aCH aAK (by omega)
set_option maxHeartbeats 8000000 in
set_option maxRecDepth 200000 in
theorem t_X9_gentle {post : Int32 → Int32 → (Nat → Int32) → Prop} {dN : Int32} {uU gF qF mX oE dY : Nat → Int32} {jE eW eY fY gJ jG qB : Int32} {jK : Nat → Int32} (xL : 0 ≤ Int32.toInt dN ∧ Int32.toInt dN ≤ 16) (aAC : -1 ≤ Int32.toInt fY ∧ Int32.toInt fY ≤ 7) (zK : 0 ≤ Int32.toInt jG ∧ Int32.toInt jG ≤ 9) (aAK : 0 ≤ Int32.toInt qB ∧ Int32.toInt qB ≤ 16) (hpost : ∀ (r : Int32) (zV : Int32) (aAV : Nat → Int32), (-2 ≤ Int32.toInt r ∧ Int32.toInt r ≤ 16) → (0 ≤ Int32.toInt zV ∧ Int32.toInt zV ≤ 16) → post r zV aAV) : wp_X9_gentle post dN uU gF qF mX oE dY jE eW eY fY gJ jG qB jK := by
  have l0 := aI2
  have l1 := li_m2
  have l2 := aE0
  have l3 := aEc
  have l4 := li_2
  refine And.intro (fun c24 => ?_) (fun c24 => ?_)
  · skip
    have c24 := mt (zJ _ _).mpr c24
    intro v25 ev25
    have f26 := aDv 16 65536 dN (by decide) (by omega)
    have hv25 := congrArg Int32.toInt ev25
    intro v27 ev27
    intro v28 ev28
    refine And.intro (fun c29 => ?_) (fun c29 => ?_)
    · skip
      have c29 := mt (zJ _ _).mpr c29
      intro v30 ev30
      have hv30 := congrArg Int32.toInt ev30
      intro v32 ev32
      have hv32 := congrArg Int32.toInt ev32
      refine t_X3_within (by omega) xL (fun r34 h_r34 => ?_)
      intro v35 ev35
      have hv35 := congrArg Int32.toInt ev35
      intro v36 ev36
      intro v37 ev37
      refine t_X3_ripeBy zK xL (fun r38 h_r38 => ?_)
      intro v39 ev39
      have f40 := aAQ ((v35 - 1) &&& (v37 ^^^ (-1))) r38 (by omega)
      have f42 : Int32.toInt (v35 - 1) = Int32.toInt v35 - Int32.toInt (1 : Int32) := aCA _ _ (by omega)
      have f43 := aBx (v35 - 1) (v37 ^^^ (-1)) (by omega)
      have f44 := aBx ((v35 - 1) &&& (v37 ^^^ (-1))) r38 (by omega)
      have hv39 := congrArg Int32.toInt ev39
      have f46 : Int32.toInt (v25 - 1) = Int32.toInt v25 - Int32.toInt (1 : Int32) := aCA _ _ (by omega)
      have f47 := aBx (v25 - 1) (v28 ^^^ (-1)) (by omega)
      have f48 := aAQ v39 r34 (by omega)
      have f49 := aBx v39 r34 (by omega)
      exact ⟨18, tb_X9_gentle_39 dN uU gF qF mX oE dY jE eW eY fY gJ jG xL aAC zK hpost _ ((v25 - 1) &&& (v28 ^^^ (-1))) (v39 &&& r34) 0 0 jK (by omega) (by omega) (by omega) (by omega) (by omega)⟩
    · skip
      have c29 := (zJ _ _).mp c29
      exfalso; omega
  · skip
    have c24 := (zJ _ _).mp c24
    exact hpost _ _ _ (by omega) aAK
set_option maxHeartbeats 8000000 in
set_option maxRecDepth 200000 in
theorem ts_X9_harm_78 {post : Int32 → Int32 → (Nat → Int32) → Prop} {K35 : Int32 → Int32 → Int32 → Int32 → Int32 → (Nat → Int32) → Prop} {n35 : Int} (dN : Int32) (uU gF pL qF mX oE dY : Nat → Int32) (jE eW eY dU fY gJ jG : Int32) (xL : 0 ≤ Int32.toInt dN ∧ Int32.toInt dN ≤ 16) (aAC : -1 ≤ Int32.toInt fY ∧ Int32.toInt fY ≤ 7) (zK : 0 ≤ Int32.toInt jG ∧ Int32.toInt jG ≤ 9) (hpost : ∀ (r : Int32) (zV : Int32) (aAV : Nat → Int32), (-2 ≤ Int32.toInt r ∧ Int32.toInt r ≤ 65535) → (0 ≤ Int32.toInt zV ∧ Int32.toInt zV ≤ 16) → post r zV aAV) (hK35 : ∀ (x1 : Int32) (x2 : Int32) (x3 : Int32) (x4 : Int32) (qB : Int32) (jK : Nat → Int32), (0 ≤ Int32.toInt x1 ∧ Int32.toInt x1 ≤ 65535) → (0 ≤ Int32.toInt x2 ∧ Int32.toInt x2 ≤ 65535) → (0 ≤ Int32.toInt x3 ∧ Int32.toInt x3 ≤ 65535) → (0 ≤ Int32.toInt x4 ∧ Int32.toInt x4 ≤ 16) → (0 ≤ Int32.toInt qB ∧ Int32.toInt qB ≤ 16) → (16 - Int32.toInt x4 < n35) → K35 x1 x2 x3 x4 qB jK) (x1 x2 x3 x4 qB : Int32) (jK : Nat → Int32) (aBK : 0 ≤ Int32.toInt x1 ∧ Int32.toInt x1 ≤ 65535) (aBN : 0 ≤ Int32.toInt x2 ∧ Int32.toInt x2 ≤ 65535) (aCH : 0 ≤ Int32.toInt x3 ∧ Int32.toInt x3 ≤ 65535) (aDO : 0 ≤ Int32.toInt x4 ∧ Int32.toInt x4 ≤ 15) (aAK : 0 ≤ Int32.toInt qB ∧ Int32.toInt qB ≤ 16) (hn35 : 16 - Int32.toInt x4 ≤ n35) : ws_X9_harm_78 post K35 dN uU gF pL qF mX oE dY jE eW eY dU fY gJ jG x1 x2 x3 x4 qB jK := by
  have l0 := aEc
  intro v1 ev1
  have f2 : Int32.toInt (x4 + 1) = Int32.toInt x4 + Int32.toInt (1 : Int32) := aAD _ _ (by omega)
  rw [← ev1] at f2
  exact hK35 x1 x2 x3 v1 qB jK aBK aBN aCH (by omega) aAK (by omega)
set_option maxHeartbeats 8000000 in
set_option maxRecDepth 200000 in
theorem ts_X9_harm_35 {post : Int32 → Int32 → (Nat → Int32) → Prop} {next : Int32 → Int32 → Int32 → Int32 → Int32 → (Nat → Int32) → Prop} {n35 : Int} (dN : Int32) (uU gF pL qF mX oE dY : Nat → Int32) (jE eW eY dU fY gJ jG : Int32) (xL : 0 ≤ Int32.toInt dN ∧ Int32.toInt dN ≤ 16) (aAC : -1 ≤ Int32.toInt fY ∧ Int32.toInt fY ≤ 7) (zK : 0 ≤ Int32.toInt jG ∧ Int32.toInt jG ≤ 9) (hpost : ∀ (r : Int32) (zV : Int32) (aAV : Nat → Int32), (-2 ≤ Int32.toInt r ∧ Int32.toInt r ≤ 65535) → (0 ≤ Int32.toInt zV ∧ Int32.toInt zV ≤ 16) → post r zV aAV) (hKn : ∀ (x1 : Int32) (x2 : Int32) (x3 : Int32) (x4 : Int32) (qB : Int32) (jK : Nat → Int32), (0 ≤ Int32.toInt x1 ∧ Int32.toInt x1 ≤ 65535) → (0 ≤ Int32.toInt x2 ∧ Int32.toInt x2 ≤ 65535) → (0 ≤ Int32.toInt x3 ∧ Int32.toInt x3 ≤ 65535) → (0 ≤ Int32.toInt x4 ∧ Int32.toInt x4 ≤ 16) → (0 ≤ Int32.toInt qB ∧ Int32.toInt qB ≤ 16) → (16 - Int32.toInt x4 < n35) → next x1 x2 x3 x4 qB jK) (x1 x2 x3 x4 qB : Int32) (jK : Nat → Int32) (aBK : 0 ≤ Int32.toInt x1 ∧ Int32.toInt x1 ≤ 65535) (aBN : 0 ≤ Int32.toInt x2 ∧ Int32.toInt x2 ≤ 65535) (aCH : 0 ≤ Int32.toInt x3 ∧ Int32.toInt x3 ≤ 65535) (aDO : 0 ≤ Int32.toInt x4 ∧ Int32.toInt x4 ≤ 16) (aAK : 0 ≤ Int32.toInt qB ∧ Int32.toInt qB ≤ 16) (hn35 : 16 - Int32.toInt x4 ≤ n35) : ws_X9_harm_35 post next dN uU gF pL qF mX oE dY jE eW eY dU fY gJ jG x1 x2 x3 x4 qB jK := by
  have l0 := aE0
  have l1 := aEc
  refine And.intro (fun c3 => ?_) (fun c3 => ?_)
  · skip
    have c3 := (aAO _ _).mp c3
    refine aUx xL (fun r4 => ?_)
    intro v5 ev5
    refine aUx xL (fun r6 => ?_)
    intro v7 ev7
    have hv7 := congrArg Int32.toInt ev7
    refine And.intro (fun h9 => absurd h9 (by decide)) (fun _ => ?_)
    refine And.intro (aBZ (by omega)) ?_
    intro v9 ev9
    have f10 : Int32.toInt (0 + 1) = Int32.toInt (0 : Int32) + Int32.toInt (1 : Int32) := aAD _ _ (by omega)
    rw [← ev9] at f10
    exact hpost _ _ _ (by omega) (by omega)
  · skip
    have c3 := mt (aAO _ _).mpr c3
    intro v11 ev11
    have f12 := aRJ x2 x4 (by omega)
    have hv11 := congrArg Int32.toInt ev11
    have f14 := aAQ v11 1 (by omega)
    have f15 := aBx v11 1 (by omega)
    refine And.intro (fun c13 => ?_) (fun c13 => ?_)
    · skip
      have c13 := (zJ _ _).mp c13
      exact ts_X9_harm_78 dN uU gF pL qF mX oE dY jE eW eY dU fY gJ jG xL aAC zK hpost hKn x1 x2 x3 x4 qB jK aBK aBN aCH (by omega) aAK hn35
    · skip
      have c13 := mt (zJ _ _).mpr c13
      refine t_X3_lowerThan (by omega) aBK (by omega) (fun r16 h_r16 => ?_)
      intro v17 ev17
      have f18 := ti_or 16 65536 x3 r16 (by decide) (by omega) (by omega)
      have hv17 := congrArg Int32.toInt ev17
      intro v19 ev19
      have f20 := aDv 15 32768 x4 (by decide) (by omega)
      have hv19 := congrArg Int32.toInt ev19
      intro v21 ev21
      have f23 := aBx x1 (v19 ^^^ (-1)) (by omega)
      have hv21 := congrArg Int32.toInt ev21
      exact ts_X9_harm_78 dN uU gF pL qF mX oE dY jE eW eY dU fY gJ jG xL aAC zK hpost hKn v21 x2 v17 x4 qB jK (by omega) aBN (by omega) (by omega) aAK hn35
set_option maxHeartbeats 8000000 in
set_option maxRecDepth 200000 in
theorem tb_X9_harm_35 {post : Int32 → Int32 → (Nat → Int32) → Prop} (dN : Int32) (uU gF pL qF mX oE dY : Nat → Int32) (jE eW eY dU fY gJ jG : Int32) (xL : 0 ≤ Int32.toInt dN ∧ Int32.toInt dN ≤ 16) (aAC : -1 ≤ Int32.toInt fY ∧ Int32.toInt fY ≤ 7) (zK : 0 ≤ Int32.toInt jG ∧ Int32.toInt jG ≤ 9) (hpost : ∀ (r : Int32) (zV : Int32) (aAV : Nat → Int32), (-2 ≤ Int32.toInt r ∧ Int32.toInt r ≤ 65535) → (0 ≤ Int32.toInt zV ∧ Int32.toInt zV ≤ 16) → post r zV aAV) : ∀ (n : Nat) (x1 x2 x3 x4 qB : Int32) (jK : Nat → Int32), (0 ≤ Int32.toInt x1 ∧ Int32.toInt x1 ≤ 65535) → (0 ≤ Int32.toInt x2 ∧ Int32.toInt x2 ≤ 65535) → (0 ≤ Int32.toInt x3 ∧ Int32.toInt x3 ≤ 65535) → (0 ≤ Int32.toInt x4 ∧ Int32.toInt x4 ≤ 16) → (0 ≤ Int32.toInt qB ∧ Int32.toInt qB ≤ 16) → (16 - Int32.toInt x4 < (n : Int)) → wb_X9_harm_35 post dN uU gF pL qF mX oE dY jE eW eY dU fY gJ jG n x1 x2 x3 x4 qB jK := by
  intro n
  induction n with
  | zero =>
    intro x1 x2 x3 x4 qB jK aBK aBN aCH aDO aAK hm
    exfalso; omega
  | succ n ih =>
    intro x1 x2 x3 x4 qB jK aBK aBN aCH aDO aAK hm
    exact ts_X9_harm_35 dN uU gF pL qF mX oE dY jE eW eY dU fY gJ jG xL aAC zK hpost ih x1 x2 x3 x4 qB jK aBK aBN aCH aDO aAK (by omega)
set_option maxHeartbeats 8000000 in
set_option maxRecDepth 200000 in
theorem t_X9_harm {post : Int32 → Int32 → (Nat → Int32) → Prop} {dN : Int32} {uU gF pL qF mX oE dY : Nat → Int32} {jE eW eY dU fY gJ jG qB : Int32} {jK : Nat → Int32} (xL : 0 ≤ Int32.toInt dN ∧ Int32.toInt dN ≤ 16) (aAC : -1 ≤ Int32.toInt fY ∧ Int32.toInt fY ≤ 7) (zK : 0 ≤ Int32.toInt jG ∧ Int32.toInt jG ≤ 9) (aAK : 0 ≤ Int32.toInt qB ∧ Int32.toInt qB ≤ 16) (hpost : ∀ (r : Int32) (zV : Int32) (aAV : Nat → Int32), (-2 ≤ Int32.toInt r ∧ Int32.toInt r ≤ 65535) → (0 ≤ Int32.toInt zV ∧ Int32.toInt zV ≤ 16) → post r zV aAV) : wp_X9_harm post dN uU gF pL qF mX oE dY jE eW eY dU fY gJ jG qB jK := by
  have l0 := aI2
  have l1 := li_m2
  have l2 := aE0
  have l3 := aEc
  have l4 := li_2
  refine And.intro (fun c24 => ?_) (fun c24 => ?_)
  · skip
    have c24 := mt (zJ _ _).mpr c24
    intro v25 ev25
    have f26 := aDv 16 65536 dN (by decide) (by omega)
    have hv25 := congrArg Int32.toInt ev25
    intro v27 ev27
    intro v28 ev28
    refine And.intro (fun c29 => ?_) (fun c29 => ?_)
    · skip
      have c29 := mt (zJ _ _).mpr c29
      intro v30 ev30
      have hv30 := congrArg Int32.toInt ev30
      intro v32 ev32
      have hv32 := congrArg Int32.toInt ev32
      refine t_X3_within (by omega) xL (fun r34 h_r34 => ?_)
      intro v35 ev35
      have hv35 := congrArg Int32.toInt ev35
      intro v36 ev36
      intro v37 ev37
      refine t_X3_ripeBy zK xL (fun r38 h_r38 => ?_)
      intro v39 ev39
      have f40 := aAQ ((v35 - 1) &&& (v37 ^^^ (-1))) r38 (by omega)
      have f42 : Int32.toInt (v35 - 1) = Int32.toInt v35 - Int32.toInt (1 : Int32) := aCA _ _ (by omega)
      have f43 := aBx (v35 - 1) (v37 ^^^ (-1)) (by omega)
      have f44 := aBx ((v35 - 1) &&& (v37 ^^^ (-1))) r38 (by omega)
      have hv39 := congrArg Int32.toInt ev39
      have f46 : Int32.toInt (v25 - 1) = Int32.toInt v25 - Int32.toInt (1 : Int32) := aCA _ _ (by omega)
      have f47 := aBx (v25 - 1) (v28 ^^^ (-1)) (by omega)
      have f48 := aAQ v39 r34 (by omega)
      have f49 := aBx v39 r34 (by omega)
      exact ⟨18, tb_X9_harm_35 dN uU gF pL qF mX oE dY jE eW eY dU fY gJ jG xL aAC zK hpost _ ((v25 - 1) &&& (v28 ^^^ (-1))) (v39 &&& r34) 0 0 qB jK (by omega) (by omega) (by omega) (by omega) aAK (by omega)⟩
    · skip
      have c29 := (zJ _ _).mp c29
      exfalso; omega
  · skip
    have c24 := (zJ _ _).mp c24
    exact hpost _ _ _ (by omega) aAK
set_option maxHeartbeats 8000000 in
set_option maxRecDepth 200000 in
theorem ts_X5_loadFirsts_93 {post : (Nat → Int32) → (Nat → Int32) → (Nat → Int32) → Prop} {K7 : Int32 → Int32 → Int32 → (Nat → Int32) → (Nat → Int32) → (Nat → Int32) → Prop} {K50 : Int32 → Int32 → Int32 → Int32 → Int32 → (Nat → Int32) → (Nat → Int32) → (Nat → Int32) → Prop} {n7 n50 : Int} (oY : Int32) (rD : Nat → Int32) (dN bD : Int32) (uU gF pL mX oE : Nat → Int32) (dU pQ : Int32) (pN : Nat → Int32) (aAE : 0 ≤ Int32.toInt oY ∧ Int32.toInt oY ≤ 65535) (zR : ∀ k : Nat, 0 ≤ Int32.toInt (rD k) ∧ Int32.toInt (rD k) ≤ 65535) (xL : 0 ≤ Int32.toInt dN ∧ Int32.toInt dN ≤ 16) (wX : 0 ≤ Int32.toInt bD ∧ Int32.toInt bD ≤ 8) (zU : 0 ≤ Int32.toInt pQ ∧ Int32.toInt pQ ≤ 40) (hpost : ∀ (pl_load' : Nat → Int32) (aCG : Nat → Int32) (aB4 : Nat → Int32), post pl_load' aCG aB4) (hK7 : ∀ (x1 : Int32) (x2 : Int32) (x3 : Int32) (vX : Nat → Int32) (qY : Nat → Int32) (qU : Nat → Int32), (0 ≤ Int32.toInt x1 ∧ Int32.toInt x1 ≤ 255) → (0 ≤ Int32.toInt x2 ∧ Int32.toInt x2 ≤ 65535) → (0 ≤ Int32.toInt x3 ∧ Int32.toInt x3 ≤ 8) → (8 - Int32.toInt x3 < n7) → K7 x1 x2 x3 vX qY qU) (hK50 : ∀ (x1 : Int32) (x2 : Int32) (x3 : Int32) (x4 : Int32) (x5 : Int32) (vX : Nat → Int32) (qY : Nat → Int32) (qU : Nat → Int32), (0 ≤ Int32.toInt x1 ∧ Int32.toInt x1 ≤ 255) → (0 ≤ Int32.toInt x2 ∧ Int32.toInt x2 ≤ 65535) → (0 ≤ Int32.toInt x3 ∧ Int32.toInt x3 ≤ 7) → (0 ≤ Int32.toInt x4 ∧ Int32.toInt x4 ≤ 65535) → (0 ≤ Int32.toInt x5 ∧ Int32.toInt x5 ≤ 16) → (8 - Int32.toInt x3 ≤ n7) → (16 - Int32.toInt x5 < n50) → K50 x1 x2 x3 x4 x5 vX qY qU) (x1 x2 x3 x4 x5 : Int32) (vX qY qU : Nat → Int32) (aBK : 0 ≤ Int32.toInt x1 ∧ Int32.toInt x1 ≤ 255) (aBN : 0 ≤ Int32.toInt x2 ∧ Int32.toInt x2 ≤ 65535) (aCH : 0 ≤ Int32.toInt x3 ∧ Int32.toInt x3 ≤ 7) (aDO : 0 ≤ Int32.toInt x4 ∧ Int32.toInt x4 ≤ 65535) (aF7 : 0 ≤ Int32.toInt x5 ∧ Int32.toInt x5 ≤ 15) (hn7 : 8 - Int32.toInt x3 ≤ n7) (hn50 : 16 - Int32.toInt x5 ≤ n50) : ws_X5_loadFirsts_93 post K7 K50 oY rD dN bD uU gF pL mX oE dU pQ pN x1 x2 x3 x4 x5 vX qY qU := by
  have l0 := aEc
  intro v1 ev1
  have f2 : Int32.toInt (x5 + 1) = Int32.toInt x5 + Int32.toInt (1 : Int32) := aAD _ _ (by omega)
  rw [← ev1] at f2
  exact hK50 x1 x2 x3 x4 v1 vX qY qU aBK aBN aCH aDO (by omega) hn7 (by omega)
set_option maxHeartbeats 8000000 in
set_option maxRecDepth 200000 in
theorem ts_X5_loadFirsts_50 {post : (Nat → Int32) → (Nat → Int32) → (Nat → Int32) → Prop} {K7 : Int32 → Int32 → Int32 → (Nat → Int32) → (Nat → Int32) → (Nat → Int32) → Prop} {next : Int32 → Int32 → Int32 → Int32 → Int32 → (Nat → Int32) → (Nat → Int32) → (Nat → Int32) → Prop} {n50 n7 : Int} (oY : Int32) (rD : Nat → Int32) (dN bD : Int32) (uU gF pL mX oE : Nat → Int32) (dU pQ : Int32) (pN : Nat → Int32) (aAE : 0 ≤ Int32.toInt oY ∧ Int32.toInt oY ≤ 65535) (zR : ∀ k : Nat, 0 ≤ Int32.toInt (rD k) ∧ Int32.toInt (rD k) ≤ 65535) (xL : 0 ≤ Int32.toInt dN ∧ Int32.toInt dN ≤ 16) (wX : 0 ≤ Int32.toInt bD ∧ Int32.toInt bD ≤ 8) (zU : 0 ≤ Int32.toInt pQ ∧ Int32.toInt pQ ≤ 40) (hpost : ∀ (pl_load' : Nat → Int32) (aCG : Nat → Int32) (aB4 : Nat → Int32), post pl_load' aCG aB4) (hK7 : ∀ (x1 : Int32) (x2 : Int32) (x3 : Int32) (vX : Nat → Int32) (qY : Nat → Int32) (qU : Nat → Int32), (0 ≤ Int32.toInt x1 ∧ Int32.toInt x1 ≤ 255) → (0 ≤ Int32.toInt x2 ∧ Int32.toInt x2 ≤ 65535) → (0 ≤ Int32.toInt x3 ∧ Int32.toInt x3 ≤ 8) → (8 - Int32.toInt x3 < n7) → K7 x1 x2 x3 vX qY qU) (hKn : ∀ (x1 : Int32) (x2 : Int32) (x3 : Int32) (x4 : Int32) (x5 : Int32) (vX : Nat → Int32) (qY : Nat → Int32) (qU : Nat → Int32), (0 ≤ Int32.toInt x1 ∧ Int32.toInt x1 ≤ 255) → (0 ≤ Int32.toInt x2 ∧ Int32.toInt x2 ≤ 65535) → (0 ≤ Int32.toInt x3 ∧ Int32.toInt x3 ≤ 7) → (0 ≤ Int32.toInt x4 ∧ Int32.toInt x4 ≤ 65535) → (0 ≤ Int32.toInt x5 ∧ Int32.toInt x5 ≤ 16) → (8 - Int32.toInt x3 ≤ n7) → (16 - Int32.toInt x5 < n50) → next x1 x2 x3 x4 x5 vX qY qU) (x1 x2 x3 x4 x5 : Int32) (vX qY qU : Nat → Int32) (aBK : 0 ≤ Int32.toInt x1 ∧ Int32.toInt x1 ≤ 255) (aBN : 0 ≤ Int32.toInt x2 ∧ Int32.toInt x2 ≤ 65535) (aCH : 0 ≤ Int32.toInt x3 ∧ Int32.toInt x3 ≤ 7) (aDO : 0 ≤ Int32.toInt x4 ∧ Int32.toInt x4 ≤ 65535) (aF7 : 0 ≤ Int32.toInt x5 ∧ Int32.toInt x5 ≤ 16) (hn7 : 8 - Int32.toInt x3 ≤ n7) (hn50 : 16 - Int32.toInt x5 ≤ n50) : ws_X5_loadFirsts_50 post K7 next oY rD dN bD uU gF pL mX oE dU pQ pN x1 x2 x3 x4 x5 vX qY qU := by
  have l0 := aE0
  have l1 := aEc
  refine And.intro (fun c3 => ?_) (fun c3 => ?_)
  · skip
    have c3 := (aAO _ _).mp c3
    intro v4 ev4
    have f6 := aBx x2 (x4 ^^^ (-1)) (by omega)
    have hv4 := congrArg Int32.toInt ev4
    intro v7 ev7
    have f8 : Int32.toInt (x3 + 1) = Int32.toInt x3 + Int32.toInt (1 : Int32) := aAD _ _ (by omega)
    rw [← ev7] at f8
    exact hK7 x1 v4 v7 vX qY qU aBK (by omega) (by omega) (by omega)
  · skip
    have c3 := mt (aAO _ _).mpr c3
    intro v9 ev9
    have f10 := aRJ x4 x5 (by omega)
    have hv9 := congrArg Int32.toInt ev9
    have f12 := aAQ v9 1 (by omega)
    have f13 := aBx v9 1 (by omega)
    refine And.intro (fun c11 => ?_) (fun c11 => ?_)
    · skip
      have c11 := (zJ _ _).mp c11
      exact ts_X5_loadFirsts_93 oY rD dN bD uU gF pL mX oE dU pQ pN aAE zR xL wX zU hpost hK7 hKn x1 x2 x3 x4 x5 vX qY qU aBK aBN aCH aDO (by omega) hn7 hn50
    · skip
      have c11 := mt (zJ _ _).mpr c11
      refine And.intro (aBZ (by omega)) ?_
      intro v14 ev14
      have hv14 := congrArg Int32.toInt ev14
      refine aUV (by omega) aCH (by omega) xL zU (fun r18 ru_given_16 ru_stack_17 h_r18 => ?_)
      intro v19 ev19
      have hv19 := congrArg Int32.toInt ev19
      refine And.intro (aBZ (by omega)) ?_
      exact ts_X5_loadFirsts_93 oY rD dN bD uU gF pL mX oE dU pQ pN aAE zR xL wX zU hpost hK7 hKn x1 x2 x3 x4 x5 (upd vX x3.toNatClampNeg v19) ru_given_16 ru_stack_17 aBK aBN aCH aDO (by omega) hn7 hn50
set_option maxHeartbeats 8000000 in
set_option maxRecDepth 200000 in
theorem tb_X5_loadFirsts_50 {post : (Nat → Int32) → (Nat → Int32) → (Nat → Int32) → Prop} {K7 : Int32 → Int32 → Int32 → (Nat → Int32) → (Nat → Int32) → (Nat → Int32) → Prop} {n7 : Int} (oY : Int32) (rD : Nat → Int32) (dN bD : Int32) (uU gF pL mX oE : Nat → Int32) (dU pQ : Int32) (pN : Nat → Int32) (aAE : 0 ≤ Int32.toInt oY ∧ Int32.toInt oY ≤ 65535) (zR : ∀ k : Nat, 0 ≤ Int32.toInt (rD k) ∧ Int32.toInt (rD k) ≤ 65535) (xL : 0 ≤ Int32.toInt dN ∧ Int32.toInt dN ≤ 16) (wX : 0 ≤ Int32.toInt bD ∧ Int32.toInt bD ≤ 8) (zU : 0 ≤ Int32.toInt pQ ∧ Int32.toInt pQ ≤ 40) (hpost : ∀ (pl_load' : Nat → Int32) (aCG : Nat → Int32) (aB4 : Nat → Int32), post pl_load' aCG aB4) (hK7 : ∀ (x1 : Int32) (x2 : Int32) (x3 : Int32) (vX : Nat → Int32) (qY : Nat → Int32) (qU : Nat → Int32), (0 ≤ Int32.toInt x1 ∧ Int32.toInt x1 ≤ 255) → (0 ≤ Int32.toInt x2 ∧ Int32.toInt x2 ≤ 65535) → (0 ≤ Int32.toInt x3 ∧ Int32.toInt x3 ≤ 8) → (8 - Int32.toInt x3 < n7) → K7 x1 x2 x3 vX qY qU) : ∀ (n : Nat) (x1 x2 x3 x4 x5 : Int32) (vX qY qU : Nat → Int32), (0 ≤ Int32.toInt x1 ∧ Int32.toInt x1 ≤ 255) → (0 ≤ Int32.toInt x2 ∧ Int32.toInt x2 ≤ 65535) → (0 ≤ Int32.toInt x3 ∧ Int32.toInt x3 ≤ 7) → (0 ≤ Int32.toInt x4 ∧ Int32.toInt x4 ≤ 65535) → (0 ≤ Int32.toInt x5 ∧ Int32.toInt x5 ≤ 16) → (8 - Int32.toInt x3 ≤ n7) → (16 - Int32.toInt x5 < (n : Int)) → wb_X5_loadFirsts_50 post K7 oY rD dN bD uU gF pL mX oE dU pQ pN n x1 x2 x3 x4 x5 vX qY qU := by
  intro n
  induction n with
  | zero =>
    intro x1 x2 x3 x4 x5 vX qY qU aBK aBN aCH aDO aF7 hn7 hm
    exfalso; omega
  | succ n ih =>
    intro x1 x2 x3 x4 x5 vX qY qU aBK aBN aCH aDO aF7 hn7 hm
    exact ts_X5_loadFirsts_50 oY rD dN bD uU gF pL mX oE dU pQ pN aAE zR xL wX zU hpost hK7 ih x1 x2 x3 x4 x5 vX qY qU aBK aBN aCH aDO aF7 hn7 (by omega)
set_option maxHeartbeats 8000000 in
set_option maxRecDepth 200000 in
theorem ts_X5_loadFirsts_45 {post : (Nat → Int32) → (Nat → Int32) → (Nat → Int32) → Prop} {K7 : Int32 → Int32 → Int32 → (Nat → Int32) → (Nat → Int32) → (Nat → Int32) → Prop} {n7 : Int} (oY : Int32) (rD : Nat → Int32) (dN bD : Int32) (uU gF pL mX oE : Nat → Int32) (dU pQ : Int32) (pN : Nat → Int32) (aAE : 0 ≤ Int32.toInt oY ∧ Int32.toInt oY ≤ 65535) (zR : ∀ k : Nat, 0 ≤ Int32.toInt (rD k) ∧ Int32.toInt (rD k) ≤ 65535) (xL : 0 ≤ Int32.toInt dN ∧ Int32.toInt dN ≤ 16) (wX : 0 ≤ Int32.toInt bD ∧ Int32.toInt bD ≤ 8) (zU : 0 ≤ Int32.toInt pQ ∧ Int32.toInt pQ ≤ 40) (hpost : ∀ (pl_load' : Nat → Int32) (aCG : Nat → Int32) (aB4 : Nat → Int32), post pl_load' aCG aB4) (hK7 : ∀ (x1 : Int32) (x2 : Int32) (x3 : Int32) (vX : Nat → Int32) (qY : Nat → Int32) (qU : Nat → Int32), (0 ≤ Int32.toInt x1 ∧ Int32.toInt x1 ≤ 255) → (0 ≤ Int32.toInt x2 ∧ Int32.toInt x2 ≤ 65535) → (0 ≤ Int32.toInt x3 ∧ Int32.toInt x3 ≤ 8) → (8 - Int32.toInt x3 < n7) → K7 x1 x2 x3 vX qY qU) (x1 x2 x3 k0 : Int32) (vX qY qU : Nat → Int32) (aBK : 0 ≤ Int32.toInt x1 ∧ Int32.toInt x1 ≤ 255) (aBN : 0 ≤ Int32.toInt x2 ∧ Int32.toInt x2 ≤ 65535) (aCH : 0 ≤ Int32.toInt x3 ∧ Int32.toInt x3 ≤ 7) (h_k0 : 0 ≤ Int32.toInt k0 ∧ Int32.toInt k0 ≤ 65535) (hn7 : 8 - Int32.toInt x3 ≤ n7) : ws_X5_loadFirsts_45 post K7 oY rD dN bD uU gF pL mX oE dU pQ pN x1 x2 x3 k0 vX qY qU := by
  have l0 := aE0
  exact ⟨18, tb_X5_loadFirsts_50 oY rD dN bD uU gF pL mX oE dU pQ pN aAE zR xL wX zU hpost hK7 _ x1 x2 x3 k0 0 vX qY qU aBK aBN aCH h_k0 (by omega) hn7 (by omega)⟩
set_option maxHeartbeats 8000000 in
set_option maxRecDepth 200000 in
theorem ts_X5_loadFirsts_7 {post : (Nat → Int32) → (Nat → Int32) → (Nat → Int32) → Prop} {next : Int32 → Int32 → Int32 → (Nat → Int32) → (Nat → Int32) → (Nat → Int32) → Prop} {n7 : Int} (oY : Int32) (rD : Nat → Int32) (dN bD : Int32) (uU gF pL mX oE : Nat → Int32) (dU pQ : Int32) (pN : Nat → Int32) (aAE : 0 ≤ Int32.toInt oY ∧ Int32.toInt oY ≤ 65535) (zR : ∀ k : Nat, 0 ≤ Int32.toInt (rD k) ∧ Int32.toInt (rD k) ≤ 65535) (xL : 0 ≤ Int32.toInt dN ∧ Int32.toInt dN ≤ 16) (wX : 0 ≤ Int32.toInt bD ∧ Int32.toInt bD ≤ 8) (zU : 0 ≤ Int32.toInt pQ ∧ Int32.toInt pQ ≤ 40) (hpost : ∀ (pl_load' : Nat → Int32) (aCG : Nat → Int32) (aB4 : Nat → Int32), post pl_load' aCG aB4) (hKn : ∀ (x1 : Int32) (x2 : Int32) (x3 : Int32) (vX : Nat → Int32) (qY : Nat → Int32) (qU : Nat → Int32), (0 ≤ Int32.toInt x1 ∧ Int32.toInt x1 ≤ 255) → (0 ≤ Int32.toInt x2 ∧ Int32.toInt x2 ≤ 65535) → (0 ≤ Int32.toInt x3 ∧ Int32.toInt x3 ≤ 8) → (8 - Int32.toInt x3 < n7) → next x1 x2 x3 vX qY qU) (x1 x2 x3 : Int32) (vX qY qU : Nat → Int32) (aBK : 0 ≤ Int32.toInt x1 ∧ Int32.toInt x1 ≤ 255) (aBN : 0 ≤ Int32.toInt x2 ∧ Int32.toInt x2 ≤ 65535) (aCH : 0 ≤ Int32.toInt x3 ∧ Int32.toInt x3 ≤ 8) (hn7 : 8 - Int32.toInt x3 ≤ n7) : ws_X5_loadFirsts_7 post next oY rD dN bD uU gF pL mX oE dU pQ pN x1 x2 x3 vX qY qU := by
  have l0 := aE0
  have l1 := aEc
  refine And.intro (fun c21 => ?_) (fun c21 => ?_)
  · skip
    have c21 := (aAO _ _).mp c21
    exact hpost _ _ _ 
  · skip
    have c21 := mt (aAO _ _).mpr c21
    refine And.intro (aBZ (by omega)) ?_
    intro v22 ev22
    have f23 := aRJ x1 x3 (by omega)
    have hv22 := congrArg Int32.toInt ev22
    have f25 := aAQ v22 1 (by omega)
    have f26 := aBx v22 1 (by omega)
    refine And.intro (fun c24 => ?_) (fun c24 => ?_)
    · skip
      have c24 := (zJ _ _).mp c24
      exact ts_X5_loadFirsts_45 oY rD dN bD uU gF pL mX oE dU pQ pN aAE zR xL wX zU hpost hKn x1 x2 x3 0 (upd vX x3.toNatClampNeg 0) qY qU aBK aBN (by omega) (by omega) hn7
    · skip
      have c24 := mt (zJ _ _).mpr c24
      refine And.intro (aBZ (by omega)) ?_
      intro v27 ev27
      have f29 := zR x3.toNatClampNeg
      have f28 := aAQ x2 (rD x3.toNatClampNeg) (by omega)
      have f30 := aBx x2 (rD x3.toNatClampNeg) (by omega)
      have hv27 := congrArg Int32.toInt ev27
      exact ts_X5_loadFirsts_45 oY rD dN bD uU gF pL mX oE dU pQ pN aAE zR xL wX zU hpost hKn x1 x2 x3 v27 (upd vX x3.toNatClampNeg 0) qY qU aBK aBN (by omega) (by omega) hn7
set_option maxHeartbeats 8000000 in
set_option maxRecDepth 200000 in
theorem tb_X5_loadFirsts_7 {post : (Nat → Int32) → (Nat → Int32) → (Nat → Int32) → Prop} (oY : Int32) (rD : Nat → Int32) (dN bD : Int32) (uU gF pL mX oE : Nat → Int32) (dU pQ : Int32) (pN : Nat → Int32) (aAE : 0 ≤ Int32.toInt oY ∧ Int32.toInt oY ≤ 65535) (zR : ∀ k : Nat, 0 ≤ Int32.toInt (rD k) ∧ Int32.toInt (rD k) ≤ 65535) (xL : 0 ≤ Int32.toInt dN ∧ Int32.toInt dN ≤ 16) (wX : 0 ≤ Int32.toInt bD ∧ Int32.toInt bD ≤ 8) (zU : 0 ≤ Int32.toInt pQ ∧ Int32.toInt pQ ≤ 40) (hpost : ∀ (pl_load' : Nat → Int32) (aCG : Nat → Int32) (aB4 : Nat → Int32), post pl_load' aCG aB4) : ∀ (n : Nat) (x1 x2 x3 : Int32) (vX qY qU : Nat → Int32), (0 ≤ Int32.toInt x1 ∧ Int32.toInt x1 ≤ 255) → (0 ≤ Int32.toInt x2 ∧ Int32.toInt x2 ≤ 65535) → (0 ≤ Int32.toInt x3 ∧ Int32.toInt x3 ≤ 8) → (8 - Int32.toInt x3 < (n : Int)) → wb_X5_loadFirsts_7 post oY rD dN bD uU gF pL mX oE dU pQ pN n x1 x2 x3 vX qY qU := by
  intro n
  induction n with
  | zero =>
    intro x1 x2 x3 vX qY qU aBK aBN aCH hm
    exfalso; omega
  | succ n ih =>
    intro x1 x2 x3 vX qY qU aBK aBN aCH hm
    exact ts_X5_loadFirsts_7 oY rD dN bD uU gF pL mX oE dU pQ pN aAE zR xL wX zU hpost ih x1 x2 x3 vX qY qU aBK aBN aCH (by omega)
set_option maxHeartbeats 8000000 in
set_option maxRecDepth 200000 in
theorem t_X5_loadFirsts {post : (Nat → Int32) → (Nat → Int32) → (Nat → Int32) → Prop} {p0 oY : Int32} {rD vX : Nat → Int32} {dN bD : Int32} {uU gF pL mX oE : Nat → Int32} {dU pQ : Int32} {qY qU pN : Nat → Int32} (h_p0 : 0 ≤ Int32.toInt p0 ∧ Int32.toInt p0 ≤ 255) (aAE : 0 ≤ Int32.toInt oY ∧ Int32.toInt oY ≤ 65535) (zR : ∀ k : Nat, 0 ≤ Int32.toInt (rD k) ∧ Int32.toInt (rD k) ≤ 65535) (xL : 0 ≤ Int32.toInt dN ∧ Int32.toInt dN ≤ 16) (wX : 0 ≤ Int32.toInt bD ∧ Int32.toInt bD ≤ 8) (zU : 0 ≤ Int32.toInt pQ ∧ Int32.toInt pQ ≤ 40) (hpost : ∀ (pl_load' : Nat → Int32) (aCG : Nat → Int32) (aB4 : Nat → Int32), post pl_load' aCG aB4) : wp_X5_loadFirsts post p0 oY rD vX dN bD uU gF pL mX oE dU pQ qY qU pN := by
  have l0 := aE0
  exact ⟨10, tb_X5_loadFirsts_7 oY rD dN bD uU gF pL mX oE dU pQ pN aAE zR xL wX zU hpost _ p0 oY 0 vX qY qU h_p0 aAE (by omega) (by omega)⟩
