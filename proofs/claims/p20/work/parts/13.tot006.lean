set_option maxHeartbeats 8000000 in
set_option maxRecDepth 200000 in
theorem ts_X3_worthOf_54 {post : Int32 → Prop} {K5 : Int32 → Int32 → Int32 → Int32 → Prop} {n5 : Int} (dN : Int32) (pL : Nat → Int32) (xL : 0 ≤ Int32.toInt dN ∧ Int32.toInt dN ≤ 16) (hpost : ∀ (r : Int32) , post r) (hK5 : ∀ (x1 : Int32) (x2 : Int32) (x3 : Int32) (x4 : Int32), (0 ≤ Int32.toInt x4 ∧ Int32.toInt x4 ≤ 16) → (16 - Int32.toInt x4 < n5) → K5 x1 x2 x3 x4) (x1 x2 x3 x4 : Int32) (aDO : 0 ≤ Int32.toInt x4 ∧ Int32.toInt x4 ≤ 15) (hn5 : 16 - Int32.toInt x4 ≤ n5) : ws_X3_worthOf_54 post K5 dN pL x1 x2 x3 x4 := by
  have l0 := aEc
  intro v1 ev1
  have f2 : Int32.toInt (x4 + 1) = Int32.toInt x4 + Int32.toInt (1 : Int32) := aAD _ _ (by omega)
  rw [← ev1] at f2
  have f3 := aAT x1
  have f4 := aAT x2
  have f5 := aAT x3
  exact hK5 x1 x2 x3 v1 (by omega) (by omega)
set_option maxHeartbeats 8000000 in
set_option maxRecDepth 200000 in
theorem ts_X3_worthOf_52 {post : Int32 → Prop} {K5 : Int32 → Int32 → Int32 → Int32 → Prop} {n5 : Int} (dN : Int32) (pL : Nat → Int32) (xL : 0 ≤ Int32.toInt dN ∧ Int32.toInt dN ≤ 16) (hpost : ∀ (r : Int32) , post r) (hK5 : ∀ (x1 : Int32) (x2 : Int32) (x3 : Int32) (x4 : Int32), (0 ≤ Int32.toInt x4 ∧ Int32.toInt x4 ≤ 16) → (16 - Int32.toInt x4 < n5) → K5 x1 x2 x3 x4) (x1 x2 x4 k0 k1 : Int32) (aDO : 0 ≤ Int32.toInt x4 ∧ Int32.toInt x4 ≤ 15) (hn5 : 16 - Int32.toInt x4 ≤ n5) : ws_X3_worthOf_52 post K5 dN pL x1 x2 x4 k0 k1 := by
  intro v6 ev6
  have hv6 := congrArg Int32.toInt ev6
  have f8 := aAT x1
  have f9 := aAT x2
  have f10 := aAT v6
  exact ts_X3_worthOf_54 dN pL xL hpost hK5 x1 x2 v6 x4 aDO hn5
set_option maxHeartbeats 8000000 in
set_option maxRecDepth 200000 in
theorem ts_X3_worthOf_5 {post : Int32 → Prop} {next : Int32 → Int32 → Int32 → Int32 → Prop} {n5 : Int} (dN : Int32) (pL : Nat → Int32) (xL : 0 ≤ Int32.toInt dN ∧ Int32.toInt dN ≤ 16) (hpost : ∀ (r : Int32) , post r) (hKn : ∀ (x1 : Int32) (x2 : Int32) (x3 : Int32) (x4 : Int32), (0 ≤ Int32.toInt x4 ∧ Int32.toInt x4 ≤ 16) → (16 - Int32.toInt x4 < n5) → next x1 x2 x3 x4) (x1 x2 x3 x4 : Int32) (aDO : 0 ≤ Int32.toInt x4 ∧ Int32.toInt x4 ≤ 16) (hn5 : 16 - Int32.toInt x4 ≤ n5) : ws_X3_worthOf_5 post next dN pL x1 x2 x3 x4 := by
  have l0 := aE0
  have l1 := aEc
  refine And.intro (fun c11 => ?_) (fun c11 => ?_)
  · skip
    have c11 := (aAO _ _).mp c11
    exact hpost _ 
  · skip
    have c11 := mt (aAO _ _).mpr c11
    intro v12 ev12
    have f14 := aAQ v12 1 (by omega)
    refine And.intro (fun c13 => ?_) (fun c13 => ?_)
    · skip
      have c13 := (zJ _ _).mp c13
      have f15 := aAT x1
      have f16 := aAT x2
      have f17 := aAT x3
      exact ts_X3_worthOf_54 dN pL xL hpost hKn x1 x2 x3 x4 (by omega) hn5
    · skip
      have c13 := mt (zJ _ _).mpr c13
      intro v18 ev18
      have f20 := aAQ v18 1 (by omega)
      refine And.intro (fun c19 => ?_) (fun c19 => ?_)
      · skip
        have c19 := (zJ _ _).mp c19
        refine And.intro (aBZ (by omega)) ?_
        intro v21 ev21
        have hv21 := congrArg Int32.toInt ev21
        have f23 := aAT x1
        have f24 := aAT x2
        have f25 := aAT x3
        have f26 := aAT v21
        exact ts_X3_worthOf_52 dN pL xL hpost hKn x1 x2 x4 x3 v21 (by omega) hn5
      · skip
        have c19 := mt (zJ _ _).mpr c19
        refine And.intro (aBZ (by omega)) ?_
        intro v27 ev27
        have hv27 := congrArg Int32.toInt ev27
        intro v29 ev29
        have f30 := aAT x1
        have f31 := aAT x2
        have f32 := aAT x3
        have f33 := aAT v29
        exact ts_X3_worthOf_52 dN pL xL hpost hKn x1 x2 x4 x3 v29 (by omega) hn5
set_option maxHeartbeats 8000000 in
set_option maxRecDepth 200000 in
theorem tb_X3_worthOf_5 {post : Int32 → Prop} (dN : Int32) (pL : Nat → Int32) (xL : 0 ≤ Int32.toInt dN ∧ Int32.toInt dN ≤ 16) (hpost : ∀ (r : Int32) , post r) : ∀ (n : Nat) (x1 x2 x3 x4 : Int32), (0 ≤ Int32.toInt x4 ∧ Int32.toInt x4 ≤ 16) → (16 - Int32.toInt x4 < (n : Int)) → wb_X3_worthOf_5 post dN pL n x1 x2 x3 x4 := by
  intro n
  induction n with
  | zero =>
    intro x1 x2 x3 x4 aDO hm
    exfalso; omega
  | succ n ih =>
    intro x1 x2 x3 x4 aDO hm
    exact ts_X3_worthOf_5 dN pL xL hpost ih x1 x2 x3 x4 aDO (by omega)
set_option maxHeartbeats 8000000 in
set_option maxRecDepth 200000 in
theorem aUx {post : Int32 → Prop} {p0 p1 dN : Int32} {pL : Nat → Int32} (xL : 0 ≤ Int32.toInt dN ∧ Int32.toInt dN ≤ 16) (hpost : ∀ (r : Int32) , post r) : wp_X3_worthOf post p0 p1 dN pL := by
  have l0 := aE0
  have f34 := aAT p0
  have f35 := aAT p1
  exact ⟨18, tb_X3_worthOf_5 dN pL xL hpost _ p0 p1 0 0 (by omega) (by omega)⟩
set_option maxHeartbeats 8000000 in
set_option maxRecDepth 200000 in
theorem ts_X7_reckon_136 {post : Int32 → (Nat → Int32) → Prop} (pQ : Int32) (qY pN : Nat → Int32) (zU : 1 ≤ Int32.toInt pQ ∧ Int32.toInt pQ ≤ 40) (hpost : ∀ (r : Int32) (aB4 : Nat → Int32), post r aB4) (x1 : Int32) (qU : Nat → Int32) (aBK : 0 ≤ Int32.toInt x1 ∧ Int32.toInt x1 ≤ 40) : ws_X7_reckon_136 post pQ qY pN x1 qU := by
  have l0 := aE0
  have l1 := aEc
  refine And.intro (fun c1 => ?_) (fun c1 => ?_)
  · skip
    have c1 := (aAO _ _).mp c1
    exact hpost _ _ 
  · skip
    have c1 := mt (aAO _ _).mpr c1
    intro v2 ev2
    have f3 : Int32.toInt (x1 - 1) = Int32.toInt x1 - Int32.toInt (1 : Int32) := aCA _ _ (by omega)
    rw [← ev2] at f3
    refine And.intro (aBZ (by omega)) ?_
    intro v4 ev4
    have hv4 := congrArg Int32.toInt ev4
    exact hpost _ _ 
set_option maxHeartbeats 8000000 in
set_option maxRecDepth 200000 in
theorem aKE {post : Int32 → (Nat → Int32) → Prop} {K4 : Int32 → Int32 → (Nat → Int32) → Prop} {n4 : Int} (pQ : Int32) (qY pN : Nat → Int32) (zU : 1 ≤ Int32.toInt pQ ∧ Int32.toInt pQ ≤ 40) (hpost : ∀ (r : Int32) (aB4 : Nat → Int32), post r aB4) (hK4 : ∀ (x1 : Int32) (x2 : Int32) (qU : Nat → Int32), (0 ≤ Int32.toInt x1 ∧ Int32.toInt x1 ≤ 40) → (0 ≤ Int32.toInt x2 ∧ Int32.toInt x2 ≤ 48) → (48 - Int32.toInt x2 < n4) → K4 x1 x2 qU) (x1 x2 : Int32) (qU : Nat → Int32) (aBK : 0 ≤ Int32.toInt x1 ∧ Int32.toInt x1 ≤ 40) (aBN : 0 ≤ Int32.toInt x2 ∧ Int32.toInt x2 ≤ 40) (hn4 : 48 - Int32.toInt x2 ≤ n4) : aRg post K4 pQ qY pN x1 x2 qU := by
  have l0 := aEc
  intro v6 ev6
  have f7 : Int32.toInt (x2 + 1) = Int32.toInt x2 + Int32.toInt (1 : Int32) := aAD _ _ (by omega)
  rw [← ev6] at f7
  exact hK4 x1 v6 qU aBK (by omega) (by omega)
set_option maxHeartbeats 8000000 in
set_option maxRecDepth 200000 in
theorem ts_X7_reckon_4 {post : Int32 → (Nat → Int32) → Prop} {next : Int32 → Int32 → (Nat → Int32) → Prop} {n4 : Int} (pQ : Int32) (qY pN : Nat → Int32) (zU : 1 ≤ Int32.toInt pQ ∧ Int32.toInt pQ ≤ 40) (hpost : ∀ (r : Int32) (aB4 : Nat → Int32), post r aB4) (hKn : ∀ (x1 : Int32) (x2 : Int32) (qU : Nat → Int32), (0 ≤ Int32.toInt x1 ∧ Int32.toInt x1 ≤ 40) → (0 ≤ Int32.toInt x2 ∧ Int32.toInt x2 ≤ 48) → (48 - Int32.toInt x2 < n4) → next x1 x2 qU) (x1 x2 : Int32) (qU : Nat → Int32) (aBK : 0 ≤ Int32.toInt x1 ∧ Int32.toInt x1 ≤ 40) (aBN : 0 ≤ Int32.toInt x2 ∧ Int32.toInt x2 ≤ 48) (hn4 : 48 - Int32.toInt x2 ≤ n4) : ws_X7_reckon_4 post next pQ qY pN x1 x2 qU := by
  have l0 := aI2
  have l1 := aE0
  have l2 := aEc
  have l3 := li_2000
  have l4 := li_2256
  have l5 := li_40
  have l6 := li_42
  have l7 := li_43
  have l8 := li_45
  have l9 := li_60
  have l10 := li_61
  have l11 := li_62
  have l12 := li_7
  refine And.intro (fun c8 => ?_) (fun c8 => ?_)
  · skip
    have c8 := (aAO _ _).mp c8
    exact ts_X7_reckon_136 pQ qY pN zU hpost x1 qU aBK
  · skip
    have c8 := mt (aAO _ _).mpr c8
    refine And.intro (fun c9 => ?_) (fun c9 => ?_)
    · skip
      have c9 := (aAO _ _).mp c9
      exfalso; omega
    · skip
      have c9 := mt (aAO _ _).mpr c9
      refine And.intro (aBZ (by omega)) ?_
      intro v10 ev10
      have hv10 := congrArg Int32.toInt ev10
      have f13 := aAT v10
      refine And.intro (fun c12 => ?_) (fun c12 => ?_)
      · skip
        have c12 := (aAO _ _).mp c12
        refine And.intro (fun c14 => ?_) (fun c14 => ?_)
        · skip
          have c14 := mt (zJ _ _).mpr c14
          refine And.intro (fun c15 => ?_) (fun c15 => ?_)
          · skip
            have c15 := (aAO _ _).mp c15
            exact aKE pQ qY pN zU hpost hKn x1 x2 qU aBK (by omega) hn4
          · skip
            have c15 := mt (aAO _ _).mpr c15
            intro v16 ev16
            have f17 : Int32.toInt (x1 + (-1)) = Int32.toInt x1 + Int32.toInt ((-1) : Int32) := aAD _ _ (by omega)
            rw [← ev16] at f17
            intro v18 ev18
            have f19 : Int32.toInt (v16 - 1) = Int32.toInt v16 - Int32.toInt (1 : Int32) := aCA _ _ (by omega)
            rw [← ev18] at f19
            intro v20 ev20
            have f21 : Int32.toInt (v10 - 2000) = Int32.toInt v10 - Int32.toInt (2000 : Int32) := aCA _ _ (by omega)
            rw [← ev20] at f21
            intro v22 ev22
            have hv22 := congrArg Int32.toInt (ev22.trans ev18.symm)
            refine And.intro (aBZ (by omega)) ?_
            intro v23 ev23
            have hv23 := congrArg Int32.toInt ev23
            refine And.intro (aBZ (by omega)) ?_
            intro v25 ev25
            have hv25 := congrArg Int32.toInt ev25
            refine And.intro (fun c27 => ?_) ?_
            · skip
              have c27 := (zJ _ _).mp c27
              refine And.intro (aBZ (by omega)) ?_
              exact aKE pQ qY pN zU hpost hKn v16 x2 (upd qU v18.toNatClampNeg (v23 * v25)) (by omega) (by omega) hn4
            refine And.intro (fun c28 => ?_) ?_
            · skip
              have c28 := (zJ _ _).mp c28
              refine And.intro (aBZ (by omega)) ?_
              exact aKE pQ qY pN zU hpost hKn v16 x2 (upd qU v18.toNatClampNeg (v23 + v25)) (by omega) (by omega) hn4
            refine And.intro (fun c29 => ?_) ?_
            · skip
              have c29 := (zJ _ _).mp c29
              refine And.intro (aBZ (by omega)) ?_
              exact aKE pQ qY pN zU hpost hKn v16 x2 (upd qU v18.toNatClampNeg (v23 - v25)) (by omega) (by omega) hn4
            refine And.intro (fun c30 => ?_) ?_
            · skip
              have c30 := (zJ _ _).mp c30
              have f32 := aAT v23
              have f33 := aAT v25
              refine And.intro (fun c31 => ?_) (fun c31 => ?_)
              · skip
                have c31 := (aAO _ _).mp c31
                refine And.intro (aBZ (by omega)) ?_
                exact aKE pQ qY pN zU hpost hKn v16 x2 (upd qU v18.toNatClampNeg 0) (by omega) (by omega) hn4
              · skip
                have c31 := mt (aAO _ _).mpr c31
                refine And.intro (aBZ (by omega)) ?_
                exact aKE pQ qY pN zU hpost hKn v16 x2 (upd qU v18.toNatClampNeg 1) (by omega) (by omega) hn4
            refine And.intro (fun c34 => ?_) ?_
            · skip
              have c34 := (zJ _ _).mp c34
              have f36 := aAT v23
              have f37 := aAT v25
              refine And.intro (fun c35 => ?_) (fun c35 => ?_)
              · skip
                have c35 := mt (zJ _ _).mpr c35
                refine And.intro (aBZ (by omega)) ?_
                exact aKE pQ qY pN zU hpost hKn v16 x2 (upd qU v18.toNatClampNeg 0) (by omega) (by omega) hn4
              · skip
                have c35 := (zJ _ _).mp c35
                refine And.intro (aBZ (by omega)) ?_
                exact aKE pQ qY pN zU hpost hKn v16 x2 (upd qU v18.toNatClampNeg 1) (by omega) (by omega) hn4
            refine And.intro (fun c38 => ?_) ?_
            · skip
              have c38 := (zJ _ _).mp c38
              have f40 := aAT v23
              have f41 := aAT v25
              refine And.intro (fun c39 => ?_) (fun c39 => ?_)
              · skip
                have c39 := (aAO _ _).mp c39
                refine And.intro (aBZ (by omega)) ?_
                exact aKE pQ qY pN zU hpost hKn v16 x2 (upd qU v18.toNatClampNeg 0) (by omega) (by omega) hn4
              · skip
                have c39 := mt (aAO _ _).mpr c39
                refine And.intro (aBZ (by omega)) ?_
                exact aKE pQ qY pN zU hpost hKn v16 x2 (upd qU v18.toNatClampNeg 1) (by omega) (by omega) hn4
            intro c42 c43 c44 c45 c46 c47
            have c42 := mt (zJ _ _).mpr c42
            have c43 := mt (zJ _ _).mpr c43
            have c44 := mt (zJ _ _).mpr c44
            have c45 := mt (zJ _ _).mpr c45
            have c46 := mt (zJ _ _).mpr c46
            have c47 := mt (zJ _ _).mpr c47
            have f49 := aAT v25
            refine And.intro (fun c48 => ?_) (fun c48 => ?_)
            · skip
              have c48 := mt (zJ _ _).mpr c48
              refine And.intro (mt (zJ _ _).mp (by omega)) ?_
              refine And.intro (aBZ (by omega)) ?_
              exact aKE pQ qY pN zU hpost hKn v16 x2 (upd qU v18.toNatClampNeg (v23 / v25)) (by omega) (by omega) hn4
            · skip
              have c48 := (zJ _ _).mp c48
              refine And.intro (aBZ (by omega)) ?_
              exact aKE pQ qY pN zU hpost hKn v16 x2 (upd qU v18.toNatClampNeg 0) (by omega) (by omega) hn4
        · skip
          have c14 := (zJ _ _).mp c14
          refine And.intro (fun c50 => ?_) (fun c50 => ?_)
          · skip
            have c50 := (aAO _ _).mp c50
            exact aKE pQ qY pN zU hpost hKn x1 x2 qU aBK (by omega) hn4
          · skip
            have c50 := mt (aAO _ _).mpr c50
            intro v51 ev51
            have f52 : Int32.toInt (x1 - 1) = Int32.toInt x1 - Int32.toInt (1 : Int32) := aCA _ _ (by omega)
            rw [← ev51] at f52
            intro v53 ev53
            have hv53 := congrArg Int32.toInt (ev53.trans ev51.symm)
            refine And.intro (aBZ (by omega)) ?_
            intro v54 ev54
            refine And.intro (aBZ (by omega)) ?_
            exact aKE pQ qY pN zU hpost hKn x1 x2 (upd qU v51.toNatClampNeg v54) aBK (by omega) hn4
      · skip
        have c12 := mt (aAO _ _).mpr c12
        refine And.intro (fun c55 => ?_) (fun c55 => ?_)
        · skip
          have c55 := (aAO _ _).mp c55
          exact aKE pQ qY pN zU hpost hKn x1 x2 qU aBK (by omega) hn4
        · skip
          have c55 := mt (aAO _ _).mpr c55
          intro v56 ev56
          have hv56 := congrArg Int32.toInt ev56
          have f59 := aAT v56
          refine And.intro (fun c58 => ?_) (fun c58 => ?_)
          · skip
            have c58 := (aAd _ _).mp c58
            refine And.intro (aBZ (by omega)) ?_
            intro v60 ev60
            have f61 : Int32.toInt (x1 + 1) = Int32.toInt x1 + Int32.toInt (1 : Int32) := aAD _ _ (by omega)
            rw [← ev60] at f61
            exact aKE pQ qY pN zU hpost hKn v60 x2 (upd qU x1.toNatClampNeg v10) (by omega) (by omega) hn4
          · skip
            have c58 := mt (aAd _ _).mpr c58
            refine And.intro (fun c62 => ?_) (fun c62 => ?_)
            · skip
              have c62 := (aAO _ _).mp c62
              refine And.intro (aBZ (by omega)) ?_
              intro v63 ev63
              have f64 : Int32.toInt (x1 + 1) = Int32.toInt x1 + Int32.toInt (1 : Int32) := aAD _ _ (by omega)
              rw [← ev63] at f64
              exact aKE pQ qY pN zU hpost hKn v63 x2 (upd qU x1.toNatClampNeg v10) (by omega) (by omega) hn4
            · skip
              have c62 := mt (aAO _ _).mpr c62
              refine And.intro (aBZ (by omega)) ?_
              intro v65 ev65
              have hv65 := congrArg Int32.toInt ev65
              refine And.intro (aBZ (by omega)) ?_
              intro v67 ev67
              have f68 : Int32.toInt (x1 + 1) = Int32.toInt x1 + Int32.toInt (1 : Int32) := aAD _ _ (by omega)
              rw [← ev67] at f68
              exact aKE pQ qY pN zU hpost hKn v67 x2 (upd qU x1.toNatClampNeg v65) (by omega) (by omega) hn4
set_option maxHeartbeats 8000000 in
set_option maxRecDepth 200000 in
theorem tb_X7_reckon_4 {post : Int32 → (Nat → Int32) → Prop} (pQ : Int32) (qY pN : Nat → Int32) (zU : 1 ≤ Int32.toInt pQ ∧ Int32.toInt pQ ≤ 40) (hpost : ∀ (r : Int32) (aB4 : Nat → Int32), post r aB4) : ∀ (n : Nat) (x1 x2 : Int32) (qU : Nat → Int32), (0 ≤ Int32.toInt x1 ∧ Int32.toInt x1 ≤ 40) → (0 ≤ Int32.toInt x2 ∧ Int32.toInt x2 ≤ 48) → (48 - Int32.toInt x2 < (n : Int)) → wb_X7_reckon_4 post pQ qY pN n x1 x2 qU := by
  intro n
  induction n with
  | zero =>
    intro x1 x2 qU aBK aBN hm
    exfalso; omega
  | succ n ih =>
    intro x1 x2 qU aBK aBN hm
    exact ts_X7_reckon_4 pQ qY pN zU hpost ih x1 x2 qU aBK aBN (by omega)
set_option maxHeartbeats 8000000 in
set_option maxRecDepth 200000 in
theorem t_X7_reckon {post : Int32 → (Nat → Int32) → Prop} {pQ : Int32} {qY qU pN : Nat → Int32} (zU : 1 ≤ Int32.toInt pQ ∧ Int32.toInt pQ ≤ 40) (hpost : ∀ (r : Int32) (aB4 : Nat → Int32), post r aB4) : wp_X7_reckon post pQ qY qU pN := by
  have l0 := aE0
  exact ⟨50, tb_X7_reckon_4 pQ qY pN zU hpost _ 0 0 qU (by omega) (by omega) (by omega)⟩
set_option maxHeartbeats 8000000 in
set_option maxRecDepth 200000 in
theorem ts_X0_pickSeconds_123 {post : Int32 → (Nat → Int32) → (Nat → Int32) → Prop} (dN : Int32) (uU gF pL mX oE : Nat → Int32) (dU pQ : Int32) (pN : Nat → Int32) (xL : 0 ≤ Int32.toInt dN ∧ Int32.toInt dN ≤ 16) (zU : 0 ≤ Int32.toInt pQ ∧ Int32.toInt pQ ≤ 40) (hpost : ∀ (r : Int32) (aCG : Nat → Int32) (aB4 : Nat → Int32), (1 ≤ Int32.toInt r ∧ Int32.toInt r ≤ 99) → post r aCG aB4) (k0 : Int32) (qY qU : Nat → Int32) : bCc post dN uU gF pL mX oE dU pQ pN k0 qY qU := by
  have l0 := aEc
  have l1 := li_99
  intro v1 ev1
  have f2 := aAT (if k0 < 99 then k0 else 99)
  have f4 := aAT k0
  have f3 := ti_min (99 : Int32) k0
  have hv1 := congrArg Int32.toInt ev1
  intro v5 ev5
  have f7 := aAT v1
  have f6 := ti_max (1 : Int32) v1
  have hv5 := congrArg Int32.toInt ev5
  exact hpost _ _ _ (by omega)
set_option maxHeartbeats 8000000 in
set_option maxRecDepth 200000 in
theorem ts_X0_pickSeconds_92 {post : Int32 → (Nat → Int32) → (Nat → Int32) → Prop} (dN : Int32) (uU gF pL mX oE : Nat → Int32) (dU pQ : Int32) (pN : Nat → Int32) (xL : 0 ≤ Int32.toInt dN ∧ Int32.toInt dN ≤ 16) (zU : 0 ≤ Int32.toInt pQ ∧ Int32.toInt pQ ≤ 40) (hpost : ∀ (r : Int32) (aCG : Nat → Int32) (aB4 : Nat → Int32), (1 ≤ Int32.toInt r ∧ Int32.toInt r ≤ 99) → post r aCG aB4) (x6 x7 : Int32) (qY qU : Nat → Int32) : ws_X0_pickSeconds_92 post dN uU gF pL mX oE dU pQ pN x6 x7 qY qU := by
  have l0 := aE0
  refine And.intro (fun c8 => ?_) (fun c8 => ?_)
  · skip
    have c8 := mt (zJ _ _).mpr c8
    refine t_X7_reckon (by omega) (fun r10 ru_stack_9 => ?_)
    have f11 := aAT r10
    exact ts_X0_pickSeconds_123 dN uU gF pL mX oE dU pQ pN xL zU hpost r10 qY ru_stack_9 
  · skip
    have c8 := (zJ _ _).mp c8
    intro v12 ev12
    have hv12 := congrArg Int32.toInt ev12
    intro v14 ev14
    have hv14 := congrArg Int32.toInt ev14
    have f16 := aAT v14
    exact ts_X0_pickSeconds_123 dN uU gF pL mX oE dU pQ pN xL zU hpost v14 qY qU 
set_option maxHeartbeats 8000000 in
set_option maxRecDepth 200000 in
theorem aUV {post : Int32 → (Nat → Int32) → (Nat → Int32) → Prop} {p0 p1 p2 p3 dN : Int32} {uU gF pL mX oE : Nat → Int32} {dU pQ : Int32} {qY qU pN : Nat → Int32} (h_p0 : 0 ≤ Int32.toInt p0 ∧ Int32.toInt p0 ≤ 15) (h_p1 : 0 ≤ Int32.toInt p1 ∧ Int32.toInt p1 ≤ 7) (h_p3 : 0 ≤ Int32.toInt p3 ∧ Int32.toInt p3 ≤ 63) (xL : 0 ≤ Int32.toInt dN ∧ Int32.toInt dN ≤ 16) (zU : 0 ≤ Int32.toInt pQ ∧ Int32.toInt pQ ≤ 40) (hpost : ∀ (r : Int32) (aCG : Nat → Int32) (aB4 : Nat → Int32), (1 ≤ Int32.toInt r ∧ Int32.toInt r ≤ 99) → post r aCG aB4) : aSP post p0 p1 p2 p3 dN uU gF pL mX oE dU pQ qY qU pN := by
  have l0 := aE0
  have l1 := aEc
  have l2 := li_2
  have l3 := li_3
  have l4 := li_4
  have l5 := li_5
  have l6 := li_6
  refine And.intro (aBZ (by omega)) ?_
  intro v17 ev17
  have hv17 := congrArg Int32.toInt ev17
  refine And.intro (aBZ (by omega)) ?_
  have f20 := aAT v17
  refine And.intro (fun c19 => ?_) (fun c19 => ?_)
  · skip
    have c19 := (aAO _ _).mp c19
    refine And.intro (aBZ (by omega)) ?_
    intro v22 ev22
    have hv22 := congrArg Int32.toInt ev22
    refine And.intro (aBZ (by omega)) ?_
    refine And.intro (aBZ (by omega)) ?_
    intro v23 ev23
    have hv23 := congrArg Int32.toInt ev23
    refine And.intro (aBZ (by omega)) ?_
    have f26 := aAT v23
    refine And.intro (fun c25 => ?_) (fun c25 => ?_)
    · skip
      have c25 := (aAO _ _).mp c25
      refine And.intro (aBZ (by omega)) ?_
      intro v28 ev28
      have hv28 := congrArg Int32.toInt ev28
      intro v29 ev29
      have f30 := aDv 15 32768 p0 (by decide) (by omega)
      have hv29 := congrArg Int32.toInt ev29
      refine aUx xL (fun r31 => ?_)
      exact ts_X0_pickSeconds_92 dN uU gF pL mX oE dU pQ pN xL zU hpost (v22 - (uU p0.toNatClampNeg)) 0 (upd (upd (upd (upd (upd (upd (upd qY (0 : Int32).toNatClampNeg (v22 - (uU p0.toNatClampNeg))) (1 : Int32).toNatClampNeg 0) (2 : Int32).toNatClampNeg v28) (3 : Int32).toNatClampNeg r31) (4 : Int32).toNatClampNeg p1) (5 : Int32).toNatClampNeg p3) (6 : Int32).toNatClampNeg p2) qU 
    · skip
      have c25 := mt (aAO _ _).mpr c25
      refine And.intro (aBZ (by omega)) ?_
      intro v33 ev33
      have hv33 := congrArg Int32.toInt ev33
      refine And.intro (aBZ (by omega)) ?_
      intro v34 ev34
      have hv34 := congrArg Int32.toInt ev34
      refine And.intro (aBZ (by omega)) ?_
      intro v36 ev36
      have hv36 := congrArg Int32.toInt ev36
      intro v37 ev37
      have f38 := aDv 15 32768 p0 (by decide) (by omega)
      have hv37 := congrArg Int32.toInt ev37
      refine aUx xL (fun r39 => ?_)
      have f41 := aAT v34
      exact ts_X0_pickSeconds_92 dN uU gF pL mX oE dU pQ pN xL zU hpost (v22 - (uU p0.toNatClampNeg)) v34 (upd (upd (upd (upd (upd (upd (upd qY (0 : Int32).toNatClampNeg (v22 - (uU p0.toNatClampNeg))) (1 : Int32).toNatClampNeg v34) (2 : Int32).toNatClampNeg v36) (3 : Int32).toNatClampNeg r39) (4 : Int32).toNatClampNeg p1) (5 : Int32).toNatClampNeg p3) (6 : Int32).toNatClampNeg p2) qU 
  · skip
    have c19 := mt (aAO _ _).mpr c19
    refine And.intro (aBZ (by omega)) ?_
    intro v42 ev42
    have hv42 := congrArg Int32.toInt ev42
    refine And.intro (aBZ (by omega)) ?_
    intro v43 ev43
    have hv43 := congrArg Int32.toInt ev43
    refine And.intro (aBZ (by omega)) ?_
    intro v45 ev45
    have hv45 := congrArg Int32.toInt ev45
    refine And.intro (aBZ (by omega)) ?_
    have f48 := aAT v45
    refine And.intro (fun c47 => ?_) (fun c47 => ?_)
    · skip
      have c47 := (aAO _ _).mp c47
      refine And.intro (aBZ (by omega)) ?_
      intro v50 ev50
      have hv50 := congrArg Int32.toInt ev50
      intro v51 ev51
      have f52 := aDv 15 32768 p0 (by decide) (by omega)
      have hv51 := congrArg Int32.toInt ev51
      refine aUx xL (fun r53 => ?_)
      have f54 := aAT v43
      exact ts_X0_pickSeconds_92 dN uU gF pL mX oE dU pQ pN xL zU hpost v43 0 (upd (upd (upd (upd (upd (upd (upd qY (0 : Int32).toNatClampNeg v43) (1 : Int32).toNatClampNeg 0) (2 : Int32).toNatClampNeg v50) (3 : Int32).toNatClampNeg r53) (4 : Int32).toNatClampNeg p1) (5 : Int32).toNatClampNeg p3) (6 : Int32).toNatClampNeg p2) qU 
    · skip
      have c47 := mt (aAO _ _).mpr c47
      refine And.intro (aBZ (by omega)) ?_
      intro v55 ev55
      have hv55 := congrArg Int32.toInt ev55
      refine And.intro (aBZ (by omega)) ?_
      intro v56 ev56
      have hv56 := congrArg Int32.toInt ev56
      refine And.intro (aBZ (by omega)) ?_
      intro v58 ev58
      have hv58 := congrArg Int32.toInt ev58
      intro v59 ev59
      have f60 := aDv 15 32768 p0 (by decide) (by omega)
      have hv59 := congrArg Int32.toInt ev59
      refine aUx xL (fun r61 => ?_)
      have f62 := aAT v43
      have f63 := aAT v56
      exact ts_X0_pickSeconds_92 dN uU gF pL mX oE dU pQ pN xL zU hpost v43 v56 (upd (upd (upd (upd (upd (upd (upd qY (0 : Int32).toNatClampNeg v43) (1 : Int32).toNatClampNeg v56) (2 : Int32).toNatClampNeg v58) (3 : Int32).toNatClampNeg r61) (4 : Int32).toNatClampNeg p1) (5 : Int32).toNatClampNeg p3) (6 : Int32).toNatClampNeg p2) qU 
set_option maxHeartbeats 8000000 in
set_option maxRecDepth 200000 in
theorem t_X0_pickFruit {post : Int32 → Int32 → Int32 → Int32 → (Nat → Int32) → (Nat → Int32) → Prop} {p0 p1 dN : Int32} {uU gF pL qF mX oE dY : Nat → Int32} {jE eW eY dU fY gJ jG nU pQ : Int32} {qY qU pN : Nat → Int32} (xL : 0 ≤ Int32.toInt dN ∧ Int32.toInt dN ≤ 16) (aAC : -1 ≤ Int32.toInt fY ∧ Int32.toInt fY ≤ 7) (zK : 0 ≤ Int32.toInt jG ∧ Int32.toInt jG ≤ 9) (zU : 0 ≤ Int32.toInt pQ ∧ Int32.toInt pQ ≤ 40) (hpost : ∀ (r : Int32) (aHN : Int32) (aFB : Int32) (aFi : Int32) (aCG : Nat → Int32) (aB4 : Nat → Int32), (-5 ≤ Int32.toInt r ∧ Int32.toInt r ≤ 99) → post r aHN aFB aFi aCG aB4) : wp_X0_pickFruit post p0 p1 dN uU gF pL qF mX oE dY jE eW eY dU fY gJ jG nU pQ qY qU pN := by
  have l0 := aI2
  have l1 := li_m2
  have l2 := li_m3
  have l3 := li_m4
  have l4 := li_m5
  have l5 := aE0
  have l6 := aEc
  have l7 := li_2
  have l8 := aJ8
  have l9 := li_4
  have l10 := li_63
  have l11 := aJ9
  have l12 := li_9999
  have f2 := aAT p0
  refine And.intro (fun c1 => ?_) (fun c1 => ?_)
  · skip
    have c1 := (aAd _ _).mp c1
    refine And.intro (fun _ => ?_) (fun h9 => absurd h9 (by decide))
    exact hpost _ _ _ _ _ _ (by omega)
  · skip
    have c1 := mt (aAd _ _).mpr c1
    refine And.intro (fun c3 => ?_) (fun c3 => ?_)
    · skip
      have c3 := (aAO _ _).mp c3
      refine And.intro (fun _ => ?_) (fun h9 => absurd h9 (by decide))
      exact hpost _ _ _ _ _ _ (by omega)
    · skip
      have c3 := mt (aAO _ _).mpr c3
      refine And.intro (fun h9 => absurd h9 (by decide)) (fun _ => ?_)
      refine t_X9_isYesOrNo  (fun r4 h_r4 => ?_)
      refine And.intro (fun c5 => ?_) (fun c5 => ?_)
      · skip
        have c5 := mt (zJ _ _).mpr c5
        intro v6 ev6
        have f7 := aDv 16 65536 dN (by decide) (by omega)
        have hv6 := congrArg Int32.toInt ev6
        intro v8 ev8
        intro v9 ev9
        intro v10 ev10
        have f13 : Int32.toInt (v6 - 1) = Int32.toInt v6 - Int32.toInt (1 : Int32) := aCA _ _ (by omega)
        have f14 := aBx (v6 - 1) (v9 ^^^ (-1)) (by omega)
        have f11 := aRJ ((v6 - 1) &&& (v9 ^^^ (-1))) p0 (by omega)
        have hv10 := congrArg Int32.toInt ev10
        have f16 := aAQ v10 1 (by omega)
        have f17 := aBx v10 1 (by omega)
        refine And.intro (fun c15 => ?_) (fun c15 => ?_)
        · skip
          have c15 := mt (zJ _ _).mpr c15
          refine And.intro (aBZ (by omega)) ?_
          intro v18 ev18
          have hv18 := congrArg Int32.toInt ev18
          have f21 := aAT v18
          refine And.intro (fun c20 => ?_) (fun c20 => ?_)
          · skip
            have c20 := (aAO _ _).mp c20
            refine And.intro (fun c22 => ?_) (fun c22 => ?_)
            · skip
              have c22 := (zJ _ _).mp c22
              exact hpost _ _ _ _ _ _ (by omega)
            · skip
              have c22 := mt (zJ _ _).mpr c22
              intro v23 ev23
              have hv23 := congrArg Int32.toInt ev23
              intro v25 ev25
              have hv25 := congrArg Int32.toInt ev25
              refine And.intro (aBZ (by omega)) ?_
              intro v27 ev27
              have hv27 := congrArg Int32.toInt ev27
              refine And.intro (aBZ (by omega)) ?_
              have f30 := aAT v27
              refine And.intro (fun c29 => ?_) (fun c29 => ?_)
              · skip
                have c29 := (aAO _ _).mp c29
                refine And.intro (aBZ (by omega)) ?_
                intro v32 ev32
                have hv32 := congrArg Int32.toInt ev32
                refine And.intro (aBZ (by omega)) ?_
                refine And.intro (aBZ (by omega)) ?_
                intro v33 ev33
                have hv33 := congrArg Int32.toInt ev33
                refine And.intro (aBZ (by omega)) ?_
                have f36 := aAT v33
                refine And.intro (fun c35 => ?_) (fun c35 => ?_)
                · skip
                  have c35 := (aAO _ _).mp c35
                  intro v38 ev38
                  have hv38 := congrArg Int32.toInt ev38
                  intro v40 ev40
                  have f42 := aAT v38
                  have f43 : Int32.toInt (0 * 0) = Int32.toInt (0 : Int32) * 0 := ta_mulc _ _ (by decide) (by omega)
                  have f41 : Int32.toInt (v38 + (0 * 0)) = Int32.toInt v38 + Int32.toInt (0 * 0) := aAD _ _ (by omega)
                  rw [← ev40] at f41
                  have f45 := aAT v40
                  refine And.intro (fun c44 => ?_) (fun c44 => ?_)
                  · skip
                    have c44 := (aAd _ _).mp c44
                    refine And.intro (fun h9 => absurd h9 (by decide)) (fun _ => ?_)
                    exact hpost _ _ _ _ _ _ (by omega)
                  · skip
                    have c44 := mt (aAd _ _).mpr c44
                    refine And.intro (fun _ => ?_) (fun h9 => absurd h9 (by decide))
                    intro v47 ev47
                    intro v48 ev48
                    have hv48 := congrArg Int32.toInt ev48
                    intro v50 ev50
                    have f51 := aAQ v48 858993459 (by omega)
                    have hv50 := congrArg Int32.toInt ev50
                    intro v52 ev52
                    intro v53 ev53
                    have f55 := aAQ v52 858993459 (by omega)
                    have f54 : Int32.toInt (v50 + (v52 &&& 858993459)) = Int32.toInt v50 + Int32.toInt (v52 &&& 858993459) := aAD _ _ (by omega)
                    rw [← ev53] at f54
                    intro v56 ev56
                    have hv56 := congrArg Int32.toInt ev56
                    intro v58 ev58
                    have f59 := aAQ v56 252645135 (by omega)
                    have hv58 := congrArg Int32.toInt ev58
                    intro v60 ev60
                    have hv60 := congrArg Int32.toInt ev60
                    intro v62 ev62
                    have hv62 := congrArg Int32.toInt ev62
                    have f65 := aAQ v62 63 (by omega)
                    refine And.intro (fun c64 => ?_) (fun c64 => ?_)
                    · skip
                      have c64 := (aAd _ _).mp c64
                      refine aUV (by omega) (by omega) (by omega) xL zU (fun r69 ru_given_67 ru_stack_68 h_r69 => ?_)
                      refine t_X3_lowerThan (by omega) (by omega) (by omega) (fun r70 h_r70 => ?_)
                      intro v71 ev71
                      intro v72 ev72
                      intro v73 ev73
                      have hv73 := congrArg Int32.toInt ev73
                      intro v75 ev75
                      have f76 := aAT (if v73 < 9999 then v73 else 9999)
                      have f78 := aAT v73
                      have f77 := ti_min (9999 : Int32) v73
                      have hv75 := congrArg Int32.toInt ev75
                      exact hpost _ _ _ _ _ _ (by omega)
                    · skip
                      have c64 := mt (aAd _ _).mpr c64
                      exact hpost _ _ _ _ _ _ (by omega)
                · skip
                  have c35 := mt (aAO _ _).mpr c35
                  refine And.intro (aBZ (by omega)) ?_
                  intro v79 ev79
                  have hv79 := congrArg Int32.toInt ev79
                  refine And.intro (aBZ (by omega)) ?_
                  intro v80 ev80
                  have hv80 := congrArg Int32.toInt ev80
                  intro v82 ev82
                  have hv82 := congrArg Int32.toInt ev82
                  intro v84 ev84
                  have hv84 := congrArg Int32.toInt ev84
                  have f87 := aAT v84
                  refine And.intro (fun c86 => ?_) (fun c86 => ?_)
                  · skip
                    have c86 := (aAd _ _).mp c86
                    refine And.intro (fun h9 => absurd h9 (by decide)) (fun _ => ?_)
                    exact hpost _ _ _ _ _ _ (by omega)
                  · skip
                    have c86 := mt (aAd _ _).mpr c86
                    refine And.intro (fun _ => ?_) (fun h9 => absurd h9 (by decide))
                    intro v89 ev89
                    intro v90 ev90
                    have hv90 := congrArg Int32.toInt ev90
                    intro v92 ev92
                    have f93 := aAQ v90 858993459 (by omega)
                    have hv92 := congrArg Int32.toInt ev92
                    intro v94 ev94
                    intro v95 ev95
                    have f97 := aAQ v94 858993459 (by omega)
                    have f96 : Int32.toInt (v92 + (v94 &&& 858993459)) = Int32.toInt v92 + Int32.toInt (v94 &&& 858993459) := aAD _ _ (by omega)
                    rw [← ev95] at f96
                    intro v98 ev98
                    have hv98 := congrArg Int32.toInt ev98
                    intro v100 ev100
                    have f101 := aAQ v98 252645135 (by omega)
                    have hv100 := congrArg Int32.toInt ev100
                    intro v102 ev102
                    have hv102 := congrArg Int32.toInt ev102
                    intro v104 ev104
                    have hv104 := congrArg Int32.toInt ev104
                    have f107 := aAQ v104 63 (by omega)
                    refine And.intro (fun c106 => ?_) (fun c106 => ?_)
                    · skip
                      have c106 := (aAd _ _).mp c106
                      refine aUV (by omega) (by omega) (by omega) xL zU (fun r111 ru_given_109 ru_stack_110 h_r111 => ?_)
                      refine t_X3_lowerThan (by omega) (by omega) (by omega) (fun r112 h_r112 => ?_)
                      intro v113 ev113
                      intro v114 ev114
                      intro v115 ev115
                      have hv115 := congrArg Int32.toInt ev115
                      intro v117 ev117
                      have f118 := aAT (if v115 < 9999 then v115 else 9999)
                      have f120 := aAT v115
                      have f119 := ti_min (9999 : Int32) v115
                      have hv117 := congrArg Int32.toInt ev117
                      exact hpost _ _ _ _ _ _ (by omega)
                    · skip
                      have c106 := mt (aAd _ _).mpr c106
                      exact hpost _ _ _ _ _ _ (by omega)
              · skip
                have c29 := mt (aAO _ _).mpr c29
                refine And.intro (aBZ (by omega)) ?_
                intro v121 ev121
                have hv121 := congrArg Int32.toInt ev121
                refine And.intro (aBZ (by omega)) ?_
                intro v122 ev122
                have hv122 := congrArg Int32.toInt ev122
                refine And.intro (aBZ (by omega)) ?_
                intro v124 ev124
                have hv124 := congrArg Int32.toInt ev124
                refine And.intro (aBZ (by omega)) ?_
                have f127 := aAT v124
                refine And.intro (fun c126 => ?_) (fun c126 => ?_)
                · skip
                  have c126 := (aAO _ _).mp c126
                  intro v129 ev129
                  have hv129 := congrArg Int32.toInt ev129
                  intro v131 ev131
                  have f133 := aAT v129
                  have f134 : Int32.toInt (0 * 0) = Int32.toInt (0 : Int32) * 0 := ta_mulc _ _ (by decide) (by omega)
                  have f132 : Int32.toInt (v129 + (0 * 0)) = Int32.toInt v129 + Int32.toInt (0 * 0) := aAD _ _ (by omega)
                  rw [← ev131] at f132
                  have f136 := aAT v131
                  refine And.intro (fun c135 => ?_) (fun c135 => ?_)
                  · skip
                    have c135 := (aAd _ _).mp c135
                    refine And.intro (fun h9 => absurd h9 (by decide)) (fun _ => ?_)
                    exact hpost _ _ _ _ _ _ (by omega)
                  · skip
                    have c135 := mt (aAd _ _).mpr c135
                    refine And.intro (fun _ => ?_) (fun h9 => absurd h9 (by decide))
                    intro v138 ev138
                    intro v139 ev139
                    have hv139 := congrArg Int32.toInt ev139
                    intro v141 ev141
                    have f142 := aAQ v139 858993459 (by omega)
                    have hv141 := congrArg Int32.toInt ev141
                    intro v143 ev143
                    intro v144 ev144
                    have f146 := aAQ v143 858993459 (by omega)
                    have f145 : Int32.toInt (v141 + (v143 &&& 858993459)) = Int32.toInt v141 + Int32.toInt (v143 &&& 858993459) := aAD _ _ (by omega)
                    rw [← ev144] at f145
                    intro v147 ev147
                    have hv147 := congrArg Int32.toInt ev147
                    intro v149 ev149
                    have f150 := aAQ v147 252645135 (by omega)
                    have hv149 := congrArg Int32.toInt ev149
                    intro v151 ev151
                    have hv151 := congrArg Int32.toInt ev151
                    intro v153 ev153
                    have hv153 := congrArg Int32.toInt ev153
                    have f156 := aAQ v153 63 (by omega)
                    refine And.intro (fun c155 => ?_) (fun c155 => ?_)
                    · skip
                      have c155 := (aAd _ _).mp c155
                      refine aUV (by omega) (by omega) (by omega) xL zU (fun r160 ru_given_158 ru_stack_159 h_r160 => ?_)
                      refine t_X3_lowerThan (by omega) (by omega) (by omega) (fun r161 h_r161 => ?_)
                      intro v162 ev162
                      intro v163 ev163
                      intro v164 ev164
                      have hv164 := congrArg Int32.toInt ev164
                      intro v166 ev166
                      have f167 := aAT (if v164 < 9999 then v164 else 9999)
                      have f169 := aAT v164
                      have f168 := ti_min (9999 : Int32) v164
                      have hv166 := congrArg Int32.toInt ev166
                      exact hpost _ _ _ _ _ _ (by omega)
                    · skip
                      have c155 := mt (aAd _ _).mpr c155
                      exact hpost _ _ _ _ _ _ (by omega)
                · skip
                  have c126 := mt (aAO _ _).mpr c126
                  refine And.intro (aBZ (by omega)) ?_
                  intro v170 ev170
                  have hv170 := congrArg Int32.toInt ev170
                  refine And.intro (aBZ (by omega)) ?_
                  intro v171 ev171
                  have hv171 := congrArg Int32.toInt ev171
                  intro v173 ev173
                  have hv173 := congrArg Int32.toInt ev173
                  intro v175 ev175
                  have hv175 := congrArg Int32.toInt ev175
                  have f178 := aAT v175
                  refine And.intro (fun c177 => ?_) (fun c177 => ?_)
                  · skip
                    have c177 := (aAd _ _).mp c177
                    refine And.intro (fun h9 => absurd h9 (by decide)) (fun _ => ?_)
                    exact hpost _ _ _ _ _ _ (by omega)
                  · skip
                    have c177 := mt (aAd _ _).mpr c177
                    refine And.intro (fun _ => ?_) (fun h9 => absurd h9 (by decide))
                    intro v180 ev180
                    intro v181 ev181
                    have hv181 := congrArg Int32.toInt ev181
                    intro v183 ev183
                    have f184 := aAQ v181 858993459 (by omega)
                    have hv183 := congrArg Int32.toInt ev183
                    intro v185 ev185
                    intro v186 ev186
                    have f188 := aAQ v185 858993459 (by omega)
                    have f187 : Int32.toInt (v183 + (v185 &&& 858993459)) = Int32.toInt v183 + Int32.toInt (v185 &&& 858993459) := aAD _ _ (by omega)
                    rw [← ev186] at f187
                    intro v189 ev189
                    have hv189 := congrArg Int32.toInt ev189
                    intro v191 ev191
                    have f192 := aAQ v189 252645135 (by omega)
                    have hv191 := congrArg Int32.toInt ev191
                    intro v193 ev193
                    have hv193 := congrArg Int32.toInt ev193
                    intro v195 ev195
                    have hv195 := congrArg Int32.toInt ev195
                    have f198 := aAQ v195 63 (by omega)
                    refine And.intro (fun c197 => ?_) (fun c197 => ?_)
                    · skip
                      have c197 := (aAd _ _).mp c197
                      refine aUV (by omega) (by omega) (by omega) xL zU (fun r202 ru_given_200 ru_stack_201 h_r202 => ?_)
                      refine t_X3_lowerThan (by omega) (by omega) (by omega) (fun r203 h_r203 => ?_)
                      intro v204 ev204
                      intro v205 ev205
                      intro v206 ev206
                      have hv206 := congrArg Int32.toInt ev206
                      intro v208 ev208
                      have f209 := aAT (if v206 < 9999 then v206 else 9999)
                      have f211 := aAT v206
                      have f210 := ti_min (9999 : Int32) v206
                      have hv208 := congrArg Int32.toInt ev208
                      exact hpost _ _ _ _ _ _ (by omega)
                    · skip
                      have c197 := mt (aAd _ _).mpr c197
                      exact hpost _ _ _ _ _ _ (by omega)
          · skip
            have c20 := mt (aAO _ _).mpr c20
            exact hpost _ _ _ _ _ _ (by omega)
        · skip
          have c15 := (zJ _ _).mp c15
          exact hpost _ _ _ _ _ _ (by omega)
      · skip
        have c5 := (zJ _ _).mp c5
        exact hpost _ _ _ _ _ _ (by omega)
