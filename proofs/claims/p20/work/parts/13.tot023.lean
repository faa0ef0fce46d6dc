set_option maxHeartbeats 8000000 in
set_option maxRecDepth 200000 in
theorem t_X9_ondays {post : Int32 → Int32 → (Nat → Int32) → Int32 → (Nat → Int32) → Prop} {p0 oY : Int32} {rD : Nat → Int32} {dN bD : Int32} {uU gF qF mX oE dY : Nat → Int32} {jE eW eY gJ jG qB : Int32} {jK : Nat → Int32} (aAE : 0 ≤ Int32.toInt oY ∧ Int32.toInt oY ≤ 65535) (zR : ∀ k : Nat, 0 ≤ Int32.toInt (rD k) ∧ Int32.toInt (rD k) ≤ 65535) (xL : 0 ≤ Int32.toInt dN ∧ Int32.toInt dN ≤ 16) (wX : 0 ≤ Int32.toInt bD ∧ Int32.toInt bD ≤ 8) (zK : 0 ≤ Int32.toInt jG ∧ Int32.toInt jG ≤ 9) (aAK : 0 ≤ Int32.toInt qB ∧ Int32.toInt qB ≤ 16) (hpost : ∀ (r : Int32) (aAY : Int32) (aBC : Nat → Int32) (zV : Int32) (aAV : Nat → Int32), (-1 ≤ Int32.toInt r ∧ Int32.toInt r ≤ 16) → (0 ≤ Int32.toInt aAY ∧ Int32.toInt aAY ≤ 65535) → (∀ k : Nat, 0 ≤ Int32.toInt (aBC k) ∧ Int32.toInt (aBC k) ≤ 65535) → (0 ≤ Int32.toInt zV ∧ Int32.toInt zV ≤ 16) → post r aAY aBC zV aAV) : wp_X9_ondays post p0 oY rD dN bD uU gF qF mX oE dY jE eW eY gJ jG qB jK := by
  have l0 := aI2
  have l1 := aEc
  have l2 := li_9
  have f2 := aAT p0
  refine And.intro (fun c1 => ?_) (fun c1 => ?_)
  · skip
    have c1 := (aAd _ _).mp c1
    exact hpost _ _ _ _ _ (by omega) aAE zR aAK
  · skip
    have c1 := mt (aAd _ _).mpr c1
    refine And.intro (fun c3 => ?_) (fun c3 => ?_)
    · skip
      have c3 := (aAO _ _).mp c3
      refine aVe zK aAE zR xL wX (fun pl_wanted_4 pl_near_5 h_pl_wanted_4 h_pl_near_5 => ?_)
      intro v6 ev6
      have f7 := aDv 16 65536 dN (by decide) (by omega)
      have hv6 := congrArg Int32.toInt ev6
      intro v8 ev8
      intro v9 ev9
      refine t_X3_ripeBy (by omega) xL (fun r10 h_r10 => ?_)
      intro v11 ev11
      have f12 := aAQ ((v6 - 1) &&& (v9 ^^^ (-1))) r10 (by omega)
      have f14 : Int32.toInt (v6 - 1) = Int32.toInt v6 - Int32.toInt (1 : Int32) := aCA _ _ (by omega)
      have f15 := aBx (v6 - 1) (v9 ^^^ (-1)) (by omega)
      have f16 := aBx ((v6 - 1) &&& (v9 ^^^ (-1))) r10 (by omega)
      have hv11 := congrArg Int32.toInt ev11
      refine And.intro (fun c17 => ?_) (fun c17 => ?_)
      · skip
        have c17 := (aAO _ _).mp c17
        intro v18 ev18
        have f19 := aDv 8 256 bD (by decide) (by omega)
        have hv18 := congrArg Int32.toInt ev18
        have f21 : Int32.toInt (v18 - 1) = Int32.toInt v18 - Int32.toInt (1 : Int32) := aCA _ _ (by omega)
        refine aUy (by omega) h_pl_near_5 wX (fun r20 h_r20 => ?_)
        intro v22 ev22
        have f23 := aAQ v11 r20 (by omega)
        have f24 := aBx v11 r20 (by omega)
        have hv22 := congrArg Int32.toInt ev22
        intro v25 ev25
        have hv25 := congrArg Int32.toInt ev25
        have f27 : Int32.toInt (v25 - 1) = Int32.toInt v25 - Int32.toInt (1 : Int32) := aCA _ _ (by omega)
        refine t_X5_smallestCover (by omega) (by omega) h_pl_near_5 wX (fun r26 h_r26 => ?_)
        refine t_X9_tellMembers h_r26 aAK (fun r30 ro_size_28 ro_numbers_29 h_r30 h_ro_size_28 => ?_)
        exact hpost _ _ _ _ _ (by omega) h_pl_wanted_4 h_pl_near_5 h_ro_size_28
      · skip
        have c17 := mt (aAO _ _).mpr c17
        intro v31 ev31
        have f32 : Int32.toInt (p0 - 1) = Int32.toInt p0 - Int32.toInt (1 : Int32) := aCA _ _ (by omega)
        rw [← ev31] at f32
        refine t_X3_ripeBy (by omega) xL (fun r33 h_r33 => ?_)
        intro v34 ev34
        have f36 := aBx v11 (r33 ^^^ (-1)) (by omega)
        have hv34 := congrArg Int32.toInt ev34
        intro v37 ev37
        have f38 := aDv 8 256 bD (by decide) (by omega)
        have hv37 := congrArg Int32.toInt ev37
        have f40 : Int32.toInt (v37 - 1) = Int32.toInt v37 - Int32.toInt (1 : Int32) := aCA _ _ (by omega)
        refine aUy (by omega) h_pl_near_5 wX (fun r39 h_r39 => ?_)
        intro v41 ev41
        have f42 := aAQ v34 r39 (by omega)
        have f43 := aBx v34 r39 (by omega)
        have hv41 := congrArg Int32.toInt ev41
        intro v44 ev44
        have hv44 := congrArg Int32.toInt ev44
        have f46 : Int32.toInt (v44 - 1) = Int32.toInt v44 - Int32.toInt (1 : Int32) := aCA _ _ (by omega)
        refine t_X5_smallestCover (by omega) (by omega) h_pl_near_5 wX (fun r45 h_r45 => ?_)
        refine t_X9_tellMembers h_r45 aAK (fun r49 ro_size_47 ro_numbers_48 h_r49 h_ro_size_47 => ?_)
        exact hpost _ _ _ _ _ (by omega) h_pl_wanted_4 h_pl_near_5 h_ro_size_47
    · skip
      have c3 := mt (aAO _ _).mpr c3
      exact hpost _ _ _ _ _ (by omega) aAE zR aAK
set_option maxHeartbeats 8000000 in
set_option maxRecDepth 200000 in
theorem ts_X9_allripe_62 {post : Int32 → Int32 → (Nat → Int32) → Prop} (dN : Int32) (pL qF : Nat → Int32) (jE eW eY dU jG : Int32) (xL : 0 ≤ Int32.toInt dN ∧ Int32.toInt dN ≤ 16) (zK : 0 ≤ Int32.toInt jG ∧ Int32.toInt jG ≤ 9) (hpost : ∀ (r : Int32) (zV : Int32) (aAV : Nat → Int32), (0 ≤ Int32.toInt r ∧ Int32.toInt r ≤ 9) → (2 ≤ Int32.toInt zV ∧ Int32.toInt zV ≤ 2) → post r zV aAV) (x2 x3 qB : Int32) (jK : Nat → Int32) (aBN : 0 ≤ Int32.toInt x2 ∧ Int32.toInt x2 ≤ 65535) (aCH : 0 ≤ Int32.toInt x3 ∧ Int32.toInt x3 ≤ 9) (aAK : 0 ≤ Int32.toInt qB ∧ Int32.toInt qB ≤ 16) : ws_X9_allripe_62 post dN pL qF jE eW eY dU jG x2 x3 qB jK := by
  have l0 := aE0
  have l1 := aEc
  have l2 := aKH
  have l3 := li_16
  have l4 := aJ8
  have l5 := aJ9
  intro v1 ev1
  intro v2 ev2
  have f4 := aAQ v1 1431655765 (by omega)
  have f3 : Int32.toInt (x2 - (v1 &&& 1431655765)) = Int32.toInt x2 - Int32.toInt (v1 &&& 1431655765) := aCA _ _ (by omega)
  rw [← ev2] at f3
  intro v5 ev5
  have f6 := aAQ v2 858993459 (by omega)
  have hv5 := congrArg Int32.toInt ev5
  intro v7 ev7
  intro v8 ev8
  have f10 := aAQ v7 858993459 (by omega)
  have f9 : Int32.toInt (v5 + (v7 &&& 858993459)) = Int32.toInt v5 + Int32.toInt (v7 &&& 858993459) := aAD _ _ (by omega)
  rw [← ev8] at f9
  intro v11 ev11
  have hv11 := congrArg Int32.toInt ev11
  intro v13 ev13
  have f14 := aAQ v11 252645135 (by omega)
  have hv13 := congrArg Int32.toInt ev13
  intro v15 ev15
  have hv15 := congrArg Int32.toInt ev15
  intro v17 ev17
  have hv17 := congrArg Int32.toInt ev17
  refine aUx xL (fun r19 => ?_)
  refine And.intro (fun h9 => absurd h9 (by decide)) (fun _ => ?_)
  refine And.intro (aBZ (by omega)) ?_
  intro v20 ev20
  have f21 : Int32.toInt (0 + 1) = Int32.toInt (0 : Int32) + Int32.toInt (1 : Int32) := aAD _ _ (by omega)
  rw [← ev20] at f21
  refine And.intro (fun c22 => ?_) (fun c22 => ?_)
  · skip
    have c22 := (aAO _ _).mp c22
    exfalso; omega
  · skip
    have c22 := mt (aAO _ _).mpr c22
    refine And.intro (aBZ (by omega)) ?_
    intro v23 ev23
    have f24 : Int32.toInt (v20 + 1) = Int32.toInt v20 + Int32.toInt (1 : Int32) := aAD _ _ (by omega)
    rw [← ev23] at f24
    exact hpost _ _ _ aCH (by omega)
set_option maxHeartbeats 8000000 in
set_option maxRecDepth 200000 in
theorem ts_X9_allripe_35 {post : Int32 → Int32 → (Nat → Int32) → Prop} {next : Int32 → Int32 → Int32 → Int32 → (Nat → Int32) → Prop} {n35 : Int} (dN : Int32) (pL qF : Nat → Int32) (jE eW eY dU jG : Int32) (xL : 0 ≤ Int32.toInt dN ∧ Int32.toInt dN ≤ 16) (zK : 0 ≤ Int32.toInt jG ∧ Int32.toInt jG ≤ 9) (hpost : ∀ (r : Int32) (zV : Int32) (aAV : Nat → Int32), (0 ≤ Int32.toInt r ∧ Int32.toInt r ≤ 9) → (2 ≤ Int32.toInt zV ∧ Int32.toInt zV ≤ 2) → post r zV aAV) (hKn : ∀ (x1 : Int32) (x2 : Int32) (x3 : Int32) (qB : Int32) (jK : Nat → Int32), (0 ≤ Int32.toInt x1 ∧ Int32.toInt x1 ≤ 65535) → (0 ≤ Int32.toInt x2 ∧ Int32.toInt x2 ≤ 65535) → (0 ≤ Int32.toInt x3 ∧ Int32.toInt x3 ≤ 9) → (0 ≤ Int32.toInt qB ∧ Int32.toInt qB ≤ 16) → (9 - Int32.toInt x3 < n35) → next x1 x2 x3 qB jK) (x1 x2 x3 qB : Int32) (jK : Nat → Int32) (aBK : 0 ≤ Int32.toInt x1 ∧ Int32.toInt x1 ≤ 65535) (aBN : 0 ≤ Int32.toInt x2 ∧ Int32.toInt x2 ≤ 65535) (aCH : 0 ≤ Int32.toInt x3 ∧ Int32.toInt x3 ≤ 9) (aAK : 0 ≤ Int32.toInt qB ∧ Int32.toInt qB ≤ 16) (hn35 : 9 - Int32.toInt x3 ≤ n35) : ws_X9_allripe_35 post next dN pL qF jE eW eY dU jG x1 x2 x3 qB jK := by
  have l0 := aE0
  have l1 := aEc
  have l2 := li_9
  refine And.intro (fun c25 => ?_) (fun c25 => ?_)
  · skip
    have c25 := (aAO _ _).mp c25
    exact ts_X9_allripe_62 dN pL qF jE eW eY dU jG xL zK hpost x2 x3 qB jK aBN aCH aAK
  · skip
    have c25 := mt (aAO _ _).mpr c25
    refine t_X3_ripeBy aCH xL (fun r26 h_r26 => ?_)
    have f29 := aBx x1 (r26 ^^^ (-1)) (by omega)
    refine And.intro (fun c27 => ?_) (fun c27 => ?_)
    · skip
      have c27Z := c27
      have c27 := (zJ _ _).mp c27
      have s30 := ti_subset x1 r26 (c27Z) (by omega)
      exact ts_X9_allripe_62 dN pL qF jE eW eY dU jG xL zK hpost x2 x3 qB jK aBN aCH aAK
    · skip
      have c27 := mt (zJ _ _).mpr c27
      intro v31 ev31
      have f32 : Int32.toInt (x3 + 1) = Int32.toInt x3 + Int32.toInt (1 : Int32) := aAD _ _ (by omega)
      rw [← ev31] at f32
      exact hKn x1 x2 v31 qB jK aBK aBN (by omega) aAK (by omega)
set_option maxHeartbeats 8000000 in
set_option maxRecDepth 200000 in
theorem tb_X9_allripe_35 {post : Int32 → Int32 → (Nat → Int32) → Prop} (dN : Int32) (pL qF : Nat → Int32) (jE eW eY dU jG : Int32) (xL : 0 ≤ Int32.toInt dN ∧ Int32.toInt dN ≤ 16) (zK : 0 ≤ Int32.toInt jG ∧ Int32.toInt jG ≤ 9) (hpost : ∀ (r : Int32) (zV : Int32) (aAV : Nat → Int32), (0 ≤ Int32.toInt r ∧ Int32.toInt r ≤ 9) → (2 ≤ Int32.toInt zV ∧ Int32.toInt zV ≤ 2) → post r zV aAV) : ∀ (n : Nat) (x1 x2 x3 qB : Int32) (jK : Nat → Int32), (0 ≤ Int32.toInt x1 ∧ Int32.toInt x1 ≤ 65535) → (0 ≤ Int32.toInt x2 ∧ Int32.toInt x2 ≤ 65535) → (0 ≤ Int32.toInt x3 ∧ Int32.toInt x3 ≤ 9) → (0 ≤ Int32.toInt qB ∧ Int32.toInt qB ≤ 16) → (9 - Int32.toInt x3 < (n : Int)) → wb_X9_allripe_35 post dN pL qF jE eW eY dU jG n x1 x2 x3 qB jK := by
  intro n
  induction n with
  | zero =>
    intro x1 x2 x3 qB jK aBK aBN aCH aAK hm
    exfalso; omega
  | succ n ih =>
    intro x1 x2 x3 qB jK aBK aBN aCH aAK hm
    exact ts_X9_allripe_35 dN pL qF jE eW eY dU jG xL zK hpost ih x1 x2 x3 qB jK aBK aBN aCH aAK (by omega)
set_option maxHeartbeats 8000000 in
set_option maxRecDepth 200000 in
theorem t_X9_allripe {post : Int32 → Int32 → (Nat → Int32) → Prop} {dN : Int32} {pL qF : Nat → Int32} {jE eW eY dU jG qB : Int32} {jK : Nat → Int32} (xL : 0 ≤ Int32.toInt dN ∧ Int32.toInt dN ≤ 16) (zK : 0 ≤ Int32.toInt jG ∧ Int32.toInt jG ≤ 9) (aAK : 0 ≤ Int32.toInt qB ∧ Int32.toInt qB ≤ 16) (hpost : ∀ (r : Int32) (zV : Int32) (aAV : Nat → Int32), (0 ≤ Int32.toInt r ∧ Int32.toInt r ≤ 9) → (2 ≤ Int32.toInt zV ∧ Int32.toInt zV ≤ 2) → post r zV aAV) : wp_X9_allripe post dN pL qF jE eW eY dU jG qB jK := by
  have l0 := aEc
  intro v33 ev33
  have f34 := aDv 16 65536 dN (by decide) (by omega)
  have hv33 := congrArg Int32.toInt ev33
  intro v35 ev35
  intro v36 ev36
  refine t_X3_ripeBy zK xL (fun r37 h_r37 => ?_)
  intro v38 ev38
  have f41 : Int32.toInt (v33 - 1) = Int32.toInt v33 - Int32.toInt (1 : Int32) := aCA _ _ (by omega)
  have f42 := aBx (v33 - 1) (v36 ^^^ (-1)) (by omega)
  have f43 := aBx ((v33 - 1) &&& (v36 ^^^ (-1))) (r37 ^^^ (-1)) (by omega)
  have hv38 := congrArg Int32.toInt ev38
  exact ⟨11, tb_X9_allripe_35 dN pL qF jE eW eY dU jG xL zK hpost _ ((v33 - 1) &&& (v36 ^^^ (-1))) v38 jG qB jK (by omega) (by omega) zK aAK (by omega)⟩
set_option maxHeartbeats 8000000 in
set_option maxRecDepth 200000 in
theorem ts_X3_standingsAt_37 {post : Int32 → Prop} {K5 : Int32 → Int32 → Int32 → Int32 → Prop} {n5 : Int} (bD : Int32) (mX : Nat → Int32) (wX : 0 ≤ Int32.toInt bD ∧ Int32.toInt bD ≤ 8) (hpost : ∀ (r : Int32) , (0 ≤ Int32.toInt r ∧ Int32.toInt r ≤ 255) → post r) (hK5 : ∀ (x1 : Int32) (x2 : Int32) (x3 : Int32) (x4 : Int32), (0 ≤ Int32.toInt x2 ∧ Int32.toInt x2 ≤ 99) → (0 ≤ Int32.toInt x3 ∧ Int32.toInt x3 ≤ 255) → (0 ≤ Int32.toInt x4 ∧ Int32.toInt x4 ≤ 8) → (8 - Int32.toInt x4 < n5) → K5 x1 x2 x3 x4) (x1 x2 x3 x4 : Int32) (aBN : 0 ≤ Int32.toInt x2 ∧ Int32.toInt x2 ≤ 99) (aCH : 0 ≤ Int32.toInt x3 ∧ Int32.toInt x3 ≤ 255) (aDO : 0 ≤ Int32.toInt x4 ∧ Int32.toInt x4 ≤ 7) (hn5 : 8 - Int32.toInt x4 ≤ n5) : bBx post K5 bD mX x1 x2 x3 x4 := by
  have l0 := aEc
  intro v1 ev1
  have f2 : Int32.toInt (x4 + 1) = Int32.toInt x4 + Int32.toInt (1 : Int32) := aAD _ _ (by omega)
  rw [← ev1] at f2
  have f3 := aAT x1
  exact hK5 x1 x2 x3 v1 aBN aCH (by omega) (by omega)
set_option maxHeartbeats 8000000 in
set_option maxRecDepth 200000 in
theorem ts_X3_standingsAt_5 {post : Int32 → Prop} {next : Int32 → Int32 → Int32 → Int32 → Prop} {n5 : Int} (bD : Int32) (mX : Nat → Int32) (wX : 0 ≤ Int32.toInt bD ∧ Int32.toInt bD ≤ 8) (hpost : ∀ (r : Int32) , (0 ≤ Int32.toInt r ∧ Int32.toInt r ≤ 255) → post r) (hKn : ∀ (x1 : Int32) (x2 : Int32) (x3 : Int32) (x4 : Int32), (0 ≤ Int32.toInt x2 ∧ Int32.toInt x2 ≤ 99) → (0 ≤ Int32.toInt x3 ∧ Int32.toInt x3 ≤ 255) → (0 ≤ Int32.toInt x4 ∧ Int32.toInt x4 ≤ 8) → (8 - Int32.toInt x4 < n5) → next x1 x2 x3 x4) (x1 x2 x3 x4 : Int32) (aBN : 0 ≤ Int32.toInt x2 ∧ Int32.toInt x2 ≤ 99) (aCH : 0 ≤ Int32.toInt x3 ∧ Int32.toInt x3 ≤ 255) (aDO : 0 ≤ Int32.toInt x4 ∧ Int32.toInt x4 ≤ 8) (hn5 : 8 - Int32.toInt x4 ≤ n5) : ws_X3_standingsAt_5 post next bD mX x1 x2 x3 x4 := by
  refine And.intro (fun c4 => ?_) (fun c4 => ?_)
  · skip
    have c4 := (aAO _ _).mp c4
    exact hpost _ aCH
  · skip
    have c4 := mt (aAO _ _).mpr c4
    refine And.intro (aBZ (by omega)) ?_
    intro v5 ev5
    have hv5 := congrArg Int32.toInt ev5
    intro v7 ev7
    have hv7 := congrArg Int32.toInt ev7
    intro v9 ev9
    have hv9 := congrArg Int32.toInt ev9
    have f12 := aAT v9
    refine And.intro (fun c11 => ?_) (fun c11 => ?_)
    · skip
      have c11 := (aAd _ _).mp c11
      have f13 := aAT x1
      exact ts_X3_standingsAt_37 bD mX wX hpost hKn x1 x2 x3 x4 aBN aCH (by omega) hn5
    · skip
      have c11 := mt (aAd _ _).mpr c11
      intro v14 ev14
      have f16 := aDv 7 128 x4 (by decide) (by omega)
      have f15 := ti_or 8 256 x3 (1 <<< (x4 &&& 31)) (by decide) (by omega) (by omega)
      have hv14 := congrArg Int32.toInt ev14
      have f17 := aAT x1
      exact ts_X3_standingsAt_37 bD mX wX hpost hKn x1 x2 v14 x4 aBN (by omega) (by omega) hn5
set_option maxHeartbeats 8000000 in
set_option maxRecDepth 200000 in
theorem tb_X3_standingsAt_5 {post : Int32 → Prop} (bD : Int32) (mX : Nat → Int32) (wX : 0 ≤ Int32.toInt bD ∧ Int32.toInt bD ≤ 8) (hpost : ∀ (r : Int32) , (0 ≤ Int32.toInt r ∧ Int32.toInt r ≤ 255) → post r) : ∀ (n : Nat) (x1 x2 x3 x4 : Int32), (0 ≤ Int32.toInt x2 ∧ Int32.toInt x2 ≤ 99) → (0 ≤ Int32.toInt x3 ∧ Int32.toInt x3 ≤ 255) → (0 ≤ Int32.toInt x4 ∧ Int32.toInt x4 ≤ 8) → (8 - Int32.toInt x4 < (n : Int)) → wb_X3_standingsAt_5 post bD mX n x1 x2 x3 x4 := by
  intro n
  induction n with
  | zero =>
    intro x1 x2 x3 x4 aBN aCH aDO hm
    exfalso; omega
  | succ n ih =>
    intro x1 x2 x3 x4 aBN aCH aDO hm
    exact ts_X3_standingsAt_5 bD mX wX hpost ih x1 x2 x3 x4 aBN aCH aDO (by omega)
set_option maxHeartbeats 8000000 in
set_option maxRecDepth 200000 in
theorem t_X3_standingsAt {post : Int32 → Prop} {p0 p1 bD : Int32} {mX : Nat → Int32} (h_p1 : 0 ≤ Int32.toInt p1 ∧ Int32.toInt p1 ≤ 99) (wX : 0 ≤ Int32.toInt bD ∧ Int32.toInt bD ≤ 8) (hpost : ∀ (r : Int32) , (0 ≤ Int32.toInt r ∧ Int32.toInt r ≤ 255) → post r) : bBR post p0 p1 bD mX := by
  have l0 := aE0
  have f18 := aAT p0
  exact ⟨10, tb_X3_standingsAt_5 bD mX wX hpost _ p0 p1 0 0 h_p1 (by omega) (by omega) (by omega)⟩
set_option maxHeartbeats 8000000 in
set_option maxRecDepth 200000 in
theorem t_X9_marks {post : Int32 → Prop} {p0 p1 bD : Int32} {mX : Nat → Int32} (wX : 0 ≤ Int32.toInt bD ∧ Int32.toInt bD ≤ 8) (hpost : ∀ (r : Int32) , (-1 ≤ Int32.toInt r ∧ Int32.toInt r ≤ 255) → post r) : wp_X9_marks post p0 p1 bD mX := by
  have l0 := aI2
  have l1 := aE0
  have l2 := li_99
  have f2 := aAT p0
  refine And.intro (fun c1 => ?_) (fun c1 => ?_)
  · skip
    have c1 := (aAd _ _).mp c1
    exact hpost _ (by omega)
  · skip
    have c1 := mt (aAd _ _).mpr c1
    refine And.intro (fun c3 => ?_) (fun c3 => ?_)
    · skip
      have c3 := (aAd _ _).mp c3
      exact hpost _ (by omega)
    · skip
      have c3 := mt (aAd _ _).mpr c3
      have f5 := aAT p1
      refine And.intro (fun c4 => ?_) (fun c4 => ?_)
      · skip
        have c4 := (aAd _ _).mp c4
        exact hpost _ (by omega)
      · skip
        have c4 := mt (aAd _ _).mpr c4
        refine And.intro (fun c6 => ?_) (fun c6 => ?_)
        · skip
          have c6 := (aAO _ _).mp c6
          refine t_X3_standingsAt (by omega) wX (fun r7 h_r7 => ?_)
          exact hpost _ (by omega)
        · skip
          have c6 := mt (aAO _ _).mpr c6
          exact hpost _ (by omega)
set_option maxHeartbeats 8000000 in
set_option maxRecDepth 200000 in
theorem ts_X1_readAll_5 {post : Int32 → Int32 → Int32 → (Nat → Int32) → Prop} {next : Int32 → Int32 → (Nat → Int32) → Prop} {n5 : Int} (qL rX : Int32) (qM : Nat → Int32) (aBH : 0 ≤ Int32.toInt qL ∧ Int32.toInt qL ≤ 80) (aA2 : 0 ≤ Int32.toInt rX ∧ Int32.toInt rX ≤ 80) (aAI : ∀ k : Nat, 0 ≤ Int32.toInt (qM k) ∧ Int32.toInt (qM k) ≤ 65535) (hpost : ∀ (r : Int32) (aBS : Int32) (mk_many' : Int32) (mk_at' : Nat → Int32), (0 ≤ Int32.toInt r ∧ Int32.toInt r ≤ 1) → (0 ≤ Int32.toInt aBS ∧ Int32.toInt aBS ≤ 80) → (0 ≤ Int32.toInt mk_many' ∧ Int32.toInt mk_many' ≤ 6) → post r aBS mk_many' mk_at') (hKn : ∀ (qJ : Int32) (vR : Int32) (xW : Nat → Int32), (0 ≤ Int32.toInt qJ ∧ Int32.toInt qJ ≤ 80) → (0 ≤ Int32.toInt vR ∧ Int32.toInt vR ≤ 6) → (6 - Int32.toInt vR < n5) → next qJ vR xW) (qJ vR : Int32) (xW : Nat → Int32) (aA0 : 0 ≤ Int32.toInt qJ ∧ Int32.toInt qJ ≤ 80) (aB3 : 0 ≤ Int32.toInt vR ∧ Int32.toInt vR ≤ 6) (hn5 : 6 - Int32.toInt vR ≤ n5) : ws_X1_readAll_5 post next qL rX qM qJ vR xW := by
  have l0 := aI2
  have l1 := aE0
  have l2 := aEc
  have l3 := li_2
  have l4 := li_44
  have l5 := li_6
  refine And.intro (fun c1 => ?_) (fun c1 => ?_)
  · skip
    have c1 := (aAO _ _).mp c1
    exact hpost _ _ _ _ (by omega) aA0 aB3
  · skip
    have c1 := mt (aAO _ _).mpr c1
    refine aXN (by omega) aA0 aA2 aAI (fun r3 aCK h_tx_place_2 => ?_)
    have f5 := aAT r3
    refine And.intro (fun c4 => ?_) (fun c4 => ?_)
    · skip
      have c4 := mt (zJ _ _).mpr c4
      refine And.intro (aBZ (by omega)) ?_
      refine And.intro (fun c6 => ?_) (fun c6 => ?_)
      · skip
        have c6 := (aAO _ _).mp c6
        refine And.intro (fun h9 => absurd h9 (by decide)) (fun _ => ?_)
        refine And.intro (fun h9 => absurd h9 (by decide)) (fun _ => ?_)
        intro v7 ev7
        have f8 : Int32.toInt (vR + 1) = Int32.toInt vR + Int32.toInt (1 : Int32) := aAD _ _ (by omega)
        rw [← ev7] at f8
        refine And.intro (fun c9 => ?_) (fun c9 => ?_)
        · skip
          have c9 := mt (zJ _ _).mpr c9
          refine And.intro (aHE (by omega)) ?_
          exact hpost _ _ _ _ (by omega) h_tx_place_2 (by omega)
        · skip
          have c9 := (zJ _ _).mp c9
          refine And.intro (aHE (by omega)) ?_
          exact hpost _ _ _ _ (by omega) h_tx_place_2 (by omega)
      · skip
        have c6 := mt (aAO _ _).mpr c6
        refine And.intro (aBZ (by omega)) ?_
        intro v10 ev10
        have f11 := aAI aCK.toNatClampNeg
        have hv10 := congrArg Int32.toInt ev10
        refine And.intro (fun c12 => ?_) (fun c12 => ?_)
        · skip
          have c12 := (zJ _ _).mp c12
          intro v13 ev13
          have f14 : Int32.toInt (aCK + 1) = Int32.toInt aCK + Int32.toInt (1 : Int32) := aAD _ _ (by omega)
          rw [← ev13] at f14
          refine And.intro (fun _ => ?_) (fun h9 => absurd h9 (by decide))
          intro v15 ev15
          have f16 : Int32.toInt (vR + 1) = Int32.toInt vR + Int32.toInt (1 : Int32) := aAD _ _ (by omega)
          rw [← ev15] at f16
          exact hKn v13 v15 (upd xW vR.toNatClampNeg r3) (by omega) (by omega) (by omega)
        · skip
          have c12 := mt (zJ _ _).mpr c12
          refine And.intro (fun h9 => absurd h9 (by decide)) (fun _ => ?_)
          intro v17 ev17
          have f18 : Int32.toInt (vR + 1) = Int32.toInt vR + Int32.toInt (1 : Int32) := aAD _ _ (by omega)
          rw [← ev17] at f18
          refine And.intro (fun c19 => ?_) (fun c19 => ?_)
          · skip
            have c19 := mt (zJ _ _).mpr c19
            refine And.intro (aHE (by omega)) ?_
            exact hpost _ _ _ _ (by omega) h_tx_place_2 (by omega)
          · skip
            have c19 := (zJ _ _).mp c19
            refine And.intro (aHE (by omega)) ?_
            exact hpost _ _ _ _ (by omega) h_tx_place_2 (by omega)
    · skip
      have c4 := (zJ _ _).mp c4
      exact hpost _ _ _ _ (by omega) h_tx_place_2 aB3
set_option maxHeartbeats 8000000 in
set_option maxRecDepth 200000 in
theorem tb_X1_readAll_5 {post : Int32 → Int32 → Int32 → (Nat → Int32) → Prop} (qL rX : Int32) (qM : Nat → Int32) (aBH : 0 ≤ Int32.toInt qL ∧ Int32.toInt qL ≤ 80) (aA2 : 0 ≤ Int32.toInt rX ∧ Int32.toInt rX ≤ 80) (aAI : ∀ k : Nat, 0 ≤ Int32.toInt (qM k) ∧ Int32.toInt (qM k) ≤ 65535) (hpost : ∀ (r : Int32) (aBS : Int32) (mk_many' : Int32) (mk_at' : Nat → Int32), (0 ≤ Int32.toInt r ∧ Int32.toInt r ≤ 1) → (0 ≤ Int32.toInt aBS ∧ Int32.toInt aBS ≤ 80) → (0 ≤ Int32.toInt mk_many' ∧ Int32.toInt mk_many' ≤ 6) → post r aBS mk_many' mk_at') : ∀ (n : Nat) (qJ vR : Int32) (xW : Nat → Int32), (0 ≤ Int32.toInt qJ ∧ Int32.toInt qJ ≤ 80) → (0 ≤ Int32.toInt vR ∧ Int32.toInt vR ≤ 6) → (6 - Int32.toInt vR < (n : Int)) → wb_X1_readAll_5 post qL rX qM n qJ vR xW := by
  intro n
  induction n with
  | zero =>
    intro qJ vR xW aA0 aB3 hm
    exfalso; omega
  | succ n ih =>
    intro qJ vR xW aA0 aB3 hm
    exact ts_X1_readAll_5 qL rX qM aBH aA2 aAI hpost ih qJ vR xW aA0 aB3 (by omega)
set_option maxHeartbeats 8000000 in
set_option maxRecDepth 200000 in
theorem t_X1_readAll {post : Int32 → Int32 → Int32 → (Nat → Int32) → Prop} {qL qJ rX : Int32} {qM : Nat → Int32} {vR : Int32} {xW : Nat → Int32} (aBH : 0 ≤ Int32.toInt qL ∧ Int32.toInt qL ≤ 80) (aA0 : 0 ≤ Int32.toInt qJ ∧ Int32.toInt qJ ≤ 0) (aA2 : 0 ≤ Int32.toInt rX ∧ Int32.toInt rX ≤ 80) (aAI : ∀ k : Nat, 0 ≤ Int32.toInt (qM k) ∧ Int32.toInt (qM k) ≤ 65535) (aB3 : 0 ≤ Int32.toInt vR ∧ Int32.toInt vR ≤ 6) (hpost : ∀ (r : Int32) (aBS : Int32) (mk_many' : Int32) (mk_at' : Nat → Int32), (0 ≤ Int32.toInt r ∧ Int32.toInt r ≤ 1) → (0 ≤ Int32.toInt aBS ∧ Int32.toInt aBS ≤ 80) → (0 ≤ Int32.toInt mk_many' ∧ Int32.toInt mk_many' ≤ 6) → post r aBS mk_many' mk_at') : wp_X1_readAll post qL qJ rX qM vR xW := by
  have l0 := aE0
  exact ⟨8, tb_X1_readAll_5 qL rX qM aBH aA2 aAI hpost _ qJ 0 xW (by omega) (by omega) (by omega)⟩
set_option maxHeartbeats 8000000 in
set_option maxRecDepth 200000 in
theorem ts_X1_countRows_92 {post : Int32 → (Nat → Int32) → Prop} {K10 : Int32 → Int32 → Int32 → (Nat → Int32) → Prop} {K37 : Int32 → Int32 → Int32 → Int32 → Int32 → Int32 → (Nat → Int32) → Prop} {n10 n37 : Int} (bD : Int32) (mX : Nat → Int32) (vR : Int32) (xW : Nat → Int32) (wX : 0 ≤ Int32.toInt bD ∧ Int32.toInt bD ≤ 8) (aB3 : 0 ≤ Int32.toInt vR ∧ Int32.toInt vR ≤ 6) (hpost : ∀ (r : Int32) (mk_rows' : Nat → Int32), post r mk_rows') (hK10 : ∀ (x2 : Int32) (x3 : Int32) (x4 : Int32) (vW : Nat → Int32), (0 ≤ Int32.toInt x2 ∧ Int32.toInt x2 ≤ 99) → (-1 ≤ Int32.toInt x4 ∧ Int32.toInt x4 ≤ 5) → (Int32.toInt x4 ≤ Int32.toInt vR - 1) → (Int32.toInt x4 + 1 < n10) → K10 x2 x3 x4 vW) (hK37 : ∀ (x2 : Int32) (x3 : Int32) (x4 : Int32) (x5 : Int32) (x6 : Int32) (x7 : Int32) (vW : Nat → Int32), (0 ≤ Int32.toInt x2 ∧ Int32.toInt x2 ≤ 99) → (0 ≤ Int32.toInt x4 ∧ Int32.toInt x4 ≤ 5) → (0 ≤ Int32.toInt x5 ∧ Int32.toInt x5 ≤ 255) → (0 ≤ Int32.toInt x7 ∧ Int32.toInt x7 ≤ 8) → (Int32.toInt x4 ≤ Int32.toInt vR - 1) → (Int32.toInt x4 + 1 ≤ n10) → (8 - Int32.toInt x7 < n37) → K37 x2 x3 x4 x5 x6 x7 vW) (x2 x3 x4 x5 x6 x7 x8 : Int32) (vW : Nat → Int32) (aBN : 0 ≤ Int32.toInt x2 ∧ Int32.toInt x2 ≤ 99) (aDO : 0 ≤ Int32.toInt x4 ∧ Int32.toInt x4 ≤ 5) (aF7 : 0 ≤ Int32.toInt x5 ∧ Int32.toInt x5 ≤ 255) (h_x7 : 0 ≤ Int32.toInt x7 ∧ Int32.toInt x7 ≤ 7) (hx0 : Int32.toInt x4 ≤ Int32.toInt vR - 1) (hn10 : Int32.toInt x4 + 1 ≤ n10) (hn37 : 8 - Int32.toInt x7 ≤ n37) : ws_X1_countRows_92 post K10 K37 bD mX vR xW x2 x3 x4 x5 x6 x7 x8 vW := by
  have l0 := aEc
  have l1 := li_8
  intro v1 ev1
  have f2 : Int32.toInt (x4 * 8) = Int32.toInt x4 * 8 := ta_mulc _ _ (by decide) (by omega)
  rw [← ev1] at f2
  intro v3 ev3
  have f4 : Int32.toInt (v1 + x7) = Int32.toInt v1 + Int32.toInt x7 := aAD _ _ (by omega)
  rw [← ev3] at f4
  refine And.intro (aBZ (by omega)) ?_
  intro v5 ev5
  have hv5 := congrArg Int32.toInt ev5
  intro v7 ev7
  have f8 : Int32.toInt (x7 + 1) = Int32.toInt x7 + Int32.toInt (1 : Int32) := aAD _ _ (by omega)
  rw [← ev7] at f8
  have f9 := aAT v5
  have f10 := aAT x6
  exact hK37 x2 v5 x4 x5 x6 v7 (upd vW v3.toNatClampNeg x8) aBN aDO aF7 (by omega) hx0 hn10 (by omega)
set_option maxHeartbeats 8000000 in
set_option maxRecDepth 200000 in
theorem ts_X1_countRows_90 {post : Int32 → (Nat → Int32) → Prop} {K10 : Int32 → Int32 → Int32 → (Nat → Int32) → Prop} {K37 : Int32 → Int32 → Int32 → Int32 → Int32 → Int32 → (Nat → Int32) → Prop} {n10 n37 : Int} (bD : Int32) (mX : Nat → Int32) (vR : Int32) (xW : Nat → Int32) (wX : 0 ≤ Int32.toInt bD ∧ Int32.toInt bD ≤ 8) (aB3 : 0 ≤ Int32.toInt vR ∧ Int32.toInt vR ≤ 6) (hpost : ∀ (r : Int32) (mk_rows' : Nat → Int32), post r mk_rows') (hK10 : ∀ (x2 : Int32) (x3 : Int32) (x4 : Int32) (vW : Nat → Int32), (0 ≤ Int32.toInt x2 ∧ Int32.toInt x2 ≤ 99) → (-1 ≤ Int32.toInt x4 ∧ Int32.toInt x4 ≤ 5) → (Int32.toInt x4 ≤ Int32.toInt vR - 1) → (Int32.toInt x4 + 1 < n10) → K10 x2 x3 x4 vW) (hK37 : ∀ (x2 : Int32) (x3 : Int32) (x4 : Int32) (x5 : Int32) (x6 : Int32) (x7 : Int32) (vW : Nat → Int32), (0 ≤ Int32.toInt x2 ∧ Int32.toInt x2 ≤ 99) → (0 ≤ Int32.toInt x4 ∧ Int32.toInt x4 ≤ 5) → (0 ≤ Int32.toInt x5 ∧ Int32.toInt x5 ≤ 255) → (0 ≤ Int32.toInt x7 ∧ Int32.toInt x7 ≤ 8) → (Int32.toInt x4 ≤ Int32.toInt vR - 1) → (Int32.toInt x4 + 1 ≤ n10) → (8 - Int32.toInt x7 < n37) → K37 x2 x3 x4 x5 x6 x7 vW) (x2 x3 x4 x5 x6 x7 k0 : Int32) (vW : Nat → Int32) (aBN : 0 ≤ Int32.toInt x2 ∧ Int32.toInt x2 ≤ 99) (aDO : 0 ≤ Int32.toInt x4 ∧ Int32.toInt x4 ≤ 5) (aF7 : 0 ≤ Int32.toInt x5 ∧ Int32.toInt x5 ≤ 255) (h_x7 : 0 ≤ Int32.toInt x7 ∧ Int32.toInt x7 ≤ 7) (hx0 : Int32.toInt x4 ≤ Int32.toInt vR - 1) (hn10 : Int32.toInt x4 + 1 ≤ n10) (hn37 : 8 - Int32.toInt x7 ≤ n37) : ws_X1_countRows_90 post K10 K37 bD mX vR xW x2 x3 x4 x5 x6 x7 k0 vW := by
  have f11 := aAT x3
  have f12 := aAT x6
  have f13 := aAT k0
  exact ts_X1_countRows_92 bD mX vR xW wX aB3 hpost hK10 hK37 x2 x3 x4 x5 x6 x7 k0 vW aBN aDO aF7 h_x7 hx0 hn10 hn37
set_option maxHeartbeats 8000000 in
set_option maxRecDepth 200000 in
theorem ts_X1_countRows_37 {post : Int32 → (Nat → Int32) → Prop} {K10 : Int32 → Int32 → Int32 → (Nat → Int32) → Prop} {next : Int32 → Int32 → Int32 → Int32 → Int32 → Int32 → (Nat → Int32) → Prop} {n37 n10 : Int} (bD : Int32) (mX : Nat → Int32) (vR : Int32) (xW : Nat → Int32) (wX : 0 ≤ Int32.toInt bD ∧ Int32.toInt bD ≤ 8) (aB3 : 0 ≤ Int32.toInt vR ∧ Int32.toInt vR ≤ 6) (hpost : ∀ (r : Int32) (mk_rows' : Nat → Int32), post r mk_rows') (hK10 : ∀ (x2 : Int32) (x3 : Int32) (x4 : Int32) (vW : Nat → Int32), (0 ≤ Int32.toInt x2 ∧ Int32.toInt x2 ≤ 99) → (-1 ≤ Int32.toInt x4 ∧ Int32.toInt x4 ≤ 5) → (Int32.toInt x4 ≤ Int32.toInt vR - 1) → (Int32.toInt x4 + 1 < n10) → K10 x2 x3 x4 vW) (hKn : ∀ (x2 : Int32) (x3 : Int32) (x4 : Int32) (x5 : Int32) (x6 : Int32) (x7 : Int32) (vW : Nat → Int32), (0 ≤ Int32.toInt x2 ∧ Int32.toInt x2 ≤ 99) → (0 ≤ Int32.toInt x4 ∧ Int32.toInt x4 ≤ 5) → (0 ≤ Int32.toInt x5 ∧ Int32.toInt x5 ≤ 255) → (0 ≤ Int32.toInt x7 ∧ Int32.toInt x7 ≤ 8) → (Int32.toInt x4 ≤ Int32.toInt vR - 1) → (Int32.toInt x4 + 1 ≤ n10) → (8 - Int32.toInt x7 < n37) → next x2 x3 x4 x5 x6 x7 vW) (x2 x3 x4 x5 x6 x7 : Int32) (vW : Nat → Int32) (aBN : 0 ≤ Int32.toInt x2 ∧ Int32.toInt x2 ≤ 99) (aDO : 0 ≤ Int32.toInt x4 ∧ Int32.toInt x4 ≤ 5) (aF7 : 0 ≤ Int32.toInt x5 ∧ Int32.toInt x5 ≤ 255) (h_x7 : 0 ≤ Int32.toInt x7 ∧ Int32.toInt x7 ≤ 8) (hx0 : Int32.toInt x4 ≤ Int32.toInt vR - 1) (hn10 : Int32.toInt x4 + 1 ≤ n10) (hn37 : 8 - Int32.toInt x7 ≤ n37) : ws_X1_countRows_37 post K10 next bD mX vR xW x2 x3 x4 x5 x6 x7 vW := by
  have l0 := aI2
  have l1 := aE0
  have l2 := aEc
  have l3 := li_8
  refine And.intro (fun c14 => ?_) (fun c14 => ?_)
  · skip
    have c14 := (aAO _ _).mp c14
    intro v15 ev15
    have f16 : Int32.toInt (x4 + (-1)) = Int32.toInt x4 + Int32.toInt ((-1) : Int32) := aAD _ _ (by omega)
    rw [← ev15] at f16
    have f17 := aAT x3
    exact hK10 x2 x3 v15 vW aBN (by omega) (by omega) (by omega)
  · skip
    have c14 := mt (aAO _ _).mpr c14
    intro v18 ev18
    have f19 := aRJ x5 x7 (by omega)
    have hv18 := congrArg Int32.toInt ev18
    have f21 := aAQ v18 1 (by omega)
    have f22 := aBx v18 1 (by omega)
    refine And.intro (fun c20 => ?_) (fun c20 => ?_)
    · skip
      have c20 := (zJ _ _).mp c20
      have f23 := aAT x3
      have f24 := aAT x6
      exact ts_X1_countRows_92 bD mX vR xW wX aB3 hpost hK10 hKn x2 x3 x4 x5 x6 x7 0 vW aBN aDO aF7 (by omega) hx0 hn10 hn37
    · skip
      have c20 := mt (zJ _ _).mpr c20
      have f26 : Int32.toInt (vR - 1) = Int32.toInt vR - Int32.toInt (1 : Int32) := aCA _ _ (by omega)
      refine And.intro (fun c25 => ?_) (fun c25 => ?_)
      · skip
        have c25 := mt (zJ _ _).mpr c25
        intro v27 ev27
        have f28 : Int32.toInt (x4 + 1) = Int32.toInt x4 + Int32.toInt (1 : Int32) := aAD _ _ (by omega)
        rw [← ev27] at f28
        intro v29 ev29
        have f30 : Int32.toInt (v27 * 8) = Int32.toInt v27 * 8 := ta_mulc _ _ (by decide) (by omega)
        rw [← ev29] at f30
        intro v31 ev31
        have f32 : Int32.toInt (v29 + x7) = Int32.toInt v29 + Int32.toInt x7 := aAD _ _ (by omega)
        rw [← ev31] at f32
        refine And.intro (aBZ (by omega)) ?_
        intro v33 ev33
        have hv33 := congrArg Int32.toInt ev33
        have f35 := aAT x3
        have f36 := aAT x6
        have f37 := aAT v33
        exact ts_X1_countRows_90 bD mX vR xW wX aB3 hpost hK10 hKn x2 x3 x4 x5 x6 x7 v33 vW aBN aDO aF7 (by omega) hx0 hn10 hn37
      · skip
        have c25 := (zJ _ _).mp c25
        have f38 := aAT x3
        have f39 := aAT x6
        exact ts_X1_countRows_90 bD mX vR xW wX aB3 hpost hK10 hKn x2 x3 x4 x5 x6 x7 1 vW aBN aDO aF7 (by omega) hx0 hn10 hn37
set_option maxHeartbeats 8000000 in
set_option maxRecDepth 200000 in
theorem tb_X1_countRows_37 {post : Int32 → (Nat → Int32) → Prop} {K10 : Int32 → Int32 → Int32 → (Nat → Int32) → Prop} {n10 : Int} (bD : Int32) (mX : Nat → Int32) (vR : Int32) (xW : Nat → Int32) (wX : 0 ≤ Int32.toInt bD ∧ Int32.toInt bD ≤ 8) (aB3 : 0 ≤ Int32.toInt vR ∧ Int32.toInt vR ≤ 6) (hpost : ∀ (r : Int32) (mk_rows' : Nat → Int32), post r mk_rows') (hK10 : ∀ (x2 : Int32) (x3 : Int32) (x4 : Int32) (vW : Nat → Int32), (0 ≤ Int32.toInt x2 ∧ Int32.toInt x2 ≤ 99) → (-1 ≤ Int32.toInt x4 ∧ Int32.toInt x4 ≤ 5) → (Int32.toInt x4 ≤ Int32.toInt vR - 1) → (Int32.toInt x4 + 1 < n10) → K10 x2 x3 x4 vW) : ∀ (n : Nat) (x2 x3 x4 x5 x6 x7 : Int32) (vW : Nat → Int32), (0 ≤ Int32.toInt x2 ∧ Int32.toInt x2 ≤ 99) → (0 ≤ Int32.toInt x4 ∧ Int32.toInt x4 ≤ 5) → (0 ≤ Int32.toInt x5 ∧ Int32.toInt x5 ≤ 255) → (0 ≤ Int32.toInt x7 ∧ Int32.toInt x7 ≤ 8) → (Int32.toInt x4 ≤ Int32.toInt vR - 1) → (Int32.toInt x4 + 1 ≤ n10) → (8 - Int32.toInt x7 < (n : Int)) → wb_X1_countRows_37 post K10 bD mX vR xW n x2 x3 x4 x5 x6 x7 vW := by
  intro n
  induction n with
  | zero =>
    intro x2 x3 x4 x5 x6 x7 vW aBN aDO aF7 h_x7 hx0 hn10 hm
    exfalso; omega
  | succ n ih =>
    intro x2 x3 x4 x5 x6 x7 vW aBN aDO aF7 h_x7 hx0 hn10 hm
    exact ts_X1_countRows_37 bD mX vR xW wX aB3 hpost hK10 ih x2 x3 x4 x5 x6 x7 vW aBN aDO aF7 h_x7 hx0 hn10 (by omega)
set_option maxHeartbeats 8000000 in
set_option maxRecDepth 200000 in
theorem ts_X1_countRows_10 {post : Int32 → (Nat → Int32) → Prop} {next : Int32 → Int32 → Int32 → (Nat → Int32) → Prop} {n10 : Int} (bD : Int32) (mX : Nat → Int32) (vR : Int32) (xW : Nat → Int32) (wX : 0 ≤ Int32.toInt bD ∧ Int32.toInt bD ≤ 8) (aB3 : 0 ≤ Int32.toInt vR ∧ Int32.toInt vR ≤ 6) (hpost : ∀ (r : Int32) (mk_rows' : Nat → Int32), post r mk_rows') (hKn : ∀ (x2 : Int32) (x3 : Int32) (x4 : Int32) (vW : Nat → Int32), (0 ≤ Int32.toInt x2 ∧ Int32.toInt x2 ≤ 99) → (-1 ≤ Int32.toInt x4 ∧ Int32.toInt x4 ≤ 5) → (Int32.toInt x4 ≤ Int32.toInt vR - 1) → (Int32.toInt x4 + 1 < n10) → next x2 x3 x4 vW) (x2 x3 x4 : Int32) (vW : Nat → Int32) (aBN : 0 ≤ Int32.toInt x2 ∧ Int32.toInt x2 ≤ 99) (aDO : -1 ≤ Int32.toInt x4 ∧ Int32.toInt x4 ≤ 5) (hx0 : Int32.toInt x4 ≤ Int32.toInt vR - 1) (hn10 : Int32.toInt x4 + 1 ≤ n10) : ws_X1_countRows_10 post next bD mX vR xW x2 x3 x4 vW := by
  have l0 := aE0
  refine And.intro (fun c40 => ?_) (fun c40 => ?_)
  · skip
    have c40 := (aAd _ _).mp c40
    exact hpost _ _ 
  · skip
    have c40 := mt (aAd _ _).mpr c40
    refine And.intro (aBZ (by omega)) ?_
    intro v41 ev41
    have hv41 := congrArg Int32.toInt ev41
    refine t_X3_standingsAt aBN wX (fun r43 h_r43 => ?_)
    have f44 := aAT x3
    exact ⟨10, tb_X1_countRows_37 bD mX vR xW wX aB3 hpost hKn _ x2 0 x4 r43 x3 0 vW aBN (by omega) h_r43 (by omega) hx0 hn10 (by omega)⟩
set_option maxHeartbeats 8000000 in
set_option maxRecDepth 200000 in
theorem tb_X1_countRows_10 {post : Int32 → (Nat → Int32) → Prop} (bD : Int32) (mX : Nat → Int32) (vR : Int32) (xW : Nat → Int32) (wX : 0 ≤ Int32.toInt bD ∧ Int32.toInt bD ≤ 8) (aB3 : 0 ≤ Int32.toInt vR ∧ Int32.toInt vR ≤ 6) (hpost : ∀ (r : Int32) (mk_rows' : Nat → Int32), post r mk_rows') : ∀ (n : Nat) (x2 x3 x4 : Int32) (vW : Nat → Int32), (0 ≤ Int32.toInt x2 ∧ Int32.toInt x2 ≤ 99) → (-1 ≤ Int32.toInt x4 ∧ Int32.toInt x4 ≤ 5) → (Int32.toInt x4 ≤ Int32.toInt vR - 1) → (Int32.toInt x4 + 1 < (n : Int)) → wb_X1_countRows_10 post bD mX vR xW n x2 x3 x4 vW := by
  intro n
  induction n with
  | zero =>
    intro x2 x3 x4 vW aBN aDO hx0 hm
    exfalso; omega
  | succ n ih =>
    intro x2 x3 x4 vW aBN aDO hx0 hm
    exact ts_X1_countRows_10 bD mX vR xW wX aB3 hpost ih x2 x3 x4 vW aBN aDO hx0 (by omega)
set_option maxHeartbeats 8000000 in
set_option maxRecDepth 200000 in
theorem t_X1_countRows {post : Int32 → (Nat → Int32) → Prop} {p1 bD : Int32} {mX : Nat → Int32} {vR : Int32} {xW vW : Nat → Int32} (h_p1 : 0 ≤ Int32.toInt p1 ∧ Int32.toInt p1 ≤ 99) (wX : 0 ≤ Int32.toInt bD ∧ Int32.toInt bD ≤ 8) (aB3 : 0 ≤ Int32.toInt vR ∧ Int32.toInt vR ≤ 6) (hpost : ∀ (r : Int32) (mk_rows' : Nat → Int32), post r mk_rows') : wp_X1_countRows post p1 bD mX vR xW vW := by
  have l0 := aE0
  have l1 := aEc
  intro v45 ev45
  have f46 : Int32.toInt (vR - 1) = Int32.toInt vR - Int32.toInt (1 : Int32) := aCA _ _ (by omega)
  rw [← ev45] at f46
  exact ⟨8, tb_X1_countRows_10 bD mX vR xW wX aB3 hpost _ p1 0 v45 vW h_p1 (by omega) (by omega) (by omega)⟩
