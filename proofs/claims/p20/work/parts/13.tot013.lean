set_option maxHeartbeats 8000000 in
set_option maxRecDepth 200000 in
theorem ts_X5_isEarlier_31 {post : Int32 → Prop} (hpost : ∀ (r : Int32) , (0 ≤ Int32.toInt r ∧ Int32.toInt r ≤ 1) → post r) : ws_X5_isEarlier_31 post := by
  have l0 := aEc
  exact hpost _ (by omega)
set_option maxHeartbeats 8000000 in
set_option maxRecDepth 200000 in
theorem t_X5_isEarlier {post : Int32 → Prop} {p0 p1 : Int32} (h_p0 : 0 ≤ Int32.toInt p0 ∧ Int32.toInt p0 ≤ 255) (h_p1 : 0 ≤ Int32.toInt p1 ∧ Int32.toInt p1 ≤ 255) (hpost : ∀ (r : Int32) , (0 ≤ Int32.toInt r ∧ Int32.toInt r ≤ 1) → post r) : wp_X5_isEarlier post p0 p1 := by
  have l0 := aE0
  have l1 := aKH
  have l2 := aJ8
  have l3 := li_63
  have l4 := aJ9
  intro v1 ev1
  intro v2 ev2
  have f4 := aAQ v1 1431655765 (by omega)
  have f3 : Int32.toInt (p0 - (v1 &&& 1431655765)) = Int32.toInt p0 - Int32.toInt (v1 &&& 1431655765) := aCA _ _ (by omega)
  rw [← ev2] at f3
  intro v5 ev5
  have f6 := aAQ v2 858993459 (by omega)
  have hv5 := congrArg Int32.toInt ev5
  intro v7 ev7
  intro v8 ev8
  have f10 := aAQ v7 858993459 (by omega)
  have f9 : Int32.toInt (v5 + (v7 &&& 858993459)) = Int32.toInt v5 + Int32.toInt (v7 &&& 858993459) := aAD _ _ (by omega)
  rw [← ev8] at f9
  intro v11 ev11
  have hv11 := congrArg Int32.toInt ev11
  intro v13 ev13
  have f14 := aAQ v11 252645135 (by omega)
  have hv13 := congrArg Int32.toInt ev13
  intro v15 ev15
  have hv15 := congrArg Int32.toInt ev15
  intro v17 ev17
  have hv17 := congrArg Int32.toInt ev17
  intro v19 ev19
  intro v20 ev20
  have f22 := aAQ v19 1431655765 (by omega)
  have f21 : Int32.toInt (p1 - (v19 &&& 1431655765)) = Int32.toInt p1 - Int32.toInt (v19 &&& 1431655765) := aCA _ _ (by omega)
  rw [← ev20] at f21
  intro v23 ev23
  have f24 := aAQ v20 858993459 (by omega)
  have hv23 := congrArg Int32.toInt ev23
  intro v25 ev25
  intro v26 ev26
  have f28 := aAQ v25 858993459 (by omega)
  have f27 : Int32.toInt (v23 + (v25 &&& 858993459)) = Int32.toInt v23 + Int32.toInt (v25 &&& 858993459) := aAD _ _ (by omega)
  rw [← ev26] at f27
  intro v29 ev29
  have hv29 := congrArg Int32.toInt ev29
  intro v31 ev31
  have f32 := aAQ v29 252645135 (by omega)
  have hv31 := congrArg Int32.toInt ev31
  intro v33 ev33
  have hv33 := congrArg Int32.toInt ev33
  intro v35 ev35
  have hv35 := congrArg Int32.toInt ev35
  intro v37 ev37
  have f39 := aAQ v17 63 (by omega)
  have f40 := aAQ v35 63 (by omega)
  have f38 : Int32.toInt ((v17 &&& 63) - (v35 &&& 63)) = Int32.toInt (v17 &&& 63) - Int32.toInt (v35 &&& 63) := aCA _ _ (by omega)
  rw [← ev37] at f38
  intro v41 ev41
  have f42 := ti_xor 8 256 p0 p1 (by decide) (by omega) (by omega)
  have hv41 := congrArg Int32.toInt ev41
  refine And.intro (fun c43 => ?_) (fun c43 => ?_)
  · skip
    have c43 := (aAd _ _).mp c43
    exact ts_X5_isEarlier_31 hpost 
  · skip
    have c43 := mt (aAd _ _).mpr c43
    refine And.intro (fun c44 => ?_) (fun c44 => ?_)
    · skip
      have c44 := mt (zJ _ _).mpr c44
      exact hpost _ (by omega)
    · skip
      have c44 := (zJ _ _).mp c44
      intro v45 ev45
      have f46 := aAQ p0 v41 (by omega)
      have f47 := aBx p0 v41 (by omega)
      have hv45 := congrArg Int32.toInt ev45
      have f50 := aBx v45 (-v41) (by omega)
      refine And.intro (fun c48 => ?_) (fun c48 => ?_)
      · skip
        have c48 := (zJ _ _).mp c48
        exact hpost _ (by omega)
      · skip
        have c48 := mt (zJ _ _).mpr c48
        exact ts_X5_isEarlier_31 hpost 
set_option maxHeartbeats 8000000 in
set_option maxRecDepth 200000 in
theorem ts_X5_smallestCover_45 {post : Int32 → Prop} {K5 : Int32 → Int32 → Int32 → Int32 → Prop} {n5 : Int} (rD : Nat → Int32) (bD : Int32) (zR : ∀ k : Nat, 0 ≤ Int32.toInt (rD k) ∧ Int32.toInt (rD k) ≤ 65535) (wX : 0 ≤ Int32.toInt bD ∧ Int32.toInt bD ≤ 8) (hpost : ∀ (r : Int32) , (0 ≤ Int32.toInt r ∧ Int32.toInt r ≤ 255) → post r) (hK5 : ∀ (x1 : Int32) (x2 : Int32) (x3 : Int32) (x4 : Int32), (0 ≤ Int32.toInt x1 ∧ Int32.toInt x1 ≤ 65535) → (0 ≤ Int32.toInt x2 ∧ Int32.toInt x2 ≤ 255) → (0 ≤ Int32.toInt x3 ∧ Int32.toInt x3 ≤ 255) → (0 ≤ Int32.toInt x4 ∧ Int32.toInt x4 ≤ 256) → (256 - Int32.toInt x4 < n5) → K5 x1 x2 x3 x4) (x1 x2 x3 x4 : Int32) (aBK : 0 ≤ Int32.toInt x1 ∧ Int32.toInt x1 ≤ 65535) (aBN : 1 ≤ Int32.toInt x2 ∧ Int32.toInt x2 ≤ 255) (aCH : 0 ≤ Int32.toInt x3 ∧ Int32.toInt x3 ≤ 255) (aDO : 0 ≤ Int32.toInt x4 ∧ Int32.toInt x4 ≤ 255) (hn5 : 256 - Int32.toInt x4 ≤ n5) : aYj post K5 rD bD x1 x2 x3 x4 := by
  have l0 := aEc
  intro v1 ev1
  have f2 : Int32.toInt (x4 + 1) = Int32.toInt x4 + Int32.toInt (1 : Int32) := aAD _ _ (by omega)
  rw [← ev1] at f2
  exact hK5 x1 x2 x3 v1 aBK (by omega) aCH (by omega) (by omega)
set_option maxHeartbeats 8000000 in
set_option maxRecDepth 200000 in
theorem ts_X5_smallestCover_5 {post : Int32 → Prop} {next : Int32 → Int32 → Int32 → Int32 → Prop} {n5 : Int} (rD : Nat → Int32) (bD : Int32) (zR : ∀ k : Nat, 0 ≤ Int32.toInt (rD k) ∧ Int32.toInt (rD k) ≤ 65535) (wX : 0 ≤ Int32.toInt bD ∧ Int32.toInt bD ≤ 8) (hpost : ∀ (r : Int32) , (0 ≤ Int32.toInt r ∧ Int32.toInt r ≤ 255) → post r) (hKn : ∀ (x1 : Int32) (x2 : Int32) (x3 : Int32) (x4 : Int32), (0 ≤ Int32.toInt x1 ∧ Int32.toInt x1 ≤ 65535) → (0 ≤ Int32.toInt x2 ∧ Int32.toInt x2 ≤ 255) → (0 ≤ Int32.toInt x3 ∧ Int32.toInt x3 ≤ 255) → (0 ≤ Int32.toInt x4 ∧ Int32.toInt x4 ≤ 256) → (256 - Int32.toInt x4 < n5) → next x1 x2 x3 x4) (x1 x2 x3 x4 : Int32) (aBK : 0 ≤ Int32.toInt x1 ∧ Int32.toInt x1 ≤ 65535) (aBN : 0 ≤ Int32.toInt x2 ∧ Int32.toInt x2 ≤ 255) (aCH : 0 ≤ Int32.toInt x3 ∧ Int32.toInt x3 ≤ 255) (aDO : 0 ≤ Int32.toInt x4 ∧ Int32.toInt x4 ≤ 256) (hn5 : 256 - Int32.toInt x4 ≤ n5) : ws_X5_smallestCover_5 post next rD bD x1 x2 x3 x4 := by
  have l0 := aE0
  refine And.intro (fun c3 => ?_) (fun c3 => ?_)
  · skip
    have c3 := (aAO _ _).mp c3
    exact hpost _ aCH
  · skip
    have c3 := mt (aAO _ _).mpr c3
    have f6 := aBx x4 (x2 ^^^ (-1)) (by omega)
    refine And.intro (fun c4 => ?_) (fun c4 => ?_)
    · skip
      have c4 := mt (zJ _ _).mpr c4
      exact ts_X5_smallestCover_45 rD bD zR wX hpost hKn x1 x2 x3 x4 aBK (by omega) aCH (by omega) hn5
    · skip
      have c4Z := c4
      have c4 := (zJ _ _).mp c4
      have s7 := ti_subset x4 x2 (c4Z) (by omega)
      refine aUy (by omega) zR wX (fun r8 h_r8 => ?_)
      have f11 := aBx x1 (r8 ^^^ (-1)) (by omega)
      refine And.intro (fun c9 => ?_) (fun c9 => ?_)
      · skip
        have c9 := mt (zJ _ _).mpr c9
        exact ts_X5_smallestCover_45 rD bD zR wX hpost hKn x1 x2 x3 x4 aBK (by omega) aCH (by omega) hn5
      · skip
        have c9Z := c9
        have c9 := (zJ _ _).mp c9
        have s12 := ti_subset x1 r8 (c9Z) (by omega)
        refine t_X5_isEarlier (by omega) aCH (fun r13 h_r13 => ?_)
        refine And.intro (fun c14 => ?_) (fun c14 => ?_)
        · skip
          have c14 := (zJ _ _).mp c14
          exact ts_X5_smallestCover_45 rD bD zR wX hpost hKn x1 x2 x3 x4 aBK (by omega) aCH (by omega) hn5
        · skip
          have c14 := mt (zJ _ _).mpr c14
          exact ts_X5_smallestCover_45 rD bD zR wX hpost hKn x1 x2 x4 x4 aBK (by omega) (by omega) (by omega) hn5
set_option maxHeartbeats 8000000 in
set_option maxRecDepth 200000 in
theorem tb_X5_smallestCover_5 {post : Int32 → Prop} (rD : Nat → Int32) (bD : Int32) (zR : ∀ k : Nat, 0 ≤ Int32.toInt (rD k) ∧ Int32.toInt (rD k) ≤ 65535) (wX : 0 ≤ Int32.toInt bD ∧ Int32.toInt bD ≤ 8) (hpost : ∀ (r : Int32) , (0 ≤ Int32.toInt r ∧ Int32.toInt r ≤ 255) → post r) : ∀ (n : Nat) (x1 x2 x3 x4 : Int32), (0 ≤ Int32.toInt x1 ∧ Int32.toInt x1 ≤ 65535) → (0 ≤ Int32.toInt x2 ∧ Int32.toInt x2 ≤ 255) → (0 ≤ Int32.toInt x3 ∧ Int32.toInt x3 ≤ 255) → (0 ≤ Int32.toInt x4 ∧ Int32.toInt x4 ≤ 256) → (256 - Int32.toInt x4 < (n : Int)) → wb_X5_smallestCover_5 post rD bD n x1 x2 x3 x4 := by
  intro n
  induction n with
  | zero =>
    intro x1 x2 x3 x4 aBK aBN aCH aDO hm
    exfalso; omega
  | succ n ih =>
    intro x1 x2 x3 x4 aBK aBN aCH aDO hm
    exact ts_X5_smallestCover_5 rD bD zR wX hpost ih x1 x2 x3 x4 aBK aBN aCH aDO (by omega)
set_option maxHeartbeats 8000000 in
set_option maxRecDepth 200000 in
theorem t_X5_smallestCover {post : Int32 → Prop} {p0 p1 : Int32} {rD : Nat → Int32} {bD : Int32} (h_p0 : 0 ≤ Int32.toInt p0 ∧ Int32.toInt p0 ≤ 65535) (h_p1 : 0 ≤ Int32.toInt p1 ∧ Int32.toInt p1 ≤ 255) (zR : ∀ k : Nat, 0 ≤ Int32.toInt (rD k) ∧ Int32.toInt (rD k) ≤ 65535) (wX : 0 ≤ Int32.toInt bD ∧ Int32.toInt bD ≤ 8) (hpost : ∀ (r : Int32) , (0 ≤ Int32.toInt r ∧ Int32.toInt r ≤ 255) → post r) : aXB post p0 p1 rD bD := by
  have l0 := aE0
  exact ⟨258, tb_X5_smallestCover_5 rD bD zR wX hpost _ p0 p1 p1 0 h_p0 h_p1 h_p1 (by omega) (by omega)⟩
set_option maxHeartbeats 8000000 in
set_option maxRecDepth 200000 in
theorem ts_X9_tellMembers_31 {post : Int32 → Int32 → (Nat → Int32) → Prop} {K9 : Int32 → Int32 → Int32 → (Nat → Int32) → Prop} {n9 : Int} (hpost : ∀ (r : Int32) (zV : Int32) (aAV : Nat → Int32), (0 ≤ Int32.toInt r ∧ Int32.toInt r ≤ 16) → (0 ≤ Int32.toInt zV ∧ Int32.toInt zV ≤ 16) → post r zV aAV) (hK9 : ∀ (x1 : Int32) (x2 : Int32) (qB : Int32) (jK : Nat → Int32), (0 ≤ Int32.toInt x1 ∧ Int32.toInt x1 ≤ 255) → (0 ≤ Int32.toInt x2 ∧ Int32.toInt x2 ≤ 8) → (0 ≤ Int32.toInt qB ∧ Int32.toInt qB ≤ 16) → (8 - Int32.toInt x2 < n9) → K9 x1 x2 qB jK) (x1 x2 qB : Int32) (jK : Nat → Int32) (aBK : 0 ≤ Int32.toInt x1 ∧ Int32.toInt x1 ≤ 255) (aBN : 0 ≤ Int32.toInt x2 ∧ Int32.toInt x2 ≤ 7) (aAK : 0 ≤ Int32.toInt qB ∧ Int32.toInt qB ≤ 16) (hn9 : 8 - Int32.toInt x2 ≤ n9) : ws_X9_tellMembers_31 post K9 x1 x2 qB jK := by
  have l0 := aEc
  intro v1 ev1
  have f2 : Int32.toInt (x2 + 1) = Int32.toInt x2 + Int32.toInt (1 : Int32) := aAD _ _ (by omega)
  rw [← ev1] at f2
  exact hK9 x1 v1 qB jK aBK (by omega) aAK (by omega)
set_option maxHeartbeats 8000000 in
set_option maxRecDepth 200000 in
theorem ts_X9_tellMembers_9 {post : Int32 → Int32 → (Nat → Int32) → Prop} {next : Int32 → Int32 → Int32 → (Nat → Int32) → Prop} {n9 : Int} (hpost : ∀ (r : Int32) (zV : Int32) (aAV : Nat → Int32), (0 ≤ Int32.toInt r ∧ Int32.toInt r ≤ 16) → (0 ≤ Int32.toInt zV ∧ Int32.toInt zV ≤ 16) → post r zV aAV) (hKn : ∀ (x1 : Int32) (x2 : Int32) (qB : Int32) (jK : Nat → Int32), (0 ≤ Int32.toInt x1 ∧ Int32.toInt x1 ≤ 255) → (0 ≤ Int32.toInt x2 ∧ Int32.toInt x2 ≤ 8) → (0 ≤ Int32.toInt qB ∧ Int32.toInt qB ≤ 16) → (8 - Int32.toInt x2 < n9) → next x1 x2 qB jK) (x1 x2 qB : Int32) (jK : Nat → Int32) (aBK : 0 ≤ Int32.toInt x1 ∧ Int32.toInt x1 ≤ 255) (aBN : 0 ≤ Int32.toInt x2 ∧ Int32.toInt x2 ≤ 8) (aAK : 0 ≤ Int32.toInt qB ∧ Int32.toInt qB ≤ 16) (hn9 : 8 - Int32.toInt x2 ≤ n9) : ws_X9_tellMembers_9 post next x1 x2 qB jK := by
  have l0 := aE0
  have l1 := aEc
  have l2 := li_16
  have l3 := li_8
  refine And.intro (fun c3 => ?_) (fun c3 => ?_)
  · skip
    have c3 := (aAO _ _).mp c3
    exact hpost _ _ _ aAK aAK
  · skip
    have c3 := mt (aAO _ _).mpr c3
    intro v4 ev4
    have f5 := aRJ x1 x2 (by omega)
    have hv4 := congrArg Int32.toInt ev4
    have f7 := aAQ v4 1 (by omega)
    have f8 := aBx v4 1 (by omega)
    refine And.intro (fun c6 => ?_) (fun c6 => ?_)
    · skip
      have c6 := (zJ _ _).mp c6
      exact ts_X9_tellMembers_31 hpost hKn x1 x2 qB jK aBK (by omega) aAK hn9
    · skip
      have c6 := mt (zJ _ _).mpr c6
      refine And.intro (fun c9 => ?_) (fun c9 => ?_)
      · skip
        have c9 := (aAO _ _).mp c9
        exact ts_X9_tellMembers_31 hpost hKn x1 x2 qB jK aBK (by omega) aAK hn9
      · skip
        have c9 := mt (aAO _ _).mpr c9
        refine And.intro (aBZ (by omega)) ?_
        intro v10 ev10
        have f11 : Int32.toInt (qB + 1) = Int32.toInt qB + Int32.toInt (1 : Int32) := aAD _ _ (by omega)
        rw [← ev10] at f11
        exact ts_X9_tellMembers_31 hpost hKn x1 x2 v10 (upd jK qB.toNatClampNeg x2) aBK (by omega) (by omega) hn9
set_option maxHeartbeats 8000000 in
set_option maxRecDepth 200000 in
theorem tb_X9_tellMembers_9 {post : Int32 → Int32 → (Nat → Int32) → Prop} (hpost : ∀ (r : Int32) (zV : Int32) (aAV : Nat → Int32), (0 ≤ Int32.toInt r ∧ Int32.toInt r ≤ 16) → (0 ≤ Int32.toInt zV ∧ Int32.toInt zV ≤ 16) → post r zV aAV) : ∀ (n : Nat) (x1 x2 qB : Int32) (jK : Nat → Int32), (0 ≤ Int32.toInt x1 ∧ Int32.toInt x1 ≤ 255) → (0 ≤ Int32.toInt x2 ∧ Int32.toInt x2 ≤ 8) → (0 ≤ Int32.toInt qB ∧ Int32.toInt qB ≤ 16) → (8 - Int32.toInt x2 < (n : Int)) → wb_X9_tellMembers_9 post n x1 x2 qB jK := by
  intro n
  induction n with
  | zero =>
    intro x1 x2 qB jK aBK aBN aAK hm
    exfalso; omega
  | succ n ih =>
    intro x1 x2 qB jK aBK aBN aAK hm
    exact ts_X9_tellMembers_9 hpost ih x1 x2 qB jK aBK aBN aAK (by omega)
set_option maxHeartbeats 8000000 in
set_option maxRecDepth 200000 in
theorem t_X9_tellMembers {post : Int32 → Int32 → (Nat → Int32) → Prop} {p0 qB : Int32} {jK : Nat → Int32} (h_p0 : 0 ≤ Int32.toInt p0 ∧ Int32.toInt p0 ≤ 255) (aAK : 0 ≤ Int32.toInt qB ∧ Int32.toInt qB ≤ 16) (hpost : ∀ (r : Int32) (zV : Int32) (aAV : Nat → Int32), (0 ≤ Int32.toInt r ∧ Int32.toInt r ≤ 16) → (0 ≤ Int32.toInt zV ∧ Int32.toInt zV ≤ 16) → post r zV aAV) : wp_X9_tellMembers post p0 qB jK := by
  have l0 := aE0
  exact ⟨10, tb_X9_tellMembers_9 hpost _ p0 0 0 jK h_p0 (by omega) (by omega) (by omega)⟩
set_option maxHeartbeats 8000000 in
set_option maxRecDepth 200000 in
theorem t_X9_fewest {post : Int32 → Int32 → (Nat → Int32) → Int32 → (Nat → Int32) → Prop} {oY : Int32} {rD : Nat → Int32} {dN bD : Int32} {uU gF qF mX oE dY : Nat → Int32} {jE eW eY gJ jG qB : Int32} {jK : Nat → Int32} (aAE : 0 ≤ Int32.toInt oY ∧ Int32.toInt oY ≤ 65535) (zR : ∀ k : Nat, 0 ≤ Int32.toInt (rD k) ∧ Int32.toInt (rD k) ≤ 65535) (xL : 0 ≤ Int32.toInt dN ∧ Int32.toInt dN ≤ 16) (wX : 0 ≤ Int32.toInt bD ∧ Int32.toInt bD ≤ 8) (zK : 0 ≤ Int32.toInt jG ∧ Int32.toInt jG ≤ 9) (aAK : 0 ≤ Int32.toInt qB ∧ Int32.toInt qB ≤ 16) (hpost : ∀ (r : Int32) (aAY : Int32) (aBC : Nat → Int32) (zV : Int32) (aAV : Nat → Int32), (0 ≤ Int32.toInt r ∧ Int32.toInt r ≤ 16) → (0 ≤ Int32.toInt aAY ∧ Int32.toInt aAY ≤ 65535) → (∀ k : Nat, 0 ≤ Int32.toInt (aBC k) ∧ Int32.toInt (aBC k) ≤ 65535) → (0 ≤ Int32.toInt zV ∧ Int32.toInt zV ≤ 16) → post r aAY aBC zV aAV) : wp_X9_fewest post oY rD dN bD uU gF qF mX oE dY jE eW eY gJ jG qB jK := by
  have l0 := aEc
  refine aVe zK aAE zR xL wX (fun aBo aCo h_pl_wanted_1 h_pl_near_2 => ?_)
  intro v3 ev3
  have f4 := aDv 8 256 bD (by decide) (by omega)
  have hv3 := congrArg Int32.toInt ev3
  have f6 : Int32.toInt (v3 - 1) = Int32.toInt v3 - Int32.toInt (1 : Int32) := aCA _ _ (by omega)
  refine t_X5_smallestCover h_pl_wanted_1 (by omega) h_pl_near_2 wX (fun r5 h_r5 => ?_)
  refine t_X9_tellMembers h_r5 aAK (fun r9 ro_size_7 aO7 h_r9 h_ro_size_7 => ?_)
  exact hpost _ _ _ _ _ h_r9 h_pl_wanted_1 h_pl_near_2 h_ro_size_7
set_option maxHeartbeats 8000000 in
set_option maxRecDepth 200000 in
theorem ts_X9_needed_76 {post : Int32 → Int32 → (Nat → Int32) → Int32 → (Nat → Int32) → Prop} {K13 : Int32 → Int32 → Int32 → Int32 → (Nat → Int32) → Int32 → (Nat → Int32) → Prop} {n13 : Int} (dN bD : Int32) (uU gF qF mX oE dY : Nat → Int32) (jE eW eY gJ jG : Int32) (xL : 0 ≤ Int32.toInt dN ∧ Int32.toInt dN ≤ 16) (wX : 0 ≤ Int32.toInt bD ∧ Int32.toInt bD ≤ 8) (zK : 0 ≤ Int32.toInt jG ∧ Int32.toInt jG ≤ 9) (hpost : ∀ (r : Int32) (aAY : Int32) (aBC : Nat → Int32) (zV : Int32) (aAV : Nat → Int32), (0 ≤ Int32.toInt r ∧ Int32.toInt r ≤ 255) → (0 ≤ Int32.toInt aAY ∧ Int32.toInt aAY ≤ 65535) → (∀ k : Nat, 0 ≤ Int32.toInt (aBC k) ∧ Int32.toInt (aBC k) ≤ 65535) → (1 ≤ Int32.toInt zV ∧ Int32.toInt zV ≤ 1) → post r aAY aBC zV aAV) (hK13 : ∀ (x1 : Int32) (x2 : Int32) (x3 : Int32) (oY : Int32) (rD : Nat → Int32) (qB : Int32) (jK : Nat → Int32), (0 ≤ Int32.toInt x1 ∧ Int32.toInt x1 ≤ 255) → (0 ≤ Int32.toInt x2 ∧ Int32.toInt x2 ≤ 65535) → (0 ≤ Int32.toInt x3 ∧ Int32.toInt x3 ≤ 8) → (0 ≤ Int32.toInt oY ∧ Int32.toInt oY ≤ 65535) → (∀ k : Nat, 0 ≤ Int32.toInt (rD k) ∧ Int32.toInt (rD k) ≤ 65535) → (0 ≤ Int32.toInt qB ∧ Int32.toInt qB ≤ 16) → (8 - Int32.toInt x3 < n13) → K13 x1 x2 x3 oY rD qB jK) (x1 x2 x3 oY : Int32) (rD : Nat → Int32) (qB : Int32) (jK : Nat → Int32) (aBK : 0 ≤ Int32.toInt x1 ∧ Int32.toInt x1 ≤ 255) (aBN : 0 ≤ Int32.toInt x2 ∧ Int32.toInt x2 ≤ 65535) (aCH : 0 ≤ Int32.toInt x3 ∧ Int32.toInt x3 ≤ 7) (aAE : 0 ≤ Int32.toInt oY ∧ Int32.toInt oY ≤ 65535) (zR : ∀ k : Nat, 0 ≤ Int32.toInt (rD k) ∧ Int32.toInt (rD k) ≤ 65535) (aAK : 0 ≤ Int32.toInt qB ∧ Int32.toInt qB ≤ 16) (hn13 : 8 - Int32.toInt x3 ≤ n13) : ws_X9_needed_76 post K13 dN bD uU gF qF mX oE dY jE eW eY gJ jG x1 x2 x3 oY rD qB jK := by
  have l0 := aEc
  intro v1 ev1
  have f2 : Int32.toInt (x3 + 1) = Int32.toInt x3 + Int32.toInt (1 : Int32) := aAD _ _ (by omega)
  rw [← ev1] at f2
  exact hK13 x1 x2 v1 oY rD qB jK aBK aBN (by omega) aAE zR aAK (by omega)
set_option maxHeartbeats 8000000 in
set_option maxRecDepth 200000 in
theorem ts_X9_needed_13 {post : Int32 → Int32 → (Nat → Int32) → Int32 → (Nat → Int32) → Prop} {next : Int32 → Int32 → Int32 → Int32 → (Nat → Int32) → Int32 → (Nat → Int32) → Prop} {n13 : Int} (dN bD : Int32) (uU gF qF mX oE dY : Nat → Int32) (jE eW eY gJ jG : Int32) (xL : 0 ≤ Int32.toInt dN ∧ Int32.toInt dN ≤ 16) (wX : 0 ≤ Int32.toInt bD ∧ Int32.toInt bD ≤ 8) (zK : 0 ≤ Int32.toInt jG ∧ Int32.toInt jG ≤ 9) (hpost : ∀ (r : Int32) (aAY : Int32) (aBC : Nat → Int32) (zV : Int32) (aAV : Nat → Int32), (0 ≤ Int32.toInt r ∧ Int32.toInt r ≤ 255) → (0 ≤ Int32.toInt aAY ∧ Int32.toInt aAY ≤ 65535) → (∀ k : Nat, 0 ≤ Int32.toInt (aBC k) ∧ Int32.toInt (aBC k) ≤ 65535) → (1 ≤ Int32.toInt zV ∧ Int32.toInt zV ≤ 1) → post r aAY aBC zV aAV) (hKn : ∀ (x1 : Int32) (x2 : Int32) (x3 : Int32) (oY : Int32) (rD : Nat → Int32) (qB : Int32) (jK : Nat → Int32), (0 ≤ Int32.toInt x1 ∧ Int32.toInt x1 ≤ 255) → (0 ≤ Int32.toInt x2 ∧ Int32.toInt x2 ≤ 65535) → (0 ≤ Int32.toInt x3 ∧ Int32.toInt x3 ≤ 8) → (0 ≤ Int32.toInt oY ∧ Int32.toInt oY ≤ 65535) → (∀ k : Nat, 0 ≤ Int32.toInt (rD k) ∧ Int32.toInt (rD k) ≤ 65535) → (0 ≤ Int32.toInt qB ∧ Int32.toInt qB ≤ 16) → (8 - Int32.toInt x3 < n13) → next x1 x2 x3 oY rD qB jK) (x1 x2 x3 oY : Int32) (rD : Nat → Int32) (qB : Int32) (jK : Nat → Int32) (aBK : 0 ≤ Int32.toInt x1 ∧ Int32.toInt x1 ≤ 255) (aBN : 0 ≤ Int32.toInt x2 ∧ Int32.toInt x2 ≤ 65535) (aCH : 0 ≤ Int32.toInt x3 ∧ Int32.toInt x3 ≤ 8) (aAE : 0 ≤ Int32.toInt oY ∧ Int32.toInt oY ≤ 65535) (zR : ∀ k : Nat, 0 ≤ Int32.toInt (rD k) ∧ Int32.toInt (rD k) ≤ 65535) (aAK : 0 ≤ Int32.toInt qB ∧ Int32.toInt qB ≤ 16) (hn13 : 8 - Int32.toInt x3 ≤ n13) : ws_X9_needed_13 post next dN bD uU gF qF mX oE dY jE eW eY gJ jG x1 x2 x3 oY rD qB jK := by
  have l0 := aE0
  have l1 := aEc
  refine And.intro (fun c3 => ?_) (fun c3 => ?_)
  · skip
    have c3 := (aAO _ _).mp c3
    refine And.intro (fun h9 => absurd h9 (by decide)) (fun _ => ?_)
    refine And.intro (aBZ (by omega)) ?_
    intro v4 ev4
    have f5 : Int32.toInt (0 + 1) = Int32.toInt (0 : Int32) + Int32.toInt (1 : Int32) := aAD _ _ (by omega)
    rw [← ev4] at f5
    exact hpost _ _ _ _ _ aBK aAE zR (by omega)
  · skip
    have c3 := mt (aAO _ _).mpr c3
    intro v6 ev6
    have f7 := aDv 8 256 bD (by decide) (by omega)
    have hv6 := congrArg Int32.toInt ev6
    intro v8 ev8
    have f9 := aDv 7 128 x3 (by decide) (by omega)
    have hv8 := congrArg Int32.toInt ev8
    intro v10 ev10
    have f12 : Int32.toInt (v6 - 1) = Int32.toInt v6 - Int32.toInt (1 : Int32) := aCA _ _ (by omega)
    have f13 := aBx (v6 - 1) (v8 ^^^ (-1)) (by omega)
    have hv10 := congrArg Int32.toInt ev10
    refine aUy (by omega) zR wX (fun r14 h_r14 => ?_)
    intro v15 ev15
    have f17 := aBx oY (r14 ^^^ (-1)) (by omega)
    have hv15 := congrArg Int32.toInt ev15
    refine And.intro (fun c18 => ?_) (fun c18 => ?_)
    · skip
      have c18 := (zJ _ _).mp c18
      exact ts_X9_needed_76 dN bD uU gF qF mX oE dY jE eW eY gJ jG xL wX zK hpost hKn x1 x2 x3 oY rD qB jK aBK aBN (by omega) aAE zR aAK hn13
    · skip
      have c18 := mt (zJ _ _).mpr c18
      intro v19 ev19
      have f20 := ti_or 8 256 x1 (1 <<< (x3 &&& 31)) (by decide) (by omega) (by omega)
      have hv19 := congrArg Int32.toInt ev19
      intro v21 ev21
      have f22 := ti_or 16 65536 x2 v15 (by decide) (by omega) (by omega)
      have hv21 := congrArg Int32.toInt ev21
      exact ts_X9_needed_76 dN bD uU gF qF mX oE dY jE eW eY gJ jG xL wX zK hpost hKn v19 v21 x3 oY rD qB jK (by omega) (by omega) (by omega) aAE zR aAK hn13
set_option maxHeartbeats 8000000 in
set_option maxRecDepth 200000 in
theorem tb_X9_needed_13 {post : Int32 → Int32 → (Nat → Int32) → Int32 → (Nat → Int32) → Prop} (dN bD : Int32) (uU gF qF mX oE dY : Nat → Int32) (jE eW eY gJ jG : Int32) (xL : 0 ≤ Int32.toInt dN ∧ Int32.toInt dN ≤ 16) (wX : 0 ≤ Int32.toInt bD ∧ Int32.toInt bD ≤ 8) (zK : 0 ≤ Int32.toInt jG ∧ Int32.toInt jG ≤ 9) (hpost : ∀ (r : Int32) (aAY : Int32) (aBC : Nat → Int32) (zV : Int32) (aAV : Nat → Int32), (0 ≤ Int32.toInt r ∧ Int32.toInt r ≤ 255) → (0 ≤ Int32.toInt aAY ∧ Int32.toInt aAY ≤ 65535) → (∀ k : Nat, 0 ≤ Int32.toInt (aBC k) ∧ Int32.toInt (aBC k) ≤ 65535) → (1 ≤ Int32.toInt zV ∧ Int32.toInt zV ≤ 1) → post r aAY aBC zV aAV) : ∀ (n : Nat) (x1 x2 x3 oY : Int32) (rD : Nat → Int32) (qB : Int32) (jK : Nat → Int32), (0 ≤ Int32.toInt x1 ∧ Int32.toInt x1 ≤ 255) → (0 ≤ Int32.toInt x2 ∧ Int32.toInt x2 ≤ 65535) → (0 ≤ Int32.toInt x3 ∧ Int32.toInt x3 ≤ 8) → (0 ≤ Int32.toInt oY ∧ Int32.toInt oY ≤ 65535) → (∀ k : Nat, 0 ≤ Int32.toInt (rD k) ∧ Int32.toInt (rD k) ≤ 65535) → (0 ≤ Int32.toInt qB ∧ Int32.toInt qB ≤ 16) → (8 - Int32.toInt x3 < (n : Int)) → wb_X9_needed_13 post dN bD uU gF qF mX oE dY jE eW eY gJ jG n x1 x2 x3 oY rD qB jK := by
  intro n
  induction n with
  | zero =>
    intro x1 x2 x3 oY rD qB jK aBK aBN aCH aAE zR aAK hm
    exfalso; omega
  | succ n ih =>
    intro x1 x2 x3 oY rD qB jK aBK aBN aCH aAE zR aAK hm
    exact ts_X9_needed_13 dN bD uU gF qF mX oE dY jE eW eY gJ jG xL wX zK hpost ih x1 x2 x3 oY rD qB jK aBK aBN aCH aAE zR aAK (by omega)
set_option maxHeartbeats 8000000 in
set_option maxRecDepth 200000 in
theorem t_X9_needed {post : Int32 → Int32 → (Nat → Int32) → Int32 → (Nat → Int32) → Prop} {oY : Int32} {rD : Nat → Int32} {dN bD : Int32} {uU gF qF mX oE dY : Nat → Int32} {jE eW eY gJ jG qB : Int32} {jK : Nat → Int32} (aAE : 0 ≤ Int32.toInt oY ∧ Int32.toInt oY ≤ 65535) (zR : ∀ k : Nat, 0 ≤ Int32.toInt (rD k) ∧ Int32.toInt (rD k) ≤ 65535) (xL : 0 ≤ Int32.toInt dN ∧ Int32.toInt dN ≤ 16) (wX : 0 ≤ Int32.toInt bD ∧ Int32.toInt bD ≤ 8) (zK : 0 ≤ Int32.toInt jG ∧ Int32.toInt jG ≤ 9) (aAK : 0 ≤ Int32.toInt qB ∧ Int32.toInt qB ≤ 16) (hpost : ∀ (r : Int32) (aAY : Int32) (aBC : Nat → Int32) (zV : Int32) (aAV : Nat → Int32), (0 ≤ Int32.toInt r ∧ Int32.toInt r ≤ 255) → (0 ≤ Int32.toInt aAY ∧ Int32.toInt aAY ≤ 65535) → (∀ k : Nat, 0 ≤ Int32.toInt (aBC k) ∧ Int32.toInt (aBC k) ≤ 65535) → (1 ≤ Int32.toInt zV ∧ Int32.toInt zV ≤ 1) → post r aAY aBC zV aAV) : wp_X9_needed post oY rD dN bD uU gF qF mX oE dY jE eW eY gJ jG qB jK := by
  have l0 := aE0
  refine aVe zK aAE zR xL wX (fun pl_wanted_23 pl_near_24 h_pl_wanted_23 h_pl_near_24 => ?_)
  exact ⟨10, tb_X9_needed_13 dN bD uU gF qF mX oE dY jE eW eY gJ jG xL wX zK hpost _ 0 0 0 pl_wanted_23 pl_near_24 qB jK (by omega) (by omega) (by omega) h_pl_wanted_23 h_pl_near_24 aAK (by omega)⟩
set_option maxHeartbeats 8000000 in
set_option maxRecDepth 200000 in
theorem ts_X9_isFewer_23 {post : Int32 → Prop} (hpost : ∀ (r : Int32) , (0 ≤ Int32.toInt r ∧ Int32.toInt r ≤ 1) → post r) : ws_X9_isFewer_23 post := by
  have l0 := aEc
  exact hpost _ (by omega)
set_option maxHeartbeats 8000000 in
set_option maxRecDepth 200000 in
theorem t_X9_isFewer {post : Int32 → Prop} {p0 p1 : Int32} (h_p0 : 0 ≤ Int32.toInt p0 ∧ Int32.toInt p0 ≤ 255) (h_p1 : 0 ≤ Int32.toInt p1 ∧ Int32.toInt p1 ≤ 255) (hpost : ∀ (r : Int32) , (0 ≤ Int32.toInt r ∧ Int32.toInt r ≤ 1) → post r) : wp_X9_isFewer post p0 p1 := by
  have l0 := aE0
  have l1 := aKH
  have l2 := aJ8
  have l3 := li_63
  have l4 := aJ9
  intro v1 ev1
  intro v2 ev2
  have f4 := aAQ v1 1431655765 (by omega)
  have f3 : Int32.toInt (p0 - (v1 &&& 1431655765)) = Int32.toInt p0 - Int32.toInt (v1 &&& 1431655765) := aCA _ _ (by omega)
  rw [← ev2] at f3
  intro v5 ev5
  have f6 := aAQ v2 858993459 (by omega)
  have hv5 := congrArg Int32.toInt ev5
  intro v7 ev7
  intro v8 ev8
  have f10 := aAQ v7 858993459 (by omega)
  have f9 : Int32.toInt (v5 + (v7 &&& 858993459)) = Int32.toInt v5 + Int32.toInt (v7 &&& 858993459) := aAD _ _ (by omega)
  rw [← ev8] at f9
  intro v11 ev11
  have hv11 := congrArg Int32.toInt ev11
  intro v13 ev13
  have f14 := aAQ v11 252645135 (by omega)
  have hv13 := congrArg Int32.toInt ev13
  intro v15 ev15
  have hv15 := congrArg Int32.toInt ev15
  intro v17 ev17
  have hv17 := congrArg Int32.toInt ev17
  intro v19 ev19
  intro v20 ev20
  have f22 := aAQ v19 1431655765 (by omega)
  have f21 : Int32.toInt (p1 - (v19 &&& 1431655765)) = Int32.toInt p1 - Int32.toInt (v19 &&& 1431655765) := aCA _ _ (by omega)
  rw [← ev20] at f21
  intro v23 ev23
  have f24 := aAQ v20 858993459 (by omega)
  have hv23 := congrArg Int32.toInt ev23
  intro v25 ev25
  intro v26 ev26
  have f28 := aAQ v25 858993459 (by omega)
  have f27 : Int32.toInt (v23 + (v25 &&& 858993459)) = Int32.toInt v23 + Int32.toInt (v25 &&& 858993459) := aAD _ _ (by omega)
  rw [← ev26] at f27
  intro v29 ev29
  have hv29 := congrArg Int32.toInt ev29
  intro v31 ev31
  have f32 := aAQ v29 252645135 (by omega)
  have hv31 := congrArg Int32.toInt ev31
  intro v33 ev33
  have hv33 := congrArg Int32.toInt ev33
  intro v35 ev35
  have hv35 := congrArg Int32.toInt ev35
  intro v37 ev37
  have f39 := aAQ v17 63 (by omega)
  have f40 := aAQ v35 63 (by omega)
  have f38 : Int32.toInt ((v17 &&& 63) - (v35 &&& 63)) = Int32.toInt (v17 &&& 63) - Int32.toInt (v35 &&& 63) := aCA _ _ (by omega)
  rw [← ev37] at f38
  refine And.intro (fun c41 => ?_) (fun c41 => ?_)
  · skip
    have c41 := (aAd _ _).mp c41
    exact ts_X9_isFewer_23 hpost 
  · skip
    have c41 := mt (aAd _ _).mpr c41
    refine And.intro (fun c42 => ?_) (fun c42 => ?_)
    · skip
      have c42 := mt (zJ _ _).mpr c42
      exact hpost _ (by omega)
    · skip
      have c42 := (zJ _ _).mp c42
      refine And.intro (fun c43 => ?_) (fun c43 => ?_)
      · skip
        have c43 := (aAO _ _).mp c43
        exact hpost _ (by omega)
      · skip
        have c43 := mt (aAO _ _).mpr c43
        exact ts_X9_isFewer_23 hpost 
