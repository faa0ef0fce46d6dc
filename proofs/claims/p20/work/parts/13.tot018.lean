set_option maxHeartbeats 8000000 in
set_option maxRecDepth 200000 in
theorem ts_X9_trips_89 {post : Int32 → Int32 → (Nat → Int32) → Int32 → (Nat → Int32) → Prop} {K64 : Int32 → Int32 → Int32 → Int32 → Int32 → (Nat → Int32) → Int32 → (Nat → Int32) → Prop} {n64 : Int} (dN bD : Int32) (uU gF qF mX oE dY : Nat → Int32) (jE eW eY fY gJ jG : Int32) (xL : 0 ≤ Int32.toInt dN ∧ Int32.toInt dN ≤ 16) (wX : 0 ≤ Int32.toInt bD ∧ Int32.toInt bD ≤ 8) (aAC : -1 ≤ Int32.toInt fY ∧ Int32.toInt fY ≤ 7) (zK : 0 ≤ Int32.toInt jG ∧ Int32.toInt jG ≤ 9) (hpost : ∀ (r : Int32) (aAY : Int32) (aBC : Nat → Int32) (zV : Int32) (aAV : Nat → Int32), (0 ≤ Int32.toInt aAY ∧ Int32.toInt aAY ≤ 65535) → (∀ k : Nat, 0 ≤ Int32.toInt (aBC k) ∧ Int32.toInt (aBC k) ≤ 65535) → (0 ≤ Int32.toInt zV ∧ Int32.toInt zV ≤ 16) → post r aAY aBC zV aAV) (hK64 : ∀ (x2 : Int32) (x3 : Int32) (x4 : Int32) (x5 : Int32) (oY : Int32) (rD : Nat → Int32) (qB : Int32) (jK : Nat → Int32), (0 ≤ Int32.toInt x4 ∧ Int32.toInt x4 ≤ 63) → (0 ≤ Int32.toInt x5 ∧ Int32.toInt x5 ≤ 63) → (0 ≤ Int32.toInt oY ∧ Int32.toInt oY ≤ 65535) → (∀ k : Nat, 0 ≤ Int32.toInt (rD k) ∧ Int32.toInt (rD k) ≤ 65535) → (0 ≤ Int32.toInt qB ∧ Int32.toInt qB ≤ 16) → (63 - Int32.toInt x5 < n64) → K64 x2 x3 x4 x5 oY rD qB jK) (x2 x3 x4 x5 oY : Int32) (rD : Nat → Int32) (qB : Int32) (jK : Nat → Int32) (aDO : 1 ≤ Int32.toInt x4 ∧ Int32.toInt x4 ≤ 63) (aF7 : 0 ≤ Int32.toInt x5 ∧ Int32.toInt x5 ≤ 62) (aAE : 0 ≤ Int32.toInt oY ∧ Int32.toInt oY ≤ 65535) (zR : ∀ k : Nat, 0 ≤ Int32.toInt (rD k) ∧ Int32.toInt (rD k) ≤ 65535) (aAK : 0 ≤ Int32.toInt qB ∧ Int32.toInt qB ≤ 16) (hn64 : 63 - Int32.toInt x5 ≤ n64) : ws_X9_trips_89 post K64 dN bD uU gF qF mX oE dY jE eW eY fY gJ jG x2 x3 x4 x5 oY rD qB jK := by
  have l0 := aEc
  intro v1 ev1
  have hv1 := congrArg Int32.toInt ev1
  intro v3 ev3
  have f4 : Int32.toInt (x5 + 1) = Int32.toInt x5 + Int32.toInt (1 : Int32) := aAD _ _ (by omega)
  rw [← ev3] at f4
  have f5 := aAT v1
  have f6 := aAT x3
  exact hK64 v1 x3 x4 v3 oY rD qB jK (by omega) (by omega) aAE zR aAK (by omega)
set_option maxHeartbeats 8000000 in
set_option maxRecDepth 200000 in
theorem ts_X9_trips_64 {post : Int32 → Int32 → (Nat → Int32) → Int32 → (Nat → Int32) → Prop} {next : Int32 → Int32 → Int32 → Int32 → Int32 → (Nat → Int32) → Int32 → (Nat → Int32) → Prop} {n64 : Int} (dN bD : Int32) (uU gF qF mX oE dY : Nat → Int32) (jE eW eY fY gJ jG : Int32) (xL : 0 ≤ Int32.toInt dN ∧ Int32.toInt dN ≤ 16) (wX : 0 ≤ Int32.toInt bD ∧ Int32.toInt bD ≤ 8) (aAC : -1 ≤ Int32.toInt fY ∧ Int32.toInt fY ≤ 7) (zK : 0 ≤ Int32.toInt jG ∧ Int32.toInt jG ≤ 9) (hpost : ∀ (r : Int32) (aAY : Int32) (aBC : Nat → Int32) (zV : Int32) (aAV : Nat → Int32), (0 ≤ Int32.toInt aAY ∧ Int32.toInt aAY ≤ 65535) → (∀ k : Nat, 0 ≤ Int32.toInt (aBC k) ∧ Int32.toInt (aBC k) ≤ 65535) → (0 ≤ Int32.toInt zV ∧ Int32.toInt zV ≤ 16) → post r aAY aBC zV aAV) (hKn : ∀ (x2 : Int32) (x3 : Int32) (x4 : Int32) (x5 : Int32) (oY : Int32) (rD : Nat → Int32) (qB : Int32) (jK : Nat → Int32), (0 ≤ Int32.toInt x4 ∧ Int32.toInt x4 ≤ 63) → (0 ≤ Int32.toInt x5 ∧ Int32.toInt x5 ≤ 63) → (0 ≤ Int32.toInt oY ∧ Int32.toInt oY ≤ 65535) → (∀ k : Nat, 0 ≤ Int32.toInt (rD k) ∧ Int32.toInt (rD k) ≤ 65535) → (0 ≤ Int32.toInt qB ∧ Int32.toInt qB ≤ 16) → (63 - Int32.toInt x5 < n64) → next x2 x3 x4 x5 oY rD qB jK) (x2 x3 x4 x5 oY : Int32) (rD : Nat → Int32) (qB : Int32) (jK : Nat → Int32) (aDO : 0 ≤ Int32.toInt x4 ∧ Int32.toInt x4 ≤ 63) (aF7 : 0 ≤ Int32.toInt x5 ∧ Int32.toInt x5 ≤ 63) (aAE : 0 ≤ Int32.toInt oY ∧ Int32.toInt oY ≤ 65535) (zR : ∀ k : Nat, 0 ≤ Int32.toInt (rD k) ∧ Int32.toInt (rD k) ≤ 65535) (aAK : 0 ≤ Int32.toInt qB ∧ Int32.toInt qB ≤ 16) (hn64 : 63 - Int32.toInt x5 ≤ n64) : ws_X9_trips_64 post next dN bD uU gF qF mX oE dY jE eW eY fY gJ jG x2 x3 x4 x5 oY rD qB jK := by
  have l0 := aE0
  have l1 := aEc
  have l2 := li_4
  refine And.intro (fun c7 => ?_) (fun c7 => ?_)
  · skip
    have c7 := (aAO _ _).mp c7
    refine And.intro (fun h9 => absurd h9 (by decide)) (fun _ => ?_)
    refine And.intro (aBZ (by omega)) ?_
    intro v8 ev8
    have f9 : Int32.toInt (0 + 1) = Int32.toInt (0 : Int32) + Int32.toInt (1 : Int32) := aAD _ _ (by omega)
    rw [← ev8] at f9
    exact hpost _ _ _ _ _ aAE zR (by omega)
  · skip
    have c7 := mt (aAO _ _).mpr c7
    have f11 := aAT x2
    refine And.intro (fun c10 => ?_) (fun c10 => ?_)
    · skip
      have c10 := (aAd _ _).mp c10
      have f13 := aAT x3
      exact ts_X9_trips_89 dN bD uU gF qF mX oE dY jE eW eY fY gJ jG xL wX aAC zK hpost hKn x2 x3 x4 x5 oY rD qB jK (by omega) (by omega) aAE zR aAK hn64
    · skip
      have c10 := mt (aAd _ _).mpr c10
      intro v14 ev14
      have hv14 := congrArg Int32.toInt ev14
      have f16 := aAT v14
      exact ts_X9_trips_89 dN bD uU gF qF mX oE dY jE eW eY fY gJ jG xL wX aAC zK hpost hKn 0 v14 x4 x5 oY rD qB jK (by omega) (by omega) aAE zR aAK hn64
set_option maxHeartbeats 8000000 in
set_option maxRecDepth 200000 in
theorem tb_X9_trips_64 {post : Int32 → Int32 → (Nat → Int32) → Int32 → (Nat → Int32) → Prop} (dN bD : Int32) (uU gF qF mX oE dY : Nat → Int32) (jE eW eY fY gJ jG : Int32) (xL : 0 ≤ Int32.toInt dN ∧ Int32.toInt dN ≤ 16) (wX : 0 ≤ Int32.toInt bD ∧ Int32.toInt bD ≤ 8) (aAC : -1 ≤ Int32.toInt fY ∧ Int32.toInt fY ≤ 7) (zK : 0 ≤ Int32.toInt jG ∧ Int32.toInt jG ≤ 9) (hpost : ∀ (r : Int32) (aAY : Int32) (aBC : Nat → Int32) (zV : Int32) (aAV : Nat → Int32), (0 ≤ Int32.toInt aAY ∧ Int32.toInt aAY ≤ 65535) → (∀ k : Nat, 0 ≤ Int32.toInt (aBC k) ∧ Int32.toInt (aBC k) ≤ 65535) → (0 ≤ Int32.toInt zV ∧ Int32.toInt zV ≤ 16) → post r aAY aBC zV aAV) : ∀ (n : Nat) (x2 x3 x4 x5 oY : Int32) (rD : Nat → Int32) (qB : Int32) (jK : Nat → Int32), (0 ≤ Int32.toInt x4 ∧ Int32.toInt x4 ≤ 63) → (0 ≤ Int32.toInt x5 ∧ Int32.toInt x5 ≤ 63) → (0 ≤ Int32.toInt oY ∧ Int32.toInt oY ≤ 65535) → (∀ k : Nat, 0 ≤ Int32.toInt (rD k) ∧ Int32.toInt (rD k) ≤ 65535) → (0 ≤ Int32.toInt qB ∧ Int32.toInt qB ≤ 16) → (63 - Int32.toInt x5 < (n : Int)) → wb_X9_trips_64 post dN bD uU gF qF mX oE dY jE eW eY fY gJ jG n x2 x3 x4 x5 oY rD qB jK := by
  intro n
  induction n with
  | zero =>
    intro x2 x3 x4 x5 oY rD qB jK aDO aF7 aAE zR aAK hm
    exfalso; omega
  | succ n ih =>
    intro x2 x3 x4 x5 oY rD qB jK aDO aF7 aAE zR aAK hm
    exact ts_X9_trips_64 dN bD uU gF qF mX oE dY jE eW eY fY gJ jG xL wX aAC zK hpost ih x2 x3 x4 x5 oY rD qB jK aDO aF7 aAE zR aAK (by omega)
set_option maxHeartbeats 8000000 in
set_option maxRecDepth 200000 in
theorem ts_X9_trips_45 {post : Int32 → Int32 → (Nat → Int32) → Int32 → (Nat → Int32) → Prop} (dN bD : Int32) (uU gF qF mX oE dY : Nat → Int32) (jE eW eY fY gJ jG : Int32) (xL : 0 ≤ Int32.toInt dN ∧ Int32.toInt dN ≤ 16) (wX : 0 ≤ Int32.toInt bD ∧ Int32.toInt bD ≤ 8) (aAC : -1 ≤ Int32.toInt fY ∧ Int32.toInt fY ≤ 7) (zK : 0 ≤ Int32.toInt jG ∧ Int32.toInt jG ≤ 9) (hpost : ∀ (r : Int32) (aAY : Int32) (aBC : Nat → Int32) (zV : Int32) (aAV : Nat → Int32), (0 ≤ Int32.toInt aAY ∧ Int32.toInt aAY ≤ 65535) → (∀ k : Nat, 0 ≤ Int32.toInt (aBC k) ∧ Int32.toInt (aBC k) ≤ 65535) → (0 ≤ Int32.toInt zV ∧ Int32.toInt zV ≤ 16) → post r aAY aBC zV aAV) (x1 k0 oY : Int32) (rD : Nat → Int32) (qB : Int32) (jK : Nat → Int32) (aBK : 0 ≤ Int32.toInt x1 ∧ Int32.toInt x1 ≤ 7) (h_k0 : 0 ≤ Int32.toInt k0 ∧ Int32.toInt k0 ≤ 63) (aAE : 0 ≤ Int32.toInt oY ∧ Int32.toInt oY ≤ 65535) (zR : ∀ k : Nat, 0 ≤ Int32.toInt (rD k) ∧ Int32.toInt (rD k) ≤ 65535) (aAK : 0 ≤ Int32.toInt qB ∧ Int32.toInt qB ≤ 16) : ws_X9_trips_45 post dN bD uU gF qF mX oE dY jE eW eY fY gJ jG x1 k0 oY rD qB jK := by
  have l0 := aE0
  have l1 := aKH
  have l2 := aJ8
  have l3 := li_63
  have l4 := aJ9
  refine And.intro (aBZ (by omega)) ?_
  intro v17 ev17
  intro v18 ev18
  have f21 := zR x1.toNatClampNeg
  have f20 := aAQ oY (rD x1.toNatClampNeg) (by omega)
  have f22 := aBx oY (rD x1.toNatClampNeg) (by omega)
  have f23 := aAQ v17 1431655765 (by omega)
  have f19 : Int32.toInt ((oY &&& (rD x1.toNatClampNeg)) - (v17 &&& 1431655765)) = Int32.toInt (oY &&& (rD x1.toNatClampNeg)) - Int32.toInt (v17 &&& 1431655765) := aCA _ _ (by omega)
  rw [← ev18] at f19
  intro v24 ev24
  have f25 := aAQ v18 858993459 (by omega)
  have hv24 := congrArg Int32.toInt ev24
  intro v26 ev26
  intro v27 ev27
  have f29 := aAQ v26 858993459 (by omega)
  have f28 : Int32.toInt (v24 + (v26 &&& 858993459)) = Int32.toInt v24 + Int32.toInt (v26 &&& 858993459) := aAD _ _ (by omega)
  rw [← ev27] at f28
  intro v30 ev30
  have hv30 := congrArg Int32.toInt ev30
  intro v32 ev32
  have f33 := aAQ v30 252645135 (by omega)
  have hv32 := congrArg Int32.toInt ev32
  intro v34 ev34
  have hv34 := congrArg Int32.toInt ev34
  intro v36 ev36
  have hv36 := congrArg Int32.toInt ev36
  have f38 := aAQ v36 63 (by omega)
  exact ⟨65, tb_X9_trips_64 dN bD uU gF qF mX oE dY jE eW eY fY gJ jG xL wX aAC zK hpost _ k0 0 (v36 &&& 63) 0 oY rD qB jK (by omega) (by omega) aAE zR aAK (by omega)⟩
set_option maxHeartbeats 8000000 in
set_option maxRecDepth 200000 in
theorem t_X9_trips {post : Int32 → Int32 → (Nat → Int32) → Int32 → (Nat → Int32) → Prop} {p0 oY : Int32} {rD : Nat → Int32} {dN bD : Int32} {uU gF qF mX oE dY : Nat → Int32} {jE eW eY fY gJ jG qB : Int32} {jK : Nat → Int32} (aAE : 0 ≤ Int32.toInt oY ∧ Int32.toInt oY ≤ 65535) (zR : ∀ k : Nat, 0 ≤ Int32.toInt (rD k) ∧ Int32.toInt (rD k) ≤ 65535) (xL : 0 ≤ Int32.toInt dN ∧ Int32.toInt dN ≤ 16) (wX : 0 ≤ Int32.toInt bD ∧ Int32.toInt bD ≤ 8) (aAC : -1 ≤ Int32.toInt fY ∧ Int32.toInt fY ≤ 7) (zK : 0 ≤ Int32.toInt jG ∧ Int32.toInt jG ≤ 9) (aAK : 0 ≤ Int32.toInt qB ∧ Int32.toInt qB ≤ 16) (hpost : ∀ (r : Int32) (aAY : Int32) (aBC : Nat → Int32) (zV : Int32) (aAV : Nat → Int32), (0 ≤ Int32.toInt aAY ∧ Int32.toInt aAY ≤ 65535) → (∀ k : Nat, 0 ≤ Int32.toInt (aBC k) ∧ Int32.toInt (aBC k) ≤ 65535) → (0 ≤ Int32.toInt zV ∧ Int32.toInt zV ≤ 16) → post r aAY aBC zV aAV) : wp_X9_trips post p0 oY rD dN bD uU gF qF mX oE dY jE eW eY fY gJ jG qB jK := by
  have l0 := aE0
  have l1 := aJ8
  have l2 := li_63
  have l3 := aJ9
  have f40 := aAT p0
  refine And.intro (fun c39 => ?_) (fun c39 => ?_)
  · skip
    have c39 := (aAd _ _).mp c39
    refine And.intro (fun h9 => absurd h9 (by decide)) (fun _ => ?_)
    exact hpost _ _ _ _ _ aAE zR aAK
  · skip
    have c39 := mt (aAd _ _).mpr c39
    refine And.intro (fun c41 => ?_) (fun c41 => ?_)
    · skip
      have c41 := (aAO _ _).mp c41
      refine And.intro (fun h9 => absurd h9 (by decide)) (fun _ => ?_)
      exact hpost _ _ _ _ _ aAE zR aAK
    · skip
      have c41 := mt (aAO _ _).mpr c41
      refine And.intro (fun _ => ?_) (fun h9 => absurd h9 (by decide))
      refine aVe zK aAE zR xL wX (fun pl_wanted_42 pl_near_43 h_pl_wanted_42 h_pl_near_43 => ?_)
      refine And.intro (fun c44 => ?_) (fun c44 => ?_)
      · skip
        have c44 := mt (zJ _ _).mpr c44
        exact ts_X9_trips_45 dN bD uU gF qF mX oE dY jE eW eY fY gJ jG xL wX aAC zK hpost p0 0 pl_wanted_42 pl_near_43 qB jK (by omega) (by omega) h_pl_wanted_42 h_pl_near_43 aAK
      · skip
        have c44 := (zJ _ _).mp c44
        intro v45 ev45
        intro v46 ev46
        have hv46 := congrArg Int32.toInt ev46
        intro v48 ev48
        have f49 := aAQ v46 858993459 (by omega)
        have hv48 := congrArg Int32.toInt ev48
        intro v50 ev50
        intro v51 ev51
        have f53 := aAQ v50 858993459 (by omega)
        have f52 : Int32.toInt (v48 + (v50 &&& 858993459)) = Int32.toInt v48 + Int32.toInt (v50 &&& 858993459) := aAD _ _ (by omega)
        rw [← ev51] at f52
        intro v54 ev54
        have hv54 := congrArg Int32.toInt ev54
        intro v56 ev56
        have f57 := aAQ v54 252645135 (by omega)
        have hv56 := congrArg Int32.toInt ev56
        intro v58 ev58
        have hv58 := congrArg Int32.toInt ev58
        intro v60 ev60
        have hv60 := congrArg Int32.toInt ev60
        have f62 := aAQ v60 63 (by omega)
        exact ts_X9_trips_45 dN bD uU gF qF mX oE dY jE eW eY fY gJ jG xL wX aAC zK hpost p0 (v60 &&& 63) pl_wanted_42 pl_near_43 qB jK (by omega) (by omega) h_pl_wanted_42 h_pl_near_43 aAK
set_option maxHeartbeats 8000000 in
set_option maxRecDepth 200000 in
theorem t_X9_helps {post : Int32 → Int32 → (Nat → Int32) → Int32 → (Nat → Int32) → Prop} {oY : Int32} {rD : Nat → Int32} {dN bD : Int32} {uU gF qF mX oE dY : Nat → Int32} {jE eW eY jG qB : Int32} {jK : Nat → Int32} (aAE : 0 ≤ Int32.toInt oY ∧ Int32.toInt oY ≤ 65535) (zR : ∀ k : Nat, 0 ≤ Int32.toInt (rD k) ∧ Int32.toInt (rD k) ≤ 65535) (xL : 0 ≤ Int32.toInt dN ∧ Int32.toInt dN ≤ 16) (wX : 0 ≤ Int32.toInt bD ∧ Int32.toInt bD ≤ 8) (zK : 0 ≤ Int32.toInt jG ∧ Int32.toInt jG ≤ 9) (aAK : 0 ≤ Int32.toInt qB ∧ Int32.toInt qB ≤ 16) (hpost : ∀ (r : Int32) (aAY : Int32) (aBC : Nat → Int32) (zV : Int32) (aAV : Nat → Int32), (-63 ≤ Int32.toInt r ∧ Int32.toInt r ≤ 63) → (0 ≤ Int32.toInt aAY ∧ Int32.toInt aAY ≤ 65535) → (∀ k : Nat, 0 ≤ Int32.toInt (aBC k) ∧ Int32.toInt (aBC k) ≤ 65535) → (2 ≤ Int32.toInt zV ∧ Int32.toInt zV ≤ 2) → post r aAY aBC zV aAV) : wp_X9_helps post oY rD dN bD uU gF qF mX oE dY jE eW eY jG qB jK := by
  have l0 := aE0
  have l1 := aEc
  have l2 := aKH
  have l3 := li_16
  have l4 := aJ8
  have l5 := li_63
  have l6 := aJ9
  refine aVe zK aAE zR xL wX (fun aBo aCo h_pl_wanted_1 h_pl_near_2 => ?_)
  intro v3 ev3
  have f4 := aDv 8 256 bD (by decide) (by omega)
  have hv3 := congrArg Int32.toInt ev3
  have f6 : Int32.toInt (v3 - 1) = Int32.toInt v3 - Int32.toInt (1 : Int32) := aCA _ _ (by omega)
  refine t_X5_smallestCover h_pl_wanted_1 (by omega) h_pl_near_2 wX (fun r5 h_r5 => ?_)
  refine aVe zK h_pl_wanted_1 h_pl_near_2 xL wX (fun pl_wanted_7 pl_near_8 h_pl_wanted_7 h_pl_near_8 => ?_)
  intro v9 ev9
  have hv9 := congrArg Int32.toInt ev9
  have f11 : Int32.toInt (v9 - 1) = Int32.toInt v9 - Int32.toInt (1 : Int32) := aCA _ _ (by omega)
  refine t_X5_smallestCover h_pl_wanted_7 (by omega) h_pl_near_8 wX (fun r10 h_r10 => ?_)
  intro v12 ev12
  intro v13 ev13
  have f15 := aAQ v12 1431655765 (by omega)
  have f14 : Int32.toInt (aBo - (v12 &&& 1431655765)) = Int32.toInt aBo - Int32.toInt (v12 &&& 1431655765) := aCA _ _ (by omega)
  rw [← ev13] at f14
  intro v16 ev16
  have f17 := aAQ v13 858993459 (by omega)
  have hv16 := congrArg Int32.toInt ev16
  intro v18 ev18
  intro v19 ev19
  have f21 := aAQ v18 858993459 (by omega)
  have f20 : Int32.toInt (v16 + (v18 &&& 858993459)) = Int32.toInt v16 + Int32.toInt (v18 &&& 858993459) := aAD _ _ (by omega)
  rw [← ev19] at f20
  intro v22 ev22
  have hv22 := congrArg Int32.toInt ev22
  intro v24 ev24
  have f25 := aAQ v22 252645135 (by omega)
  have hv24 := congrArg Int32.toInt ev24
  intro v26 ev26
  have hv26 := congrArg Int32.toInt ev26
  intro v28 ev28
  have hv28 := congrArg Int32.toInt ev28
  intro v30 ev30
  intro v31 ev31
  have f33 := aAQ v30 1431655765 (by omega)
  have f32 : Int32.toInt (pl_wanted_7 - (v30 &&& 1431655765)) = Int32.toInt pl_wanted_7 - Int32.toInt (v30 &&& 1431655765) := aCA _ _ (by omega)
  rw [← ev31] at f32
  intro v34 ev34
  have f35 := aAQ v31 858993459 (by omega)
  have hv34 := congrArg Int32.toInt ev34
  intro v36 ev36
  intro v37 ev37
  have f39 := aAQ v36 858993459 (by omega)
  have f38 : Int32.toInt (v34 + (v36 &&& 858993459)) = Int32.toInt v34 + Int32.toInt (v36 &&& 858993459) := aAD _ _ (by omega)
  rw [← ev37] at f38
  intro v40 ev40
  have hv40 := congrArg Int32.toInt ev40
  intro v42 ev42
  have f43 := aAQ v40 252645135 (by omega)
  have hv42 := congrArg Int32.toInt ev42
  intro v44 ev44
  have hv44 := congrArg Int32.toInt ev44
  intro v46 ev46
  have hv46 := congrArg Int32.toInt ev46
  refine And.intro (fun h9 => absurd h9 (by decide)) (fun _ => ?_)
  refine And.intro (aBZ (by omega)) ?_
  intro v48 ev48
  have f49 : Int32.toInt (0 + 1) = Int32.toInt (0 : Int32) + Int32.toInt (1 : Int32) := aAD _ _ (by omega)
  rw [← ev48] at f49
  refine And.intro (fun c50 => ?_) (fun c50 => ?_)
  · skip
    have c50 := (aAO _ _).mp c50
    exfalso; omega
  · skip
    have c50 := mt (aAO _ _).mpr c50
    refine And.intro (aBZ (by omega)) ?_
    intro v51 ev51
    have f52 : Int32.toInt (v48 + 1) = Int32.toInt v48 + Int32.toInt (1 : Int32) := aAD _ _ (by omega)
    rw [← ev51] at f52
    intro v53 ev53
    intro v54 ev54
    have f56 := aAQ v53 1431655765 (by omega)
    have f55 : Int32.toInt (r5 - (v53 &&& 1431655765)) = Int32.toInt r5 - Int32.toInt (v53 &&& 1431655765) := aCA _ _ (by omega)
    rw [← ev54] at f55
    intro v57 ev57
    have f58 := aAQ v54 858993459 (by omega)
    have hv57 := congrArg Int32.toInt ev57
    intro v59 ev59
    intro v60 ev60
    have f62 := aAQ v59 858993459 (by omega)
    have f61 : Int32.toInt (v57 + (v59 &&& 858993459)) = Int32.toInt v57 + Int32.toInt (v59 &&& 858993459) := aAD _ _ (by omega)
    rw [← ev60] at f61
    intro v63 ev63
    have hv63 := congrArg Int32.toInt ev63
    intro v65 ev65
    have f66 := aAQ v63 252645135 (by omega)
    have hv65 := congrArg Int32.toInt ev65
    intro v67 ev67
    have hv67 := congrArg Int32.toInt ev67
    intro v69 ev69
    have hv69 := congrArg Int32.toInt ev69
    intro v71 ev71
    intro v72 ev72
    have f74 := aAQ v71 1431655765 (by omega)
    have f73 : Int32.toInt (r10 - (v71 &&& 1431655765)) = Int32.toInt r10 - Int32.toInt (v71 &&& 1431655765) := aCA _ _ (by omega)
    rw [← ev72] at f73
    intro v75 ev75
    have f76 := aAQ v72 858993459 (by omega)
    have hv75 := congrArg Int32.toInt ev75
    intro v77 ev77
    intro v78 ev78
    have f80 := aAQ v77 858993459 (by omega)
    have f79 : Int32.toInt (v75 + (v77 &&& 858993459)) = Int32.toInt v75 + Int32.toInt (v77 &&& 858993459) := aAD _ _ (by omega)
    rw [← ev78] at f79
    intro v81 ev81
    have hv81 := congrArg Int32.toInt ev81
    intro v83 ev83
    have f84 := aAQ v81 252645135 (by omega)
    have hv83 := congrArg Int32.toInt ev83
    intro v85 ev85
    have hv85 := congrArg Int32.toInt ev85
    intro v87 ev87
    have hv87 := congrArg Int32.toInt ev87
    have f90 := aAQ v69 63 (by omega)
    have f91 := aAQ v87 63 (by omega)
    have f89 : Int32.toInt ((v69 &&& 63) - (v87 &&& 63)) = Int32.toInt (v69 &&& 63) - Int32.toInt (v87 &&& 63) := aCA _ _ (by omega)
    exact hpost _ _ _ _ _ (by omega) h_pl_wanted_7 h_pl_near_8 (by omega)
set_option maxHeartbeats 8000000 in
set_option maxRecDepth 200000 in
theorem ts_X9_hooked_115 {post : Int32 → Int32 → (Nat → Int32) → Int32 → (Nat → Int32) → Prop} {K50 : Int32 → Int32 → Int32 → Int32 → Int32 → Int32 → (Nat → Int32) → Int32 → (Nat → Int32) → Prop} {n50 : Int} (dN bD : Int32) (uU gF qF mX oE dY : Nat → Int32) (jE eW eY gJ jG : Int32) (xL : 0 ≤ Int32.toInt dN ∧ Int32.toInt dN ≤ 16) (wX : 0 ≤ Int32.toInt bD ∧ Int32.toInt bD ≤ 8) (zK : 0 ≤ Int32.toInt jG ∧ Int32.toInt jG ≤ 9) (hpost : ∀ (r : Int32) (aAY : Int32) (aBC : Nat → Int32) (zV : Int32) (aAV : Nat → Int32), (0 ≤ Int32.toInt r ∧ Int32.toInt r ≤ 65535) → (0 ≤ Int32.toInt aAY ∧ Int32.toInt aAY ≤ 65535) → (∀ k : Nat, 0 ≤ Int32.toInt (aBC k) ∧ Int32.toInt (aBC k) ≤ 65535) → (2 ≤ Int32.toInt zV ∧ Int32.toInt zV ≤ 2) → post r aAY aBC zV aAV) (hK50 : ∀ (x1 : Int32) (x2 : Int32) (x3 : Int32) (x4 : Int32) (x5 : Int32) (oY : Int32) (rD : Nat → Int32) (qB : Int32) (jK : Nat → Int32), (0 ≤ Int32.toInt x1 ∧ Int32.toInt x1 ≤ 65535) → (0 ≤ Int32.toInt x2 ∧ Int32.toInt x2 ≤ 65535) → (-1 ≤ Int32.toInt x3 ∧ Int32.toInt x3 ≤ 7) → (0 ≤ Int32.toInt x4 ∧ Int32.toInt x4 ≤ 63) → (0 ≤ Int32.toInt x5 ∧ Int32.toInt x5 ≤ 8) → (0 ≤ Int32.toInt oY ∧ Int32.toInt oY ≤ 65535) → (∀ k : Nat, 0 ≤ Int32.toInt (rD k) ∧ Int32.toInt (rD k) ≤ 65535) → (0 ≤ Int32.toInt qB ∧ Int32.toInt qB ≤ 16) → (8 - Int32.toInt x5 < n50) → K50 x1 x2 x3 x4 x5 oY rD qB jK) (x1 x2 x3 x4 x5 oY : Int32) (rD : Nat → Int32) (qB : Int32) (jK : Nat → Int32) (aBK : 0 ≤ Int32.toInt x1 ∧ Int32.toInt x1 ≤ 65535) (aBN : 0 ≤ Int32.toInt x2 ∧ Int32.toInt x2 ≤ 65535) (aCH : -1 ≤ Int32.toInt x3 ∧ Int32.toInt x3 ≤ 7) (aDO : 0 ≤ Int32.toInt x4 ∧ Int32.toInt x4 ≤ 63) (aF7 : 0 ≤ Int32.toInt x5 ∧ Int32.toInt x5 ≤ 7) (aAE : 0 ≤ Int32.toInt oY ∧ Int32.toInt oY ≤ 65535) (zR : ∀ k : Nat, 0 ≤ Int32.toInt (rD k) ∧ Int32.toInt (rD k) ≤ 65535) (aAK : 0 ≤ Int32.toInt qB ∧ Int32.toInt qB ≤ 16) (hn50 : 8 - Int32.toInt x5 ≤ n50) : ws_X9_hooked_115 post K50 dN bD uU gF qF mX oE dY jE eW eY gJ jG x1 x2 x3 x4 x5 oY rD qB jK := by
  have l0 := aEc
  intro v1 ev1
  have f2 : Int32.toInt (x5 + 1) = Int32.toInt x5 + Int32.toInt (1 : Int32) := aAD _ _ (by omega)
  rw [← ev1] at f2
  exact hK50 x1 x2 x3 x4 v1 oY rD qB jK aBK aBN aCH aDO (by omega) aAE zR aAK (by omega)
set_option maxHeartbeats 8000000 in
set_option maxRecDepth 200000 in
theorem ts_X9_hooked_50 {post : Int32 → Int32 → (Nat → Int32) → Int32 → (Nat → Int32) → Prop} {next : Int32 → Int32 → Int32 → Int32 → Int32 → Int32 → (Nat → Int32) → Int32 → (Nat → Int32) → Prop} {n50 : Int} (dN bD : Int32) (uU gF qF mX oE dY : Nat → Int32) (jE eW eY gJ jG : Int32) (xL : 0 ≤ Int32.toInt dN ∧ Int32.toInt dN ≤ 16) (wX : 0 ≤ Int32.toInt bD ∧ Int32.toInt bD ≤ 8) (zK : 0 ≤ Int32.toInt jG ∧ Int32.toInt jG ≤ 9) (hpost : ∀ (r : Int32) (aAY : Int32) (aBC : Nat → Int32) (zV : Int32) (aAV : Nat → Int32), (0 ≤ Int32.toInt r ∧ Int32.toInt r ≤ 65535) → (0 ≤ Int32.toInt aAY ∧ Int32.toInt aAY ≤ 65535) → (∀ k : Nat, 0 ≤ Int32.toInt (aBC k) ∧ Int32.toInt (aBC k) ≤ 65535) → (2 ≤ Int32.toInt zV ∧ Int32.toInt zV ≤ 2) → post r aAY aBC zV aAV) (hKn : ∀ (x1 : Int32) (x2 : Int32) (x3 : Int32) (x4 : Int32) (x5 : Int32) (oY : Int32) (rD : Nat → Int32) (qB : Int32) (jK : Nat → Int32), (0 ≤ Int32.toInt x1 ∧ Int32.toInt x1 ≤ 65535) → (0 ≤ Int32.toInt x2 ∧ Int32.toInt x2 ≤ 65535) → (-1 ≤ Int32.toInt x3 ∧ Int32.toInt x3 ≤ 7) → (0 ≤ Int32.toInt x4 ∧ Int32.toInt x4 ≤ 63) → (0 ≤ Int32.toInt x5 ∧ Int32.toInt x5 ≤ 8) → (0 ≤ Int32.toInt oY ∧ Int32.toInt oY ≤ 65535) → (∀ k : Nat, 0 ≤ Int32.toInt (rD k) ∧ Int32.toInt (rD k) ≤ 65535) → (0 ≤ Int32.toInt qB ∧ Int32.toInt qB ≤ 16) → (8 - Int32.toInt x5 < n50) → next x1 x2 x3 x4 x5 oY rD qB jK) (x1 x2 x3 x4 x5 oY : Int32) (rD : Nat → Int32) (qB : Int32) (jK : Nat → Int32) (aBK : 0 ≤ Int32.toInt x1 ∧ Int32.toInt x1 ≤ 65535) (aBN : 0 ≤ Int32.toInt x2 ∧ Int32.toInt x2 ≤ 65535) (aCH : -1 ≤ Int32.toInt x3 ∧ Int32.toInt x3 ≤ 7) (aDO : 0 ≤ Int32.toInt x4 ∧ Int32.toInt x4 ≤ 63) (aF7 : 0 ≤ Int32.toInt x5 ∧ Int32.toInt x5 ≤ 8) (aAE : 0 ≤ Int32.toInt oY ∧ Int32.toInt oY ≤ 65535) (zR : ∀ k : Nat, 0 ≤ Int32.toInt (rD k) ∧ Int32.toInt (rD k) ≤ 65535) (aAK : 0 ≤ Int32.toInt qB ∧ Int32.toInt qB ≤ 16) (hn50 : 8 - Int32.toInt x5 ≤ n50) : ws_X9_hooked_50 post next dN bD uU gF qF mX oE dY jE eW eY gJ jG x1 x2 x3 x4 x5 oY rD qB jK := by
  have l0 := aE0
  have l1 := aEc
  have l2 := aKH
  have l3 := li_16
  have l4 := li_2
  have l5 := aJ8
  have l6 := li_63
  have l7 := aJ9
  refine And.intro (fun c3 => ?_) (fun c3 => ?_)
  · skip
    have c3 := (aAO _ _).mp c3
    refine And.intro (fun h9 => absurd h9 (by decide)) (fun _ => ?_)
    refine And.intro (aBZ (by omega)) ?_
    intro v4 ev4
    have f5 : Int32.toInt (0 + 1) = Int32.toInt (0 : Int32) + Int32.toInt (1 : Int32) := aAD _ _ (by omega)
    rw [← ev4] at f5
    refine And.intro (fun c6 => ?_) (fun c6 => ?_)
    · skip
      have c6 := (aAO _ _).mp c6
      exfalso; omega
    · skip
      have c6 := mt (aAO _ _).mpr c6
      refine And.intro (aBZ (by omega)) ?_
      intro v7 ev7
      have f8 : Int32.toInt (v4 + 1) = Int32.toInt v4 + Int32.toInt (1 : Int32) := aAD _ _ (by omega)
      rw [← ev7] at f8
      exact hpost _ _ _ _ _ aBN aAE zR (by omega)
  · skip
    have c3 := mt (aAO _ _).mpr c3
    intro v9 ev9
    have hv9 := congrArg Int32.toInt ev9
    intro v11 ev11
    have hv11 := congrArg Int32.toInt ev11
    refine t_X3_within (by omega) xL (fun r13 h_r13 => ?_)
    intro v14 ev14
    have f15 := aAQ x1 r13 (by omega)
    have f16 := aBx x1 r13 (by omega)
    have hv14 := congrArg Int32.toInt ev14
    intro v17 ev17
    have f18 := ti_or 16 65536 x2 v14 (by decide) (by omega) (by omega)
    have hv17 := congrArg Int32.toInt ev17
    intro v19 ev19
    intro v20 ev20
    have f22 := aAQ v19 1431655765 (by omega)
    have f21 : Int32.toInt (v14 - (v19 &&& 1431655765)) = Int32.toInt v14 - Int32.toInt (v19 &&& 1431655765) := aCA _ _ (by omega)
    rw [← ev20] at f21
    intro v23 ev23
    have f24 := aAQ v20 858993459 (by omega)
    have hv23 := congrArg Int32.toInt ev23
    intro v25 ev25
    intro v26 ev26
    have f28 := aAQ v25 858993459 (by omega)
    have f27 : Int32.toInt (v23 + (v25 &&& 858993459)) = Int32.toInt v23 + Int32.toInt (v25 &&& 858993459) := aAD _ _ (by omega)
    rw [← ev26] at f27
    intro v29 ev29
    have hv29 := congrArg Int32.toInt ev29
    intro v31 ev31
    have f32 := aAQ v29 252645135 (by omega)
    have hv31 := congrArg Int32.toInt ev31
    intro v33 ev33
    have hv33 := congrArg Int32.toInt ev33
    intro v35 ev35
    have hv35 := congrArg Int32.toInt ev35
    have f38 := aAQ v35 63 (by omega)
    refine And.intro (fun c37 => ?_) (fun c37 => ?_)
    · skip
      have c37 := (aAO _ _).mp c37
      exact ts_X9_hooked_115 dN bD uU gF qF mX oE dY jE eW eY gJ jG xL wX zK hpost hKn x1 v17 x3 x4 x5 oY rD qB jK aBK (by omega) aCH aDO (by omega) aAE zR aAK hn50
    · skip
      have c37 := mt (aAO _ _).mpr c37
      intro v39 ev39
      intro v40 ev40
      have f42 := aAQ v39 1431655765 (by omega)
      have f41 : Int32.toInt (v14 - (v39 &&& 1431655765)) = Int32.toInt v14 - Int32.toInt (v39 &&& 1431655765) := aCA _ _ (by omega)
      rw [← ev40] at f41
      intro v43 ev43
      have f44 := aAQ v40 858993459 (by omega)
      have hv43 := congrArg Int32.toInt ev43
      intro v45 ev45
      intro v46 ev46
      have f48 := aAQ v45 858993459 (by omega)
      have f47 : Int32.toInt (v43 + (v45 &&& 858993459)) = Int32.toInt v43 + Int32.toInt (v45 &&& 858993459) := aAD _ _ (by omega)
      rw [← ev46] at f47
      intro v49 ev49
      have hv49 := congrArg Int32.toInt ev49
      intro v51 ev51
      have f52 := aAQ v49 252645135 (by omega)
      have hv51 := congrArg Int32.toInt ev51
      intro v53 ev53
      have hv53 := congrArg Int32.toInt ev53
      intro v55 ev55
      have hv55 := congrArg Int32.toInt ev55
      have f57 := aAQ v55 63 (by omega)
      exact ts_X9_hooked_115 dN bD uU gF qF mX oE dY jE eW eY gJ jG xL wX zK hpost hKn x1 v17 x5 (v55 &&& 63) x5 oY rD qB jK aBK (by omega) (by omega) (by omega) (by omega) aAE zR aAK hn50
set_option maxHeartbeats 8000000 in
set_option maxRecDepth 200000 in
theorem tb_X9_hooked_50 {post : Int32 → Int32 → (Nat → Int32) → Int32 → (Nat → Int32) → Prop} (dN bD : Int32) (uU gF qF mX oE dY : Nat → Int32) (jE eW eY gJ jG : Int32) (xL : 0 ≤ Int32.toInt dN ∧ Int32.toInt dN ≤ 16) (wX : 0 ≤ Int32.toInt bD ∧ Int32.toInt bD ≤ 8) (zK : 0 ≤ Int32.toInt jG ∧ Int32.toInt jG ≤ 9) (hpost : ∀ (r : Int32) (aAY : Int32) (aBC : Nat → Int32) (zV : Int32) (aAV : Nat → Int32), (0 ≤ Int32.toInt r ∧ Int32.toInt r ≤ 65535) → (0 ≤ Int32.toInt aAY ∧ Int32.toInt aAY ≤ 65535) → (∀ k : Nat, 0 ≤ Int32.toInt (aBC k) ∧ Int32.toInt (aBC k) ≤ 65535) → (2 ≤ Int32.toInt zV ∧ Int32.toInt zV ≤ 2) → post r aAY aBC zV aAV) : ∀ (n : Nat) (x1 x2 x3 x4 x5 oY : Int32) (rD : Nat → Int32) (qB : Int32) (jK : Nat → Int32), (0 ≤ Int32.toInt x1 ∧ Int32.toInt x1 ≤ 65535) → (0 ≤ Int32.toInt x2 ∧ Int32.toInt x2 ≤ 65535) → (-1 ≤ Int32.toInt x3 ∧ Int32.toInt x3 ≤ 7) → (0 ≤ Int32.toInt x4 ∧ Int32.toInt x4 ≤ 63) → (0 ≤ Int32.toInt x5 ∧ Int32.toInt x5 ≤ 8) → (0 ≤ Int32.toInt oY ∧ Int32.toInt oY ≤ 65535) → (∀ k : Nat, 0 ≤ Int32.toInt (rD k) ∧ Int32.toInt (rD k) ≤ 65535) → (0 ≤ Int32.toInt qB ∧ Int32.toInt qB ≤ 16) → (8 - Int32.toInt x5 < (n : Int)) → wb_X9_hooked_50 post dN bD uU gF qF mX oE dY jE eW eY gJ jG n x1 x2 x3 x4 x5 oY rD qB jK := by
  intro n
  induction n with
  | zero =>
    intro x1 x2 x3 x4 x5 oY rD qB jK aBK aBN aCH aDO aF7 aAE zR aAK hm
    exfalso; omega
  | succ n ih =>
    intro x1 x2 x3 x4 x5 oY rD qB jK aBK aBN aCH aDO aF7 aAE zR aAK hm
    exact ts_X9_hooked_50 dN bD uU gF qF mX oE dY jE eW eY gJ jG xL wX zK hpost ih x1 x2 x3 x4 x5 oY rD qB jK aBK aBN aCH aDO aF7 aAE zR aAK (by omega)
set_option maxHeartbeats 8000000 in
set_option maxRecDepth 200000 in
theorem t_X9_hooked {post : Int32 → Int32 → (Nat → Int32) → Int32 → (Nat → Int32) → Prop} {oY : Int32} {rD : Nat → Int32} {dN bD : Int32} {uU gF qF mX oE dY : Nat → Int32} {jE eW eY gJ jG qB : Int32} {jK : Nat → Int32} (aAE : 0 ≤ Int32.toInt oY ∧ Int32.toInt oY ≤ 65535) (zR : ∀ k : Nat, 0 ≤ Int32.toInt (rD k) ∧ Int32.toInt (rD k) ≤ 65535) (xL : 0 ≤ Int32.toInt dN ∧ Int32.toInt dN ≤ 16) (wX : 0 ≤ Int32.toInt bD ∧ Int32.toInt bD ≤ 8) (zK : 0 ≤ Int32.toInt jG ∧ Int32.toInt jG ≤ 9) (aAK : 0 ≤ Int32.toInt qB ∧ Int32.toInt qB ≤ 16) (hpost : ∀ (r : Int32) (aAY : Int32) (aBC : Nat → Int32) (zV : Int32) (aAV : Nat → Int32), (0 ≤ Int32.toInt r ∧ Int32.toInt r ≤ 65535) → (0 ≤ Int32.toInt aAY ∧ Int32.toInt aAY ≤ 65535) → (∀ k : Nat, 0 ≤ Int32.toInt (aBC k) ∧ Int32.toInt (aBC k) ≤ 65535) → (2 ≤ Int32.toInt zV ∧ Int32.toInt zV ≤ 2) → post r aAY aBC zV aAV) : wp_X9_hooked post oY rD dN bD uU gF qF mX oE dY jE eW eY gJ jG qB jK := by
  have l0 := aI2
  have l1 := aE0
  have l2 := aEc
  refine aVe zK aAE zR xL wX (fun pl_wanted_58 pl_near_59 h_pl_wanted_58 h_pl_near_59 => ?_)
  intro v60 ev60
  have f61 := aDv 16 65536 dN (by decide) (by omega)
  have hv60 := congrArg Int32.toInt ev60
  intro v62 ev62
  intro v63 ev63
  refine t_X3_ripeBy zK xL (fun r64 h_r64 => ?_)
  intro v65 ev65
  have f66 := aAQ ((v60 - 1) &&& (v63 ^^^ (-1))) r64 (by omega)
  have f68 : Int32.toInt (v60 - 1) = Int32.toInt v60 - Int32.toInt (1 : Int32) := aCA _ _ (by omega)
  have f69 := aBx (v60 - 1) (v63 ^^^ (-1)) (by omega)
  have f70 := aBx ((v60 - 1) &&& (v63 ^^^ (-1))) r64 (by omega)
  have hv65 := congrArg Int32.toInt ev65
  intro v71 ev71
  have f73 := aBx v65 (pl_wanted_58 ^^^ (-1)) (by omega)
  have hv71 := congrArg Int32.toInt ev71
  exact ⟨10, tb_X9_hooked_50 dN bD uU gF qF mX oE dY jE eW eY gJ jG xL wX zK hpost _ v71 0 (-1) 0 0 pl_wanted_58 pl_near_59 qB jK (by omega) (by omega) (by omega) (by omega) (by omega) h_pl_wanted_58 h_pl_near_59 aAK (by omega)⟩
