set_option maxHeartbeats 8000000 in
set_option maxRecDepth 200000 in
theorem ts_X9_birds_92 {post : Int32 → Int32 → (Nat → Int32) → Int32 → (Nat → Int32) → Prop} {K33 : Int32 → Int32 → Int32 → Int32 → Int32 → (Nat → Int32) → Int32 → (Nat → Int32) → Prop} {n33 : Int} (dN bD : Int32) (uU gF pL qF mX oE dY : Nat → Int32) (jE eW eY dU gJ jG : Int32) (xL : 0 ≤ Int32.toInt dN ∧ Int32.toInt dN ≤ 16) (wX : 0 ≤ Int32.toInt bD ∧ Int32.toInt bD ≤ 8) (zK : 0 ≤ Int32.toInt jG ∧ Int32.toInt jG ≤ 9) (hpost : ∀ (r : Int32) (aAY : Int32) (aBC : Nat → Int32) (zV : Int32) (aAV : Nat → Int32), (0 ≤ Int32.toInt aAY ∧ Int32.toInt aAY ≤ 65535) → (∀ k : Nat, 0 ≤ Int32.toInt (aBC k) ∧ Int32.toInt (aBC k) ≤ 65535) → (0 ≤ Int32.toInt zV ∧ Int32.toInt zV ≤ 16) → post r aAY aBC zV aAV) (hK33 : ∀ (x1 : Int32) (x2 : Int32) (x3 : Int32) (x4 : Int32) (oY : Int32) (rD : Nat → Int32) (qB : Int32) (jK : Nat → Int32), (0 ≤ Int32.toInt x1 ∧ Int32.toInt x1 ≤ 8) → (0 ≤ Int32.toInt x2 ∧ Int32.toInt x2 ≤ 255) → (1 ≤ Int32.toInt x4 ∧ Int32.toInt x4 ≤ 256) → (0 ≤ Int32.toInt oY ∧ Int32.toInt oY ≤ 65535) → (∀ k : Nat, 0 ≤ Int32.toInt (rD k) ∧ Int32.toInt (rD k) ≤ 65535) → (0 ≤ Int32.toInt qB ∧ Int32.toInt qB ≤ 16) → (256 - Int32.toInt x4 < n33) → K33 x1 x2 x3 x4 oY rD qB jK) (x1 x2 x3 x4 oY : Int32) (rD : Nat → Int32) (qB : Int32) (jK : Nat → Int32) (aBK : 0 ≤ Int32.toInt x1 ∧ Int32.toInt x1 ≤ 8) (aBN : 0 ≤ Int32.toInt x2 ∧ Int32.toInt x2 ≤ 255) (aDO : 1 ≤ Int32.toInt x4 ∧ Int32.toInt x4 ≤ 255) (aAE : 0 ≤ Int32.toInt oY ∧ Int32.toInt oY ≤ 65535) (zR : ∀ k : Nat, 0 ≤ Int32.toInt (rD k) ∧ Int32.toInt (rD k) ≤ 65535) (aAK : 0 ≤ Int32.toInt qB ∧ Int32.toInt qB ≤ 16) (hn33 : 256 - Int32.toInt x4 ≤ n33) : ws_X9_birds_92 post K33 dN bD uU gF pL qF mX oE dY jE eW eY dU gJ jG x1 x2 x3 x4 oY rD qB jK := by
  have l0 := aEc
  intro v1 ev1
  have f2 : Int32.toInt (x4 + 1) = Int32.toInt x4 + Int32.toInt (1 : Int32) := aAD _ _ (by omega)
  rw [← ev1] at f2
  have f3 := aAT x3
  exact hK33 x1 x2 x3 v1 oY rD qB jK aBK aBN (by omega) aAE zR aAK (by omega)
set_option maxHeartbeats 8000000 in
set_option maxRecDepth 200000 in
theorem ts_X9_birds_86 {post : Int32 → Int32 → (Nat → Int32) → Int32 → (Nat → Int32) → Prop} {K33 : Int32 → Int32 → Int32 → Int32 → Int32 → (Nat → Int32) → Int32 → (Nat → Int32) → Prop} {n33 : Int} (dN bD : Int32) (uU gF pL qF mX oE dY : Nat → Int32) (jE eW eY dU gJ jG : Int32) (xL : 0 ≤ Int32.toInt dN ∧ Int32.toInt dN ≤ 16) (wX : 0 ≤ Int32.toInt bD ∧ Int32.toInt bD ≤ 8) (zK : 0 ≤ Int32.toInt jG ∧ Int32.toInt jG ≤ 9) (hpost : ∀ (r : Int32) (aAY : Int32) (aBC : Nat → Int32) (zV : Int32) (aAV : Nat → Int32), (0 ≤ Int32.toInt aAY ∧ Int32.toInt aAY ≤ 65535) → (∀ k : Nat, 0 ≤ Int32.toInt (aBC k) ∧ Int32.toInt (aBC k) ≤ 65535) → (0 ≤ Int32.toInt zV ∧ Int32.toInt zV ≤ 16) → post r aAY aBC zV aAV) (hK33 : ∀ (x1 : Int32) (x2 : Int32) (x3 : Int32) (x4 : Int32) (oY : Int32) (rD : Nat → Int32) (qB : Int32) (jK : Nat → Int32), (0 ≤ Int32.toInt x1 ∧ Int32.toInt x1 ≤ 8) → (0 ≤ Int32.toInt x2 ∧ Int32.toInt x2 ≤ 255) → (1 ≤ Int32.toInt x4 ∧ Int32.toInt x4 ≤ 256) → (0 ≤ Int32.toInt oY ∧ Int32.toInt oY ≤ 65535) → (∀ k : Nat, 0 ≤ Int32.toInt (rD k) ∧ Int32.toInt (rD k) ≤ 65535) → (0 ≤ Int32.toInt qB ∧ Int32.toInt qB ≤ 16) → (256 - Int32.toInt x4 < n33) → K33 x1 x2 x3 x4 oY rD qB jK) (x1 x4 x5 oY : Int32) (rD : Nat → Int32) (qB : Int32) (jK : Nat → Int32) (aBK : 0 ≤ Int32.toInt x1 ∧ Int32.toInt x1 ≤ 8) (aDO : 1 ≤ Int32.toInt x4 ∧ Int32.toInt x4 ≤ 255) (aAE : 0 ≤ Int32.toInt oY ∧ Int32.toInt oY ≤ 65535) (zR : ∀ k : Nat, 0 ≤ Int32.toInt (rD k) ∧ Int32.toInt (rD k) ≤ 65535) (aAK : 0 ≤ Int32.toInt qB ∧ Int32.toInt qB ≤ 16) (hn33 : 256 - Int32.toInt x4 ≤ n33) : ws_X9_birds_86 post K33 dN bD uU gF pL qF mX oE dY jE eW eY dU gJ jG x1 x4 x5 oY rD qB jK := by
  have f4 := aAT x5
  exact ts_X9_birds_92 dN bD uU gF pL qF mX oE dY jE eW eY dU gJ jG xL wX zK hpost hK33 x1 x4 x5 x4 oY rD qB jK aBK (by omega) aDO aAE zR aAK hn33
set_option maxHeartbeats 8000000 in
set_option maxRecDepth 200000 in
theorem ts_X9_birds_33 {post : Int32 → Int32 → (Nat → Int32) → Int32 → (Nat → Int32) → Prop} {next : Int32 → Int32 → Int32 → Int32 → Int32 → (Nat → Int32) → Int32 → (Nat → Int32) → Prop} {n33 : Int} (dN bD : Int32) (uU gF pL qF mX oE dY : Nat → Int32) (jE eW eY dU gJ jG : Int32) (xL : 0 ≤ Int32.toInt dN ∧ Int32.toInt dN ≤ 16) (wX : 0 ≤ Int32.toInt bD ∧ Int32.toInt bD ≤ 8) (zK : 0 ≤ Int32.toInt jG ∧ Int32.toInt jG ≤ 9) (hpost : ∀ (r : Int32) (aAY : Int32) (aBC : Nat → Int32) (zV : Int32) (aAV : Nat → Int32), (0 ≤ Int32.toInt aAY ∧ Int32.toInt aAY ≤ 65535) → (∀ k : Nat, 0 ≤ Int32.toInt (aBC k) ∧ Int32.toInt (aBC k) ≤ 65535) → (0 ≤ Int32.toInt zV ∧ Int32.toInt zV ≤ 16) → post r aAY aBC zV aAV) (hKn : ∀ (x1 : Int32) (x2 : Int32) (x3 : Int32) (x4 : Int32) (oY : Int32) (rD : Nat → Int32) (qB : Int32) (jK : Nat → Int32), (0 ≤ Int32.toInt x1 ∧ Int32.toInt x1 ≤ 8) → (0 ≤ Int32.toInt x2 ∧ Int32.toInt x2 ≤ 255) → (1 ≤ Int32.toInt x4 ∧ Int32.toInt x4 ≤ 256) → (0 ≤ Int32.toInt oY ∧ Int32.toInt oY ≤ 65535) → (∀ k : Nat, 0 ≤ Int32.toInt (rD k) ∧ Int32.toInt (rD k) ≤ 65535) → (0 ≤ Int32.toInt qB ∧ Int32.toInt qB ≤ 16) → (256 - Int32.toInt x4 < n33) → next x1 x2 x3 x4 oY rD qB jK) (x1 x2 x3 x4 oY : Int32) (rD : Nat → Int32) (qB : Int32) (jK : Nat → Int32) (aBK : 0 ≤ Int32.toInt x1 ∧ Int32.toInt x1 ≤ 8) (aBN : 0 ≤ Int32.toInt x2 ∧ Int32.toInt x2 ≤ 255) (aDO : 1 ≤ Int32.toInt x4 ∧ Int32.toInt x4 ≤ 256) (aAE : 0 ≤ Int32.toInt oY ∧ Int32.toInt oY ≤ 65535) (zR : ∀ k : Nat, 0 ≤ Int32.toInt (rD k) ∧ Int32.toInt (rD k) ≤ 65535) (aAK : 0 ≤ Int32.toInt qB ∧ Int32.toInt qB ≤ 16) (hn33 : 256 - Int32.toInt x4 ≤ n33) : ws_X9_birds_33 post next dN bD uU gF pL qF mX oE dY jE eW eY dU gJ jG x1 x2 x3 x4 oY rD qB jK := by
  have l0 := aE0
  have l1 := aEc
  have l2 := aKH
  have l3 := li_16
  have l4 := aJ8
  have l5 := li_63
  have l6 := aJ9
  intro v5 ev5
  have f6 := aDv 8 256 bD (by decide) (by omega)
  have hv5 := congrArg Int32.toInt ev5
  have f8 : Int32.toInt (v5 - 1) = Int32.toInt v5 - Int32.toInt (1 : Int32) := aCA _ _ (by omega)
  refine And.intro (fun c7 => ?_) (fun c7 => ?_)
  · skip
    have c7 := (aAd _ _).mp c7
    refine aUy aBN zR wX (fun r9 h_r9 => ?_)
    intro v10 ev10
    have f12 := aBx oY (r9 ^^^ (-1)) (by omega)
    have hv10 := congrArg Int32.toInt ev10
    refine And.intro (fun h9 => absurd h9 (by decide)) (fun _ => ?_)
    refine And.intro (aBZ (by omega)) ?_
    intro v13 ev13
    have f14 : Int32.toInt (0 + 1) = Int32.toInt (0 : Int32) + Int32.toInt (1 : Int32) := aAD _ _ (by omega)
    rw [← ev13] at f14
    refine And.intro (fun c15 => ?_) (fun c15 => ?_)
    · skip
      have c15 := (aAO _ _).mp c15
      exfalso; omega
    · skip
      have c15 := mt (aAO _ _).mpr c15
      refine And.intro (aBZ (by omega)) ?_
      intro v16 ev16
      have f17 : Int32.toInt (v13 + 1) = Int32.toInt v13 + Int32.toInt (1 : Int32) := aAD _ _ (by omega)
      rw [← ev16] at f17
      exact hpost _ _ _ _ _ aAE zR (by omega)
  · skip
    have c7 := mt (aAd _ _).mpr c7
    intro v18 ev18
    intro v19 ev19
    have f21 := aAQ v18 1431655765 (by omega)
    have f20 : Int32.toInt (x4 - (v18 &&& 1431655765)) = Int32.toInt x4 - Int32.toInt (v18 &&& 1431655765) := aCA _ _ (by omega)
    rw [← ev19] at f20
    intro v22 ev22
    have f23 := aAQ v19 858993459 (by omega)
    have hv22 := congrArg Int32.toInt ev22
    intro v24 ev24
    intro v25 ev25
    have f27 := aAQ v24 858993459 (by omega)
    have f26 : Int32.toInt (v22 + (v24 &&& 858993459)) = Int32.toInt v22 + Int32.toInt (v24 &&& 858993459) := aAD _ _ (by omega)
    rw [← ev25] at f26
    intro v28 ev28
    have hv28 := congrArg Int32.toInt ev28
    intro v30 ev30
    have f31 := aAQ v28 252645135 (by omega)
    have hv30 := congrArg Int32.toInt ev30
    intro v32 ev32
    have hv32 := congrArg Int32.toInt ev32
    intro v34 ev34
    have hv34 := congrArg Int32.toInt ev34
    have f37 := aAQ v34 63 (by omega)
    refine And.intro (fun c36 => ?_) (fun c36 => ?_)
    · skip
      have c36 := (aAd _ _).mp c36
      have f38 := aAT x3
      exact ts_X9_birds_92 dN bD uU gF pL qF mX oE dY jE eW eY dU gJ jG xL wX zK hpost hKn x1 x2 x3 x4 oY rD qB jK aBK aBN (by omega) aAE zR aAK hn33
    · skip
      have c36 := mt (aAd _ _).mpr c36
      refine aUy (by omega) zR wX (fun r39 h_r39 => ?_)
      intro v40 ev40
      have f42 := aBx oY (r39 ^^^ (-1)) (by omega)
      have hv40 := congrArg Int32.toInt ev40
      refine aUx xL (fun r43 => ?_)
      have f45 := aAT r43
      have f46 := aAT x3
      refine And.intro (fun c44 => ?_) (fun c44 => ?_)
      · skip
        have c44 := (aAd _ _).mp c44
        exact ts_X9_birds_86 dN bD uU gF pL qF mX oE dY jE eW eY dU gJ jG xL wX zK hpost hKn x1 x4 r43 oY rD qB jK aBK (by omega) aAE zR aAK hn33
      · skip
        have c44 := mt (aAd _ _).mpr c44
        refine And.intro (fun c47 => ?_) (fun c47 => ?_)
        · skip
          have c47 := mt (zJ _ _).mpr c47
          exact ts_X9_birds_92 dN bD uU gF pL qF mX oE dY jE eW eY dU gJ jG xL wX zK hpost hKn x1 x2 x3 x4 oY rD qB jK aBK aBN (by omega) aAE zR aAK hn33
        · skip
          have c47 := (zJ _ _).mp c47
          refine t_X9_isFewer (by omega) aBN (fun r48 h_r48 => ?_)
          refine And.intro (fun c49 => ?_) (fun c49 => ?_)
          · skip
            have c49 := (zJ _ _).mp c49
            exact ts_X9_birds_92 dN bD uU gF pL qF mX oE dY jE eW eY dU gJ jG xL wX zK hpost hKn x1 x2 x3 x4 oY rD qB jK aBK aBN (by omega) aAE zR aAK hn33
          · skip
            have c49 := mt (zJ _ _).mpr c49
            exact ts_X9_birds_86 dN bD uU gF pL qF mX oE dY jE eW eY dU gJ jG xL wX zK hpost hKn x1 x4 r43 oY rD qB jK aBK (by omega) aAE zR aAK hn33
set_option maxHeartbeats 8000000 in
set_option maxRecDepth 200000 in
theorem tb_X9_birds_33 {post : Int32 → Int32 → (Nat → Int32) → Int32 → (Nat → Int32) → Prop} (dN bD : Int32) (uU gF pL qF mX oE dY : Nat → Int32) (jE eW eY dU gJ jG : Int32) (xL : 0 ≤ Int32.toInt dN ∧ Int32.toInt dN ≤ 16) (wX : 0 ≤ Int32.toInt bD ∧ Int32.toInt bD ≤ 8) (zK : 0 ≤ Int32.toInt jG ∧ Int32.toInt jG ≤ 9) (hpost : ∀ (r : Int32) (aAY : Int32) (aBC : Nat → Int32) (zV : Int32) (aAV : Nat → Int32), (0 ≤ Int32.toInt aAY ∧ Int32.toInt aAY ≤ 65535) → (∀ k : Nat, 0 ≤ Int32.toInt (aBC k) ∧ Int32.toInt (aBC k) ≤ 65535) → (0 ≤ Int32.toInt zV ∧ Int32.toInt zV ≤ 16) → post r aAY aBC zV aAV) : ∀ (n : Nat) (x1 x2 x3 x4 oY : Int32) (rD : Nat → Int32) (qB : Int32) (jK : Nat → Int32), (0 ≤ Int32.toInt x1 ∧ Int32.toInt x1 ≤ 8) → (0 ≤ Int32.toInt x2 ∧ Int32.toInt x2 ≤ 255) → (1 ≤ Int32.toInt x4 ∧ Int32.toInt x4 ≤ 256) → (0 ≤ Int32.toInt oY ∧ Int32.toInt oY ≤ 65535) → (∀ k : Nat, 0 ≤ Int32.toInt (rD k) ∧ Int32.toInt (rD k) ≤ 65535) → (0 ≤ Int32.toInt qB ∧ Int32.toInt qB ≤ 16) → (256 - Int32.toInt x4 < (n : Int)) → wb_X9_birds_33 post dN bD uU gF pL qF mX oE dY jE eW eY dU gJ jG n x1 x2 x3 x4 oY rD qB jK := by
  intro n
  induction n with
  | zero =>
    intro x1 x2 x3 x4 oY rD qB jK aBK aBN aDO aAE zR aAK hm
    exfalso; omega
  | succ n ih =>
    intro x1 x2 x3 x4 oY rD qB jK aBK aBN aDO aAE zR aAK hm
    exact ts_X9_birds_33 dN bD uU gF pL qF mX oE dY jE eW eY dU gJ jG xL wX zK hpost ih x1 x2 x3 x4 oY rD qB jK aBK aBN aDO aAE zR aAK (by omega)
set_option maxHeartbeats 8000000 in
set_option maxRecDepth 200000 in
theorem t_X9_birds {post : Int32 → Int32 → (Nat → Int32) → Int32 → (Nat → Int32) → Prop} {p0 oY : Int32} {rD : Nat → Int32} {dN bD : Int32} {uU gF pL qF mX oE dY : Nat → Int32} {jE eW eY dU gJ jG qB : Int32} {jK : Nat → Int32} (aAE : 0 ≤ Int32.toInt oY ∧ Int32.toInt oY ≤ 65535) (zR : ∀ k : Nat, 0 ≤ Int32.toInt (rD k) ∧ Int32.toInt (rD k) ≤ 65535) (xL : 0 ≤ Int32.toInt dN ∧ Int32.toInt dN ≤ 16) (wX : 0 ≤ Int32.toInt bD ∧ Int32.toInt bD ≤ 8) (zK : 0 ≤ Int32.toInt jG ∧ Int32.toInt jG ≤ 9) (aAK : 0 ≤ Int32.toInt qB ∧ Int32.toInt qB ≤ 16) (hpost : ∀ (r : Int32) (aAY : Int32) (aBC : Nat → Int32) (zV : Int32) (aAV : Nat → Int32), (0 ≤ Int32.toInt aAY ∧ Int32.toInt aAY ≤ 65535) → (∀ k : Nat, 0 ≤ Int32.toInt (aBC k) ∧ Int32.toInt (aBC k) ≤ 65535) → (0 ≤ Int32.toInt zV ∧ Int32.toInt zV ≤ 16) → post r aAY aBC zV aAV) : wp_X9_birds post p0 oY rD dN bD uU gF pL qF mX oE dY jE eW eY dU gJ jG qB jK := by
  have l0 := aE0
  have l1 := aEc
  have l2 := li_8
  have f51 := aAT p0
  refine And.intro (fun c50 => ?_) (fun c50 => ?_)
  · skip
    have c50 := (aAd _ _).mp c50
    exact hpost _ _ _ _ _ aAE zR aAK
  · skip
    have c50 := mt (aAd _ _).mpr c50
    refine And.intro (fun c52 => ?_) (fun c52 => ?_)
    · skip
      have c52 := (aAO _ _).mp c52
      refine aVe zK aAE zR xL wX (fun pl_wanted_53 pl_near_54 h_pl_wanted_53 h_pl_near_54 => ?_)
      refine aUy (by omega) h_pl_near_54 wX (fun r55 h_r55 => ?_)
      intro v56 ev56
      have f58 := aBx pl_wanted_53 (r55 ^^^ (-1)) (by omega)
      have hv56 := congrArg Int32.toInt ev56
      refine aUx xL (fun r59 => ?_)
      have f60 := aAT r59
      exact ⟨257, tb_X9_birds_33 dN bD uU gF pL qF mX oE dY jE eW eY dU gJ jG xL wX zK hpost _ p0 0 r59 1 pl_wanted_53 pl_near_54 qB jK (by omega) (by omega) (by omega) h_pl_wanted_53 h_pl_near_54 aAK (by omega)⟩
    · skip
      have c52 := mt (aAO _ _).mpr c52
      exact hpost _ _ _ _ _ aAE zR aAK
set_option maxHeartbeats 8000000 in
set_option maxRecDepth 200000 in
theorem ts_X9_next_80 {post : Int32 → Int32 → (Nat → Int32) → Int32 → (Nat → Int32) → Prop} {K28 : Int32 → Int32 → Int32 → Int32 → Int32 → (Nat → Int32) → Int32 → (Nat → Int32) → Prop} {n28 : Int} (dN bD : Int32) (uU gF pL qF mX oE dY : Nat → Int32) (jE eW eY dU gJ jG : Int32) (xL : 0 ≤ Int32.toInt dN ∧ Int32.toInt dN ≤ 16) (wX : 0 ≤ Int32.toInt bD ∧ Int32.toInt bD ≤ 8) (zK : 0 ≤ Int32.toInt jG ∧ Int32.toInt jG ≤ 9) (hpost : ∀ (r : Int32) (aAY : Int32) (aBC : Nat → Int32) (zV : Int32) (aAV : Nat → Int32), (-2 ≤ Int32.toInt r ∧ Int32.toInt r ≤ 7) → (0 ≤ Int32.toInt aAY ∧ Int32.toInt aAY ≤ 65535) → (∀ k : Nat, 0 ≤ Int32.toInt (aBC k) ∧ Int32.toInt (aBC k) ≤ 65535) → (0 ≤ Int32.toInt zV ∧ Int32.toInt zV ≤ 16) → post r aAY aBC zV aAV) (hK28 : ∀ (x1 : Int32) (x2 : Int32) (x3 : Int32) (x4 : Int32) (oY : Int32) (rD : Nat → Int32) (qB : Int32) (jK : Nat → Int32), (0 ≤ Int32.toInt x1 ∧ Int32.toInt x1 ≤ 255) → (-2 ≤ Int32.toInt x2 ∧ Int32.toInt x2 ≤ 7) → (0 ≤ Int32.toInt x4 ∧ Int32.toInt x4 ≤ 8) → (0 ≤ Int32.toInt oY ∧ Int32.toInt oY ≤ 65535) → (∀ k : Nat, 0 ≤ Int32.toInt (rD k) ∧ Int32.toInt (rD k) ≤ 65535) → (0 ≤ Int32.toInt qB ∧ Int32.toInt qB ≤ 16) → (8 - Int32.toInt x4 < n28) → K28 x1 x2 x3 x4 oY rD qB jK) (x1 x2 x3 x4 oY : Int32) (rD : Nat → Int32) (qB : Int32) (jK : Nat → Int32) (aBK : 0 ≤ Int32.toInt x1 ∧ Int32.toInt x1 ≤ 255) (aBN : -2 ≤ Int32.toInt x2 ∧ Int32.toInt x2 ≤ 7) (aDO : 0 ≤ Int32.toInt x4 ∧ Int32.toInt x4 ≤ 7) (aAE : 0 ≤ Int32.toInt oY ∧ Int32.toInt oY ≤ 65535) (zR : ∀ k : Nat, 0 ≤ Int32.toInt (rD k) ∧ Int32.toInt (rD k) ≤ 65535) (aAK : 0 ≤ Int32.toInt qB ∧ Int32.toInt qB ≤ 16) (hn28 : 8 - Int32.toInt x4 ≤ n28) : ws_X9_next_80 post K28 dN bD uU gF pL qF mX oE dY jE eW eY dU gJ jG x1 x2 x3 x4 oY rD qB jK := by
  have l0 := aEc
  intro v1 ev1
  have f2 : Int32.toInt (x4 + 1) = Int32.toInt x4 + Int32.toInt (1 : Int32) := aAD _ _ (by omega)
  rw [← ev1] at f2
  have f3 := aAT x3
  exact hK28 x1 x2 x3 v1 oY rD qB jK aBK aBN (by omega) aAE zR aAK (by omega)
set_option maxHeartbeats 8000000 in
set_option maxRecDepth 200000 in
theorem ts_X9_next_74 {post : Int32 → Int32 → (Nat → Int32) → Int32 → (Nat → Int32) → Prop} {K28 : Int32 → Int32 → Int32 → Int32 → Int32 → (Nat → Int32) → Int32 → (Nat → Int32) → Prop} {n28 : Int} (dN bD : Int32) (uU gF pL qF mX oE dY : Nat → Int32) (jE eW eY dU gJ jG : Int32) (xL : 0 ≤ Int32.toInt dN ∧ Int32.toInt dN ≤ 16) (wX : 0 ≤ Int32.toInt bD ∧ Int32.toInt bD ≤ 8) (zK : 0 ≤ Int32.toInt jG ∧ Int32.toInt jG ≤ 9) (hpost : ∀ (r : Int32) (aAY : Int32) (aBC : Nat → Int32) (zV : Int32) (aAV : Nat → Int32), (-2 ≤ Int32.toInt r ∧ Int32.toInt r ≤ 7) → (0 ≤ Int32.toInt aAY ∧ Int32.toInt aAY ≤ 65535) → (∀ k : Nat, 0 ≤ Int32.toInt (aBC k) ∧ Int32.toInt (aBC k) ≤ 65535) → (0 ≤ Int32.toInt zV ∧ Int32.toInt zV ≤ 16) → post r aAY aBC zV aAV) (hK28 : ∀ (x1 : Int32) (x2 : Int32) (x3 : Int32) (x4 : Int32) (oY : Int32) (rD : Nat → Int32) (qB : Int32) (jK : Nat → Int32), (0 ≤ Int32.toInt x1 ∧ Int32.toInt x1 ≤ 255) → (-2 ≤ Int32.toInt x2 ∧ Int32.toInt x2 ≤ 7) → (0 ≤ Int32.toInt x4 ∧ Int32.toInt x4 ≤ 8) → (0 ≤ Int32.toInt oY ∧ Int32.toInt oY ≤ 65535) → (∀ k : Nat, 0 ≤ Int32.toInt (rD k) ∧ Int32.toInt (rD k) ≤ 65535) → (0 ≤ Int32.toInt qB ∧ Int32.toInt qB ≤ 16) → (8 - Int32.toInt x4 < n28) → K28 x1 x2 x3 x4 oY rD qB jK) (x1 x4 x5 oY : Int32) (rD : Nat → Int32) (qB : Int32) (jK : Nat → Int32) (aBK : 0 ≤ Int32.toInt x1 ∧ Int32.toInt x1 ≤ 255) (aDO : 0 ≤ Int32.toInt x4 ∧ Int32.toInt x4 ≤ 7) (aAE : 0 ≤ Int32.toInt oY ∧ Int32.toInt oY ≤ 65535) (zR : ∀ k : Nat, 0 ≤ Int32.toInt (rD k) ∧ Int32.toInt (rD k) ≤ 65535) (aAK : 0 ≤ Int32.toInt qB ∧ Int32.toInt qB ≤ 16) (hn28 : 8 - Int32.toInt x4 ≤ n28) : ws_X9_next_74 post K28 dN bD uU gF pL qF mX oE dY jE eW eY dU gJ jG x1 x4 x5 oY rD qB jK := by
  have f4 := aAT x5
  exact ts_X9_next_80 dN bD uU gF pL qF mX oE dY jE eW eY dU gJ jG xL wX zK hpost hK28 x1 x4 x5 x4 oY rD qB jK aBK (by omega) aDO aAE zR aAK hn28
set_option maxHeartbeats 8000000 in
set_option maxRecDepth 200000 in
theorem ts_X9_next_28 {post : Int32 → Int32 → (Nat → Int32) → Int32 → (Nat → Int32) → Prop} {next : Int32 → Int32 → Int32 → Int32 → Int32 → (Nat → Int32) → Int32 → (Nat → Int32) → Prop} {n28 : Int} (dN bD : Int32) (uU gF pL qF mX oE dY : Nat → Int32) (jE eW eY dU gJ jG : Int32) (xL : 0 ≤ Int32.toInt dN ∧ Int32.toInt dN ≤ 16) (wX : 0 ≤ Int32.toInt bD ∧ Int32.toInt bD ≤ 8) (zK : 0 ≤ Int32.toInt jG ∧ Int32.toInt jG ≤ 9) (hpost : ∀ (r : Int32) (aAY : Int32) (aBC : Nat → Int32) (zV : Int32) (aAV : Nat → Int32), (-2 ≤ Int32.toInt r ∧ Int32.toInt r ≤ 7) → (0 ≤ Int32.toInt aAY ∧ Int32.toInt aAY ≤ 65535) → (∀ k : Nat, 0 ≤ Int32.toInt (aBC k) ∧ Int32.toInt (aBC k) ≤ 65535) → (0 ≤ Int32.toInt zV ∧ Int32.toInt zV ≤ 16) → post r aAY aBC zV aAV) (hKn : ∀ (x1 : Int32) (x2 : Int32) (x3 : Int32) (x4 : Int32) (oY : Int32) (rD : Nat → Int32) (qB : Int32) (jK : Nat → Int32), (0 ≤ Int32.toInt x1 ∧ Int32.toInt x1 ≤ 255) → (-2 ≤ Int32.toInt x2 ∧ Int32.toInt x2 ≤ 7) → (0 ≤ Int32.toInt x4 ∧ Int32.toInt x4 ≤ 8) → (0 ≤ Int32.toInt oY ∧ Int32.toInt oY ≤ 65535) → (∀ k : Nat, 0 ≤ Int32.toInt (rD k) ∧ Int32.toInt (rD k) ≤ 65535) → (0 ≤ Int32.toInt qB ∧ Int32.toInt qB ≤ 16) → (8 - Int32.toInt x4 < n28) → next x1 x2 x3 x4 oY rD qB jK) (x1 x2 x3 x4 oY : Int32) (rD : Nat → Int32) (qB : Int32) (jK : Nat → Int32) (aBK : 0 ≤ Int32.toInt x1 ∧ Int32.toInt x1 ≤ 255) (aBN : -2 ≤ Int32.toInt x2 ∧ Int32.toInt x2 ≤ 7) (aDO : 0 ≤ Int32.toInt x4 ∧ Int32.toInt x4 ≤ 8) (aAE : 0 ≤ Int32.toInt oY ∧ Int32.toInt oY ≤ 65535) (zR : ∀ k : Nat, 0 ≤ Int32.toInt (rD k) ∧ Int32.toInt (rD k) ≤ 65535) (aAK : 0 ≤ Int32.toInt qB ∧ Int32.toInt qB ≤ 16) (hn28 : 8 - Int32.toInt x4 ≤ n28) : ws_X9_next_28 post next dN bD uU gF pL qF mX oE dY jE eW eY dU gJ jG x1 x2 x3 x4 oY rD qB jK := by
  have l0 := aE0
  have l1 := aEc
  have l2 := li_16
  refine And.intro (fun c5 => ?_) (fun c5 => ?_)
  · skip
    have c5 := (aAO _ _).mp c5
    refine And.intro (fun c6 => ?_) (fun c6 => ?_)
    · skip
      have c6 := (aAd _ _).mp c6
      exact hpost _ _ _ _ _ aBN aAE zR aAK
    · skip
      have c6 := mt (aAd _ _).mpr c6
      refine aUy aBK zR wX (fun r7 h_r7 => ?_)
      intro v8 ev8
      have f10 := aBx oY (r7 ^^^ (-1)) (by omega)
      have hv8 := congrArg Int32.toInt ev8
      refine aUx xL (fun r11 => ?_)
      refine And.intro (fun h9 => absurd h9 (by decide)) (fun _ => ?_)
      refine And.intro (aBZ (by omega)) ?_
      intro v12 ev12
      have f13 : Int32.toInt (0 + 1) = Int32.toInt (0 : Int32) + Int32.toInt (1 : Int32) := aAD _ _ (by omega)
      rw [← ev12] at f13
      refine And.intro (fun c14 => ?_) (fun c14 => ?_)
      · skip
        have c14 := (aAO _ _).mp c14
        exfalso; omega
      · skip
        have c14 := mt (aAO _ _).mpr c14
        refine And.intro (aBZ (by omega)) ?_
        intro v15 ev15
        have f16 : Int32.toInt (v12 + 1) = Int32.toInt v12 + Int32.toInt (1 : Int32) := aAD _ _ (by omega)
        rw [← ev15] at f16
        exact hpost _ _ _ _ _ aBN aAE zR (by omega)
  · skip
    have c5 := mt (aAO _ _).mpr c5
    intro v17 ev17
    have f18 := aRJ x1 x4 (by omega)
    have hv17 := congrArg Int32.toInt ev17
    have f20 := aAQ v17 1 (by omega)
    have f21 := aBx v17 1 (by omega)
    refine And.intro (fun c19 => ?_) (fun c19 => ?_)
    · skip
      have c19 := mt (zJ _ _).mpr c19
      have f22 := aAT x3
      exact ts_X9_next_80 dN bD uU gF pL qF mX oE dY jE eW eY dU gJ jG xL wX zK hpost hKn x1 x2 x3 x4 oY rD qB jK aBK aBN (by omega) aAE zR aAK hn28
    · skip
      have c19 := (zJ _ _).mp c19
      intro v23 ev23
      have f25 := aDv 7 128 x4 (by decide) (by omega)
      have f24 := ti_or 8 256 x1 (1 <<< (x4 &&& 31)) (by decide) (by omega) (by omega)
      have hv23 := congrArg Int32.toInt ev23
      refine aUy (by omega) zR wX (fun r26 h_r26 => ?_)
      intro v27 ev27
      have f29 := aBx oY (r26 ^^^ (-1)) (by omega)
      have hv27 := congrArg Int32.toInt ev27
      refine aUx xL (fun r30 => ?_)
      refine And.intro (fun c31 => ?_) (fun c31 => ?_)
      · skip
        have c31 := (aAd _ _).mp c31
        have f32 := aAT r30
        exact ts_X9_next_74 dN bD uU gF pL qF mX oE dY jE eW eY dU gJ jG xL wX zK hpost hKn x1 x4 r30 oY rD qB jK aBK (by omega) aAE zR aAK hn28
      · skip
        have c31 := mt (aAd _ _).mpr c31
        have f34 := aAT r30
        have f35 := aAT x3
        refine And.intro (fun c33 => ?_) (fun c33 => ?_)
        · skip
          have c33 := (aAO _ _).mp c33
          exact ts_X9_next_80 dN bD uU gF pL qF mX oE dY jE eW eY dU gJ jG xL wX zK hpost hKn x1 x2 x3 x4 oY rD qB jK aBK aBN (by omega) aAE zR aAK hn28
        · skip
          have c33 := mt (aAO _ _).mpr c33
          exact ts_X9_next_74 dN bD uU gF pL qF mX oE dY jE eW eY dU gJ jG xL wX zK hpost hKn x1 x4 r30 oY rD qB jK aBK (by omega) aAE zR aAK hn28
set_option maxHeartbeats 8000000 in
set_option maxRecDepth 200000 in
theorem tb_X9_next_28 {post : Int32 → Int32 → (Nat → Int32) → Int32 → (Nat → Int32) → Prop} (dN bD : Int32) (uU gF pL qF mX oE dY : Nat → Int32) (jE eW eY dU gJ jG : Int32) (xL : 0 ≤ Int32.toInt dN ∧ Int32.toInt dN ≤ 16) (wX : 0 ≤ Int32.toInt bD ∧ Int32.toInt bD ≤ 8) (zK : 0 ≤ Int32.toInt jG ∧ Int32.toInt jG ≤ 9) (hpost : ∀ (r : Int32) (aAY : Int32) (aBC : Nat → Int32) (zV : Int32) (aAV : Nat → Int32), (-2 ≤ Int32.toInt r ∧ Int32.toInt r ≤ 7) → (0 ≤ Int32.toInt aAY ∧ Int32.toInt aAY ≤ 65535) → (∀ k : Nat, 0 ≤ Int32.toInt (aBC k) ∧ Int32.toInt (aBC k) ≤ 65535) → (0 ≤ Int32.toInt zV ∧ Int32.toInt zV ≤ 16) → post r aAY aBC zV aAV) : ∀ (n : Nat) (x1 x2 x3 x4 oY : Int32) (rD : Nat → Int32) (qB : Int32) (jK : Nat → Int32), (0 ≤ Int32.toInt x1 ∧ Int32.toInt x1 ≤ 255) → (-2 ≤ Int32.toInt x2 ∧ Int32.toInt x2 ≤ 7) → (0 ≤ Int32.toInt x4 ∧ Int32.toInt x4 ≤ 8) → (0 ≤ Int32.toInt oY ∧ Int32.toInt oY ≤ 65535) → (∀ k : Nat, 0 ≤ Int32.toInt (rD k) ∧ Int32.toInt (rD k) ≤ 65535) → (0 ≤ Int32.toInt qB ∧ Int32.toInt qB ≤ 16) → (8 - Int32.toInt x4 < (n : Int)) → wb_X9_next_28 post dN bD uU gF pL qF mX oE dY jE eW eY dU gJ jG n x1 x2 x3 x4 oY rD qB jK := by
  intro n
  induction n with
  | zero =>
    intro x1 x2 x3 x4 oY rD qB jK aBK aBN aDO aAE zR aAK hm
    exfalso; omega
  | succ n ih =>
    intro x1 x2 x3 x4 oY rD qB jK aBK aBN aDO aAE zR aAK hm
    exact ts_X9_next_28 dN bD uU gF pL qF mX oE dY jE eW eY dU gJ jG xL wX zK hpost ih x1 x2 x3 x4 oY rD qB jK aBK aBN aDO aAE zR aAK (by omega)
set_option maxHeartbeats 8000000 in
set_option maxRecDepth 200000 in
theorem t_X9_next {post : Int32 → Int32 → (Nat → Int32) → Int32 → (Nat → Int32) → Prop} {p0 oY : Int32} {rD : Nat → Int32} {dN bD : Int32} {uU gF pL qF mX oE dY : Nat → Int32} {jE eW eY dU gJ jG qB : Int32} {jK : Nat → Int32} (aAE : 0 ≤ Int32.toInt oY ∧ Int32.toInt oY ≤ 65535) (zR : ∀ k : Nat, 0 ≤ Int32.toInt (rD k) ∧ Int32.toInt (rD k) ≤ 65535) (xL : 0 ≤ Int32.toInt dN ∧ Int32.toInt dN ≤ 16) (wX : 0 ≤ Int32.toInt bD ∧ Int32.toInt bD ≤ 8) (zK : 0 ≤ Int32.toInt jG ∧ Int32.toInt jG ≤ 9) (aAK : 0 ≤ Int32.toInt qB ∧ Int32.toInt qB ≤ 16) (hpost : ∀ (r : Int32) (aAY : Int32) (aBC : Nat → Int32) (zV : Int32) (aAV : Nat → Int32), (-2 ≤ Int32.toInt r ∧ Int32.toInt r ≤ 7) → (0 ≤ Int32.toInt aAY ∧ Int32.toInt aAY ≤ 65535) → (∀ k : Nat, 0 ≤ Int32.toInt (aBC k) ∧ Int32.toInt (aBC k) ≤ 65535) → (0 ≤ Int32.toInt zV ∧ Int32.toInt zV ≤ 16) → post r aAY aBC zV aAV) : wp_X9_next post p0 oY rD dN bD uU gF pL qF mX oE dY jE eW eY dU gJ jG qB jK := by
  have l0 := aI2
  have l1 := li_m2
  have l2 := aE0
  have l3 := aEc
  intro v36 ev36
  have f37 := aDv 8 256 bD (by decide) (by omega)
  have hv36 := congrArg Int32.toInt ev36
  refine And.intro (fun c38 => ?_) (fun c38 => ?_)
  · skip
    have c38 := mt (zJ _ _).mpr c38
    refine And.intro (fun h9 => absurd h9 (by decide)) (fun _ => ?_)
    exact hpost _ _ _ _ _ (by omega) aAE zR aAK
  · skip
    have c38Z := c38
    have c38 := (zJ _ _).mp c38
    have f40 : Int32.toInt (v36 - 1) = Int32.toInt v36 - Int32.toInt (1 : Int32) := aCA _ _ (by omega)
    have s41 := ti_subset p0 (v36 - 1) (c38Z) (by omega)
    refine And.intro (fun _ => ?_) (fun h9 => absurd h9 (by decide))
    refine aVe zK aAE zR xL wX (fun pl_wanted_42 pl_near_43 h_pl_wanted_42 h_pl_near_43 => ?_)
    exact ⟨10, tb_X9_next_28 dN bD uU gF pL qF mX oE dY jE eW eY dU gJ jG xL wX zK hpost _ p0 (-2) 0 0 pl_wanted_42 pl_near_43 qB jK (by omega) (by omega) (by omega) h_pl_wanted_42 h_pl_near_43 aAK (by omega)⟩
