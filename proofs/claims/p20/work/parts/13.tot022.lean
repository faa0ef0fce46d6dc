set_option maxHeartbeats 8000000 in
set_option maxRecDepth 200000 in
theorem ts_X5_loadOf_32 {post : Int32 → Prop} {K4 : Int32 → Int32 → Int32 → Prop} {n4 : Int} (vX : Nat → Int32) (bD : Int32) (wX : 0 ≤ Int32.toInt bD ∧ Int32.toInt bD ≤ 8) (hpost : ∀ (r : Int32) , post r) (hK4 : ∀ (x1 : Int32) (x2 : Int32) (x3 : Int32), (0 ≤ Int32.toInt x1 ∧ Int32.toInt x1 ≤ 255) → (0 ≤ Int32.toInt x3 ∧ Int32.toInt x3 ≤ 8) → (8 - Int32.toInt x3 < n4) → K4 x1 x2 x3) (x1 x2 x3 : Int32) (aBK : 0 ≤ Int32.toInt x1 ∧ Int32.toInt x1 ≤ 255) (aCH : 0 ≤ Int32.toInt x3 ∧ Int32.toInt x3 ≤ 7) (hn4 : 8 - Int32.toInt x3 ≤ n4) : ws_X5_loadOf_32 post K4 vX bD x1 x2 x3 := by
  have l0 := aEc
  intro v1 ev1
  have f2 : Int32.toInt (x3 + 1) = Int32.toInt x3 + Int32.toInt (1 : Int32) := aAD _ _ (by omega)
  rw [← ev1] at f2
  have f3 := aAT x2
  exact hK4 x1 x2 v1 aBK (by omega) (by omega)
set_option maxHeartbeats 8000000 in
set_option maxRecDepth 200000 in
theorem ts_X5_loadOf_4 {post : Int32 → Prop} {next : Int32 → Int32 → Int32 → Prop} {n4 : Int} (vX : Nat → Int32) (bD : Int32) (wX : 0 ≤ Int32.toInt bD ∧ Int32.toInt bD ≤ 8) (hpost : ∀ (r : Int32) , post r) (hKn : ∀ (x1 : Int32) (x2 : Int32) (x3 : Int32), (0 ≤ Int32.toInt x1 ∧ Int32.toInt x1 ≤ 255) → (0 ≤ Int32.toInt x3 ∧ Int32.toInt x3 ≤ 8) → (8 - Int32.toInt x3 < n4) → next x1 x2 x3) (x1 x2 x3 : Int32) (aBK : 0 ≤ Int32.toInt x1 ∧ Int32.toInt x1 ≤ 255) (aCH : 0 ≤ Int32.toInt x3 ∧ Int32.toInt x3 ≤ 8) (hn4 : 8 - Int32.toInt x3 ≤ n4) : ws_X5_loadOf_4 post next vX bD x1 x2 x3 := by
  have l0 := aE0
  have l1 := aEc
  refine And.intro (fun c4 => ?_) (fun c4 => ?_)
  · skip
    have c4 := (aAO _ _).mp c4
    exact hpost _ 
  · skip
    have c4 := mt (aAO _ _).mpr c4
    intro v5 ev5
    have f6 := aRJ x1 x3 (by omega)
    have hv5 := congrArg Int32.toInt ev5
    have f8 := aAQ v5 1 (by omega)
    have f9 := aBx v5 1 (by omega)
    refine And.intro (fun c7 => ?_) (fun c7 => ?_)
    · skip
      have c7 := (zJ _ _).mp c7
      have f10 := aAT x2
      exact ts_X5_loadOf_32 vX bD wX hpost hKn x1 x2 x3 aBK (by omega) hn4
    · skip
      have c7 := mt (zJ _ _).mpr c7
      refine And.intro (aBZ (by omega)) ?_
      intro v11 ev11
      have hv11 := congrArg Int32.toInt ev11
      have f13 := aAT v11
      exact ts_X5_loadOf_32 vX bD wX hpost hKn x1 v11 x3 aBK (by omega) hn4
set_option maxHeartbeats 8000000 in
set_option maxRecDepth 200000 in
theorem tb_X5_loadOf_4 {post : Int32 → Prop} (vX : Nat → Int32) (bD : Int32) (wX : 0 ≤ Int32.toInt bD ∧ Int32.toInt bD ≤ 8) (hpost : ∀ (r : Int32) , post r) : ∀ (n : Nat) (x1 x2 x3 : Int32), (0 ≤ Int32.toInt x1 ∧ Int32.toInt x1 ≤ 255) → (0 ≤ Int32.toInt x3 ∧ Int32.toInt x3 ≤ 8) → (8 - Int32.toInt x3 < (n : Int)) → wb_X5_loadOf_4 post vX bD n x1 x2 x3 := by
  intro n
  induction n with
  | zero =>
    intro x1 x2 x3 aBK aCH hm
    exfalso; omega
  | succ n ih =>
    intro x1 x2 x3 aBK aCH hm
    exact ts_X5_loadOf_4 vX bD wX hpost ih x1 x2 x3 aBK aCH (by omega)
set_option maxHeartbeats 8000000 in
set_option maxRecDepth 200000 in
theorem t_X5_loadOf {post : Int32 → Prop} {p0 : Int32} {vX : Nat → Int32} {bD : Int32} (h_p0 : 0 ≤ Int32.toInt p0 ∧ Int32.toInt p0 ≤ 255) (wX : 0 ≤ Int32.toInt bD ∧ Int32.toInt bD ≤ 8) (hpost : ∀ (r : Int32) , post r) : wp_X5_loadOf post p0 vX bD := by
  have l0 := aE0
  exact ⟨10, tb_X5_loadOf_4 vX bD wX hpost _ p0 0 0 h_p0 (by omega) (by omega)⟩
set_option maxHeartbeats 8000000 in
set_option maxRecDepth 200000 in
theorem ts_X9_share_96 {post : Int32 → Int32 → (Nat → Int32) → (Nat → Int32) → (Nat → Int32) → (Nat → Int32) → Int32 → (Nat → Int32) → Prop} {K45 : Int32 → Int32 → Int32 → Int32 → Int32 → Int32 → (Nat → Int32) → (Nat → Int32) → (Nat → Int32) → (Nat → Int32) → Int32 → (Nat → Int32) → Prop} {n45 : Int} (dN bD : Int32) (uU gF pL qF mX oE dY : Nat → Int32) (jE eW eY dU gJ jG pQ : Int32) (pN : Nat → Int32) (xL : 0 ≤ Int32.toInt dN ∧ Int32.toInt dN ≤ 16) (wX : 0 ≤ Int32.toInt bD ∧ Int32.toInt bD ≤ 8) (zK : 0 ≤ Int32.toInt jG ∧ Int32.toInt jG ≤ 9) (zU : 0 ≤ Int32.toInt pQ ∧ Int32.toInt pQ ≤ 40) (hpost : ∀ (r : Int32) (aAY : Int32) (aBC : Nat → Int32) (pl_load' : Nat → Int32) (aCG : Nat → Int32) (aB4 : Nat → Int32) (zV : Int32) (aAV : Nat → Int32), (0 ≤ Int32.toInt aAY ∧ Int32.toInt aAY ≤ 65535) → (∀ k : Nat, 0 ≤ Int32.toInt (aBC k) ∧ Int32.toInt (aBC k) ≤ 65535) → (0 ≤ Int32.toInt zV ∧ Int32.toInt zV ≤ 16) → post r aAY aBC pl_load' aCG aB4 zV aAV) (hK45 : ∀ (x1 : Int32) (x2 : Int32) (x3 : Int32) (x4 : Int32) (x5 : Int32) (oY : Int32) (rD : Nat → Int32) (vX : Nat → Int32) (qY : Nat → Int32) (qU : Nat → Int32) (qB : Int32) (jK : Nat → Int32), (0 ≤ Int32.toInt x1 ∧ Int32.toInt x1 ≤ 255) → (0 ≤ Int32.toInt x3 ∧ Int32.toInt x3 ≤ 255) → (1 ≤ Int32.toInt x5 ∧ Int32.toInt x5 ≤ 256) → (0 ≤ Int32.toInt oY ∧ Int32.toInt oY ≤ 65535) → (∀ k : Nat, 0 ≤ Int32.toInt (rD k) ∧ Int32.toInt (rD k) ≤ 65535) → (0 ≤ Int32.toInt qB ∧ Int32.toInt qB ≤ 16) → (256 - Int32.toInt x5 < n45) → K45 x1 x2 x3 x4 x5 oY rD vX qY qU qB jK) (x1 x2 x3 x4 x5 oY : Int32) (rD vX qY qU : Nat → Int32) (qB : Int32) (jK : Nat → Int32) (aBK : 1 ≤ Int32.toInt x1 ∧ Int32.toInt x1 ≤ 255) (aCH : 0 ≤ Int32.toInt x3 ∧ Int32.toInt x3 ≤ 255) (aF7 : 1 ≤ Int32.toInt x5 ∧ Int32.toInt x5 ≤ 255) (aAE : 0 ≤ Int32.toInt oY ∧ Int32.toInt oY ≤ 65535) (zR : ∀ k : Nat, 0 ≤ Int32.toInt (rD k) ∧ Int32.toInt (rD k) ≤ 65535) (aAK : 0 ≤ Int32.toInt qB ∧ Int32.toInt qB ≤ 16) (hn45 : 256 - Int32.toInt x5 ≤ n45) : ws_X9_share_96 post K45 dN bD uU gF pL qF mX oE dY jE eW eY dU gJ jG pQ pN x1 x2 x3 x4 x5 oY rD vX qY qU qB jK := by
  have l0 := aEc
  intro v1 ev1
  have f2 : Int32.toInt (x5 + 1) = Int32.toInt x5 + Int32.toInt (1 : Int32) := aAD _ _ (by omega)
  rw [← ev1] at f2
  have f3 := aAT x2
  have f4 := aAT x4
  exact hK45 x1 x2 x3 x4 v1 oY rD vX qY qU qB jK (by omega) aCH (by omega) aAE zR aAK (by omega)
set_option maxHeartbeats 8000000 in
set_option maxRecDepth 200000 in
theorem ts_X9_share_45 {post : Int32 → Int32 → (Nat → Int32) → (Nat → Int32) → (Nat → Int32) → (Nat → Int32) → Int32 → (Nat → Int32) → Prop} {next : Int32 → Int32 → Int32 → Int32 → Int32 → Int32 → (Nat → Int32) → (Nat → Int32) → (Nat → Int32) → (Nat → Int32) → Int32 → (Nat → Int32) → Prop} {n45 : Int} (dN bD : Int32) (uU gF pL qF mX oE dY : Nat → Int32) (jE eW eY dU gJ jG pQ : Int32) (pN : Nat → Int32) (xL : 0 ≤ Int32.toInt dN ∧ Int32.toInt dN ≤ 16) (wX : 0 ≤ Int32.toInt bD ∧ Int32.toInt bD ≤ 8) (zK : 0 ≤ Int32.toInt jG ∧ Int32.toInt jG ≤ 9) (zU : 0 ≤ Int32.toInt pQ ∧ Int32.toInt pQ ≤ 40) (hpost : ∀ (r : Int32) (aAY : Int32) (aBC : Nat → Int32) (pl_load' : Nat → Int32) (aCG : Nat → Int32) (aB4 : Nat → Int32) (zV : Int32) (aAV : Nat → Int32), (0 ≤ Int32.toInt aAY ∧ Int32.toInt aAY ≤ 65535) → (∀ k : Nat, 0 ≤ Int32.toInt (aBC k) ∧ Int32.toInt (aBC k) ≤ 65535) → (0 ≤ Int32.toInt zV ∧ Int32.toInt zV ≤ 16) → post r aAY aBC pl_load' aCG aB4 zV aAV) (hKn : ∀ (x1 : Int32) (x2 : Int32) (x3 : Int32) (x4 : Int32) (x5 : Int32) (oY : Int32) (rD : Nat → Int32) (vX : Nat → Int32) (qY : Nat → Int32) (qU : Nat → Int32) (qB : Int32) (jK : Nat → Int32), (0 ≤ Int32.toInt x1 ∧ Int32.toInt x1 ≤ 255) → (0 ≤ Int32.toInt x3 ∧ Int32.toInt x3 ≤ 255) → (1 ≤ Int32.toInt x5 ∧ Int32.toInt x5 ≤ 256) → (0 ≤ Int32.toInt oY ∧ Int32.toInt oY ≤ 65535) → (∀ k : Nat, 0 ≤ Int32.toInt (rD k) ∧ Int32.toInt (rD k) ≤ 65535) → (0 ≤ Int32.toInt qB ∧ Int32.toInt qB ≤ 16) → (256 - Int32.toInt x5 < n45) → next x1 x2 x3 x4 x5 oY rD vX qY qU qB jK) (x1 x2 x3 x4 x5 oY : Int32) (rD vX qY qU : Nat → Int32) (qB : Int32) (jK : Nat → Int32) (aBK : 0 ≤ Int32.toInt x1 ∧ Int32.toInt x1 ≤ 255) (aCH : 0 ≤ Int32.toInt x3 ∧ Int32.toInt x3 ≤ 255) (aF7 : 1 ≤ Int32.toInt x5 ∧ Int32.toInt x5 ≤ 256) (aAE : 0 ≤ Int32.toInt oY ∧ Int32.toInt oY ≤ 65535) (zR : ∀ k : Nat, 0 ≤ Int32.toInt (rD k) ∧ Int32.toInt (rD k) ≤ 65535) (aAK : 0 ≤ Int32.toInt qB ∧ Int32.toInt qB ≤ 16) (hn45 : 256 - Int32.toInt x5 ≤ n45) : ws_X9_share_45 post next dN bD uU gF pL qF mX oE dY jE eW eY dU gJ jG pQ pN x1 x2 x3 x4 x5 oY rD vX qY qU qB jK := by
  have l0 := aE0
  have l1 := aEc
  have l2 := li_16
  refine And.intro (fun c5 => ?_) (fun c5 => ?_)
  · skip
    have c5 := (aAd _ _).mp c5
    refine t_X5_loadOf aCH wX (fun r6 => ?_)
    intro v7 ev7
    have hv7 := congrArg Int32.toInt ev7
    refine And.intro (fun h9 => absurd h9 (by decide)) (fun _ => ?_)
    refine And.intro (aBZ (by omega)) ?_
    intro v9 ev9
    have f10 : Int32.toInt (0 + 1) = Int32.toInt (0 : Int32) + Int32.toInt (1 : Int32) := aAD _ _ (by omega)
    rw [← ev9] at f10
    refine And.intro (fun c11 => ?_) (fun c11 => ?_)
    · skip
      have c11 := (aAO _ _).mp c11
      exfalso; omega
    · skip
      have c11 := mt (aAO _ _).mpr c11
      refine And.intro (aBZ (by omega)) ?_
      intro v12 ev12
      have f13 : Int32.toInt (v9 + 1) = Int32.toInt v9 + Int32.toInt (1 : Int32) := aAD _ _ (by omega)
      rw [← ev12] at f13
      exact hpost _ _ _ _ _ _ _ _ aAE zR (by omega)
  · skip
    have c5 := mt (aAd _ _).mpr c5
    have f16 := aBx x5 (x1 ^^^ (-1)) (by omega)
    refine And.intro (fun c14 => ?_) (fun c14 => ?_)
    · skip
      have c14 := mt (zJ _ _).mpr c14
      have f17 := aAT x2
      have f18 := aAT x4
      exact ts_X9_share_96 dN bD uU gF pL qF mX oE dY jE eW eY dU gJ jG pQ pN xL wX zK zU hpost hKn x1 x2 x3 x4 x5 oY rD vX qY qU qB jK (by omega) aCH (by omega) aAE zR aAK hn45
    · skip
      have c14Z := c14
      have c14 := (zJ _ _).mp c14
      have s19 := ti_subset x5 x1 (c14Z) (by omega)
      refine t_X5_loadOf (by omega) wX (fun r20 => ?_)
      intro v21 ev21
      have hv21 := congrArg Int32.toInt ev21
      intro v23 ev23
      have f25 := aAT r20
      have f26 := aAT v21
      have f24 := ti_max r20 v21
      have hv23 := congrArg Int32.toInt ev23
      have f28 := aAT v23
      have f29 := aAT x4
      refine And.intro (fun c27 => ?_) (fun c27 => ?_)
      · skip
        have c27 := (aAO _ _).mp c27
        have f30 := aAT x2
        exact ts_X9_share_96 dN bD uU gF pL qF mX oE dY jE eW eY dU gJ jG pQ pN xL wX zK zU hpost hKn x1 x2 x3 x4 x5 oY rD vX qY qU qB jK (by omega) aCH (by omega) aAE zR aAK hn45
      · skip
        have c27 := mt (aAO _ _).mpr c27
        have f31 := aAT x2
        exact ts_X9_share_96 dN bD uU gF pL qF mX oE dY jE eW eY dU gJ jG pQ pN xL wX zK zU hpost hKn x1 x2 x5 v23 x5 oY rD vX qY qU qB jK (by omega) (by omega) (by omega) aAE zR aAK hn45
set_option maxHeartbeats 8000000 in
set_option maxRecDepth 200000 in
theorem tb_X9_share_45 {post : Int32 → Int32 → (Nat → Int32) → (Nat → Int32) → (Nat → Int32) → (Nat → Int32) → Int32 → (Nat → Int32) → Prop} (dN bD : Int32) (uU gF pL qF mX oE dY : Nat → Int32) (jE eW eY dU gJ jG pQ : Int32) (pN : Nat → Int32) (xL : 0 ≤ Int32.toInt dN ∧ Int32.toInt dN ≤ 16) (wX : 0 ≤ Int32.toInt bD ∧ Int32.toInt bD ≤ 8) (zK : 0 ≤ Int32.toInt jG ∧ Int32.toInt jG ≤ 9) (zU : 0 ≤ Int32.toInt pQ ∧ Int32.toInt pQ ≤ 40) (hpost : ∀ (r : Int32) (aAY : Int32) (aBC : Nat → Int32) (pl_load' : Nat → Int32) (aCG : Nat → Int32) (aB4 : Nat → Int32) (zV : Int32) (aAV : Nat → Int32), (0 ≤ Int32.toInt aAY ∧ Int32.toInt aAY ≤ 65535) → (∀ k : Nat, 0 ≤ Int32.toInt (aBC k) ∧ Int32.toInt (aBC k) ≤ 65535) → (0 ≤ Int32.toInt zV ∧ Int32.toInt zV ≤ 16) → post r aAY aBC pl_load' aCG aB4 zV aAV) : ∀ (n : Nat) (x1 x2 x3 x4 x5 oY : Int32) (rD vX qY qU : Nat → Int32) (qB : Int32) (jK : Nat → Int32), (0 ≤ Int32.toInt x1 ∧ Int32.toInt x1 ≤ 255) → (0 ≤ Int32.toInt x3 ∧ Int32.toInt x3 ≤ 255) → (1 ≤ Int32.toInt x5 ∧ Int32.toInt x5 ≤ 256) → (0 ≤ Int32.toInt oY ∧ Int32.toInt oY ≤ 65535) → (∀ k : Nat, 0 ≤ Int32.toInt (rD k) ∧ Int32.toInt (rD k) ≤ 65535) → (0 ≤ Int32.toInt qB ∧ Int32.toInt qB ≤ 16) → (256 - Int32.toInt x5 < (n : Int)) → wb_X9_share_45 post dN bD uU gF pL qF mX oE dY jE eW eY dU gJ jG pQ pN n x1 x2 x3 x4 x5 oY rD vX qY qU qB jK := by
  intro n
  induction n with
  | zero =>
    intro x1 x2 x3 x4 x5 oY rD vX qY qU qB jK aBK aCH aF7 aAE zR aAK hm
    exfalso; omega
  | succ n ih =>
    intro x1 x2 x3 x4 x5 oY rD vX qY qU qB jK aBK aCH aF7 aAE zR aAK hm
    exact ts_X9_share_45 dN bD uU gF pL qF mX oE dY jE eW eY dU gJ jG pQ pN xL wX zK zU hpost ih x1 x2 x3 x4 x5 oY rD vX qY qU qB jK aBK aCH aF7 aAE zR aAK (by omega)
set_option maxHeartbeats 8000000 in
set_option maxRecDepth 200000 in
theorem t_X9_share {post : Int32 → Int32 → (Nat → Int32) → (Nat → Int32) → (Nat → Int32) → (Nat → Int32) → Int32 → (Nat → Int32) → Prop} {p0 oY : Int32} {rD vX : Nat → Int32} {dN bD : Int32} {uU gF pL qF mX oE dY : Nat → Int32} {jE eW eY dU gJ jG pQ : Int32} {qY qU pN : Nat → Int32} {qB : Int32} {jK : Nat → Int32} (aAE : 0 ≤ Int32.toInt oY ∧ Int32.toInt oY ≤ 65535) (zR : ∀ k : Nat, 0 ≤ Int32.toInt (rD k) ∧ Int32.toInt (rD k) ≤ 65535) (xL : 0 ≤ Int32.toInt dN ∧ Int32.toInt dN ≤ 16) (wX : 0 ≤ Int32.toInt bD ∧ Int32.toInt bD ≤ 8) (zK : 0 ≤ Int32.toInt jG ∧ Int32.toInt jG ≤ 9) (zU : 0 ≤ Int32.toInt pQ ∧ Int32.toInt pQ ≤ 40) (aAK : 0 ≤ Int32.toInt qB ∧ Int32.toInt qB ≤ 16) (hpost : ∀ (r : Int32) (aAY : Int32) (aBC : Nat → Int32) (pl_load' : Nat → Int32) (aCG : Nat → Int32) (aB4 : Nat → Int32) (zV : Int32) (aAV : Nat → Int32), (0 ≤ Int32.toInt aAY ∧ Int32.toInt aAY ≤ 65535) → (∀ k : Nat, 0 ≤ Int32.toInt (aBC k) ∧ Int32.toInt (aBC k) ≤ 65535) → (0 ≤ Int32.toInt zV ∧ Int32.toInt zV ≤ 16) → post r aAY aBC pl_load' aCG aB4 zV aAV) : wp_X9_share post p0 oY rD vX dN bD uU gF pL qF mX oE dY jE eW eY dU gJ jG pQ qY qU pN qB jK := by
  have l0 := aE0
  have l1 := aEc
  intro v32 ev32
  have f33 := aDv 8 256 bD (by decide) (by omega)
  have hv32 := congrArg Int32.toInt ev32
  refine And.intro (fun c34 => ?_) (fun c34 => ?_)
  · skip
    have c34 := mt (zJ _ _).mpr c34
    refine And.intro (fun h9 => absurd h9 (by decide)) (fun _ => ?_)
    exact hpost _ _ _ _ _ _ _ _ aAE zR aAK
  · skip
    have c34Z := c34
    have c34 := (zJ _ _).mp c34
    have f36 : Int32.toInt (v32 - 1) = Int32.toInt v32 - Int32.toInt (1 : Int32) := aCA _ _ (by omega)
    have s37 := ti_subset p0 (v32 - 1) (c34Z) (by omega)
    refine And.intro (fun _ => ?_) (fun h9 => absurd h9 (by decide))
    refine aVe zK aAE zR xL wX (fun pl_wanted_38 pl_near_39 h_pl_wanted_38 h_pl_near_39 => ?_)
    refine t_X5_loadFirsts (by omega) h_pl_wanted_38 h_pl_near_39 xL wX zU (fun pl_load_40 ru_given_41 ru_stack_42 => ?_)
    refine t_X5_loadOf (by omega) wX (fun r43 => ?_)
    have f44 := aAT r43
    exact ⟨257, tb_X9_share_45 dN bD uU gF pL qF mX oE dY jE eW eY dU gJ jG pQ pN xL wX zK zU hpost _ p0 r43 0 r43 1 pl_wanted_38 pl_near_39 pl_load_40 ru_given_41 ru_stack_42 qB jK (by omega) (by omega) (by omega) h_pl_wanted_38 h_pl_near_39 aAK (by omega)⟩
set_option maxHeartbeats 8000000 in
set_option maxRecDepth 200000 in
theorem ts_X9_ripens_48 {post : Int32 → Int32 → (Nat → Int32) → Int32 → (Nat → Int32) → Prop} {K18 : Int32 → Int32 → Int32 → Int32 → (Nat → Int32) → Int32 → (Nat → Int32) → Prop} {n18 : Int} (dN bD : Int32) (uU gF qF mX oE dY : Nat → Int32) (jE eW eY gJ jG : Int32) (xL : 0 ≤ Int32.toInt dN ∧ Int32.toInt dN ≤ 16) (wX : 0 ≤ Int32.toInt bD ∧ Int32.toInt bD ≤ 8) (zK : 0 ≤ Int32.toInt jG ∧ Int32.toInt jG ≤ 9) (hpost : ∀ (r : Int32) (aAY : Int32) (aBC : Nat → Int32) (zV : Int32) (aAV : Nat → Int32), (0 ≤ Int32.toInt r ∧ Int32.toInt r ≤ 63) → (0 ≤ Int32.toInt aAY ∧ Int32.toInt aAY ≤ 65535) → (∀ k : Nat, 0 ≤ Int32.toInt (aBC k) ∧ Int32.toInt (aBC k) ≤ 65535) → (2 ≤ Int32.toInt zV ∧ Int32.toInt zV ≤ 2) → post r aAY aBC zV aAV) (hK18 : ∀ (x1 : Int32) (x2 : Int32) (x3 : Int32) (oY : Int32) (rD : Nat → Int32) (qB : Int32) (jK : Nat → Int32), (0 ≤ Int32.toInt x1 ∧ Int32.toInt x1 ≤ 9) → (0 ≤ Int32.toInt x2 ∧ Int32.toInt x2 ≤ 63) → (0 ≤ Int32.toInt x3 ∧ Int32.toInt x3 ≤ 10) → (0 ≤ Int32.toInt oY ∧ Int32.toInt oY ≤ 65535) → (∀ k : Nat, 0 ≤ Int32.toInt (rD k) ∧ Int32.toInt (rD k) ≤ 65535) → (0 ≤ Int32.toInt qB ∧ Int32.toInt qB ≤ 16) → (10 - Int32.toInt x3 < n18) → K18 x1 x2 x3 oY rD qB jK) (x1 x2 x3 oY : Int32) (rD : Nat → Int32) (qB : Int32) (jK : Nat → Int32) (aBK : 0 ≤ Int32.toInt x1 ∧ Int32.toInt x1 ≤ 9) (aBN : 0 ≤ Int32.toInt x2 ∧ Int32.toInt x2 ≤ 63) (aCH : 0 ≤ Int32.toInt x3 ∧ Int32.toInt x3 ≤ 9) (aAE : 0 ≤ Int32.toInt oY ∧ Int32.toInt oY ≤ 65535) (zR : ∀ k : Nat, 0 ≤ Int32.toInt (rD k) ∧ Int32.toInt (rD k) ≤ 65535) (aAK : 0 ≤ Int32.toInt qB ∧ Int32.toInt qB ≤ 16) (hn18 : 10 - Int32.toInt x3 ≤ n18) : ws_X9_ripens_48 post K18 dN bD uU gF qF mX oE dY jE eW eY gJ jG x1 x2 x3 oY rD qB jK := by
  have l0 := aEc
  intro v1 ev1
  have f2 : Int32.toInt (x3 + 1) = Int32.toInt x3 + Int32.toInt (1 : Int32) := aAD _ _ (by omega)
  rw [← ev1] at f2
  exact hK18 x1 x2 v1 oY rD qB jK aBK aBN (by omega) aAE zR aAK (by omega)
set_option maxHeartbeats 8000000 in
set_option maxRecDepth 200000 in
theorem ts_X9_ripens_18 {post : Int32 → Int32 → (Nat → Int32) → Int32 → (Nat → Int32) → Prop} {next : Int32 → Int32 → Int32 → Int32 → (Nat → Int32) → Int32 → (Nat → Int32) → Prop} {n18 : Int} (dN bD : Int32) (uU gF qF mX oE dY : Nat → Int32) (jE eW eY gJ jG : Int32) (xL : 0 ≤ Int32.toInt dN ∧ Int32.toInt dN ≤ 16) (wX : 0 ≤ Int32.toInt bD ∧ Int32.toInt bD ≤ 8) (zK : 0 ≤ Int32.toInt jG ∧ Int32.toInt jG ≤ 9) (hpost : ∀ (r : Int32) (aAY : Int32) (aBC : Nat → Int32) (zV : Int32) (aAV : Nat → Int32), (0 ≤ Int32.toInt r ∧ Int32.toInt r ≤ 63) → (0 ≤ Int32.toInt aAY ∧ Int32.toInt aAY ≤ 65535) → (∀ k : Nat, 0 ≤ Int32.toInt (aBC k) ∧ Int32.toInt (aBC k) ≤ 65535) → (2 ≤ Int32.toInt zV ∧ Int32.toInt zV ≤ 2) → post r aAY aBC zV aAV) (hKn : ∀ (x1 : Int32) (x2 : Int32) (x3 : Int32) (oY : Int32) (rD : Nat → Int32) (qB : Int32) (jK : Nat → Int32), (0 ≤ Int32.toInt x1 ∧ Int32.toInt x1 ≤ 9) → (0 ≤ Int32.toInt x2 ∧ Int32.toInt x2 ≤ 63) → (0 ≤ Int32.toInt x3 ∧ Int32.toInt x3 ≤ 10) → (0 ≤ Int32.toInt oY ∧ Int32.toInt oY ≤ 65535) → (∀ k : Nat, 0 ≤ Int32.toInt (rD k) ∧ Int32.toInt (rD k) ≤ 65535) → (0 ≤ Int32.toInt qB ∧ Int32.toInt qB ≤ 16) → (10 - Int32.toInt x3 < n18) → next x1 x2 x3 oY rD qB jK) (x1 x2 x3 oY : Int32) (rD : Nat → Int32) (qB : Int32) (jK : Nat → Int32) (aBK : 0 ≤ Int32.toInt x1 ∧ Int32.toInt x1 ≤ 9) (aBN : 0 ≤ Int32.toInt x2 ∧ Int32.toInt x2 ≤ 63) (aCH : 0 ≤ Int32.toInt x3 ∧ Int32.toInt x3 ≤ 10) (aAE : 0 ≤ Int32.toInt oY ∧ Int32.toInt oY ≤ 65535) (zR : ∀ k : Nat, 0 ≤ Int32.toInt (rD k) ∧ Int32.toInt (rD k) ≤ 65535) (aAK : 0 ≤ Int32.toInt qB ∧ Int32.toInt qB ≤ 16) (hn18 : 10 - Int32.toInt x3 ≤ n18) : ws_X9_ripens_18 post next dN bD uU gF qF mX oE dY jE eW eY gJ jG x1 x2 x3 oY rD qB jK := by
  have l0 := aE0
  have l1 := aEc
  have l2 := aKH
  have l3 := li_16
  have l4 := aJ8
  have l5 := li_63
  have l6 := aJ9
  have l7 := li_9
  refine And.intro (fun c3 => ?_) (fun c3 => ?_)
  · skip
    have c3 := (aAd _ _).mp c3
    refine aVe (by omega) aAE zR xL wX (fun pl_wanted_4 pl_near_5 h_pl_wanted_4 h_pl_near_5 => ?_)
    intro v6 ev6
    have f7 := aDv 8 256 bD (by decide) (by omega)
    have hv6 := congrArg Int32.toInt ev6
    have f9 : Int32.toInt (v6 - 1) = Int32.toInt v6 - Int32.toInt (1 : Int32) := aCA _ _ (by omega)
    refine t_X5_smallestCover h_pl_wanted_4 (by omega) h_pl_near_5 wX (fun r8 h_r8 => ?_)
    intro v10 ev10
    intro v11 ev11
    have f13 := aAQ v10 1431655765 (by omega)
    have f12 : Int32.toInt (r8 - (v10 &&& 1431655765)) = Int32.toInt r8 - Int32.toInt (v10 &&& 1431655765) := aCA _ _ (by omega)
    rw [← ev11] at f12
    intro v14 ev14
    have f15 := aAQ v11 858993459 (by omega)
    have hv14 := congrArg Int32.toInt ev14
    intro v16 ev16
    intro v17 ev17
    have f19 := aAQ v16 858993459 (by omega)
    have f18 : Int32.toInt (v14 + (v16 &&& 858993459)) = Int32.toInt v14 + Int32.toInt (v16 &&& 858993459) := aAD _ _ (by omega)
    rw [← ev17] at f18
    intro v20 ev20
    have hv20 := congrArg Int32.toInt ev20
    intro v22 ev22
    have f23 := aAQ v20 252645135 (by omega)
    have hv22 := congrArg Int32.toInt ev22
    intro v24 ev24
    have hv24 := congrArg Int32.toInt ev24
    intro v26 ev26
    have hv26 := congrArg Int32.toInt ev26
    refine And.intro (fun h9 => absurd h9 (by decide)) (fun _ => ?_)
    refine And.intro (aBZ (by omega)) ?_
    intro v28 ev28
    have f29 : Int32.toInt (0 + 1) = Int32.toInt (0 : Int32) + Int32.toInt (1 : Int32) := aAD _ _ (by omega)
    rw [← ev28] at f29
    refine And.intro (fun c30 => ?_) (fun c30 => ?_)
    · skip
      have c30 := (aAO _ _).mp c30
      exfalso; omega
    · skip
      have c30 := mt (aAO _ _).mpr c30
      refine And.intro (aBZ (by omega)) ?_
      intro v31 ev31
      have f32 : Int32.toInt (v28 + 1) = Int32.toInt v28 + Int32.toInt (1 : Int32) := aAD _ _ (by omega)
      rw [← ev31] at f32
      exact hpost _ _ _ _ _ aBN h_pl_wanted_4 h_pl_near_5 (by omega)
  · skip
    have c3 := mt (aAd _ _).mpr c3
    intro v33 ev33
    have f34 := aDv 16 65536 dN (by decide) (by omega)
    have hv33 := congrArg Int32.toInt ev33
    intro v35 ev35
    intro v36 ev36
    refine t_X3_ripeBy (by omega) xL (fun r37 h_r37 => ?_)
    intro v38 ev38
    have f39 := aAQ ((v33 - 1) &&& (v36 ^^^ (-1))) r37 (by omega)
    have f41 : Int32.toInt (v33 - 1) = Int32.toInt v33 - Int32.toInt (1 : Int32) := aCA _ _ (by omega)
    have f42 := aBx (v33 - 1) (v36 ^^^ (-1)) (by omega)
    have f43 := aBx ((v33 - 1) &&& (v36 ^^^ (-1))) r37 (by omega)
    have hv38 := congrArg Int32.toInt ev38
    refine And.intro (fun c44 => ?_) (fun c44 => ?_)
    · skip
      have c44 := (aAO _ _).mp c44
      intro v45 ev45
      intro v46 ev46
      have f48 := aAQ v45 1431655765 (by omega)
      have f47 : Int32.toInt (v38 - (v45 &&& 1431655765)) = Int32.toInt v38 - Int32.toInt (v45 &&& 1431655765) := aCA _ _ (by omega)
      rw [← ev46] at f47
      intro v49 ev49
      have f50 := aAQ v46 858993459 (by omega)
      have hv49 := congrArg Int32.toInt ev49
      intro v51 ev51
      intro v52 ev52
      have f54 := aAQ v51 858993459 (by omega)
      have f53 : Int32.toInt (v49 + (v51 &&& 858993459)) = Int32.toInt v49 + Int32.toInt (v51 &&& 858993459) := aAD _ _ (by omega)
      rw [← ev52] at f53
      intro v55 ev55
      have hv55 := congrArg Int32.toInt ev55
      intro v57 ev57
      have f58 := aAQ v55 252645135 (by omega)
      have hv57 := congrArg Int32.toInt ev57
      intro v59 ev59
      have hv59 := congrArg Int32.toInt ev59
      intro v61 ev61
      have hv61 := congrArg Int32.toInt ev61
      have f64 := aAQ v61 63 (by omega)
      refine And.intro (fun c63 => ?_) (fun c63 => ?_)
      · skip
        have c63 := (aAO _ _).mp c63
        exact ts_X9_ripens_48 dN bD uU gF qF mX oE dY jE eW eY gJ jG xL wX zK hpost hKn x1 x2 x3 oY rD qB jK aBK aBN (by omega) aAE zR aAK hn18
      · skip
        have c63 := mt (aAO _ _).mpr c63
        exact ts_X9_ripens_48 dN bD uU gF qF mX oE dY jE eW eY gJ jG xL wX zK hpost hKn x3 (v61 &&& 63) x3 oY rD qB jK (by omega) (by omega) (by omega) aAE zR aAK hn18
    · skip
      have c44 := mt (aAO _ _).mpr c44
      intro v65 ev65
      have f66 : Int32.toInt (x3 - 1) = Int32.toInt x3 - Int32.toInt (1 : Int32) := aCA _ _ (by omega)
      rw [← ev65] at f66
      refine t_X3_ripeBy (by omega) xL (fun r67 h_r67 => ?_)
      intro v68 ev68
      have f70 := aBx v38 (r67 ^^^ (-1)) (by omega)
      have hv68 := congrArg Int32.toInt ev68
      intro v71 ev71
      intro v72 ev72
      have f74 := aAQ v71 1431655765 (by omega)
      have f73 : Int32.toInt (v68 - (v71 &&& 1431655765)) = Int32.toInt v68 - Int32.toInt (v71 &&& 1431655765) := aCA _ _ (by omega)
      rw [← ev72] at f73
      intro v75 ev75
      have f76 := aAQ v72 858993459 (by omega)
      have hv75 := congrArg Int32.toInt ev75
      intro v77 ev77
      intro v78 ev78
      have f80 := aAQ v77 858993459 (by omega)
      have f79 : Int32.toInt (v75 + (v77 &&& 858993459)) = Int32.toInt v75 + Int32.toInt (v77 &&& 858993459) := aAD _ _ (by omega)
      rw [← ev78] at f79
      intro v81 ev81
      have hv81 := congrArg Int32.toInt ev81
      intro v83 ev83
      have f84 := aAQ v81 252645135 (by omega)
      have hv83 := congrArg Int32.toInt ev83
      intro v85 ev85
      have hv85 := congrArg Int32.toInt ev85
      intro v87 ev87
      have hv87 := congrArg Int32.toInt ev87
      have f90 := aAQ v87 63 (by omega)
      refine And.intro (fun c89 => ?_) (fun c89 => ?_)
      · skip
        have c89 := (aAO _ _).mp c89
        exact ts_X9_ripens_48 dN bD uU gF qF mX oE dY jE eW eY gJ jG xL wX zK hpost hKn x1 x2 x3 oY rD qB jK aBK aBN (by omega) aAE zR aAK hn18
      · skip
        have c89 := mt (aAO _ _).mpr c89
        exact ts_X9_ripens_48 dN bD uU gF qF mX oE dY jE eW eY gJ jG xL wX zK hpost hKn x3 (v87 &&& 63) x3 oY rD qB jK (by omega) (by omega) (by omega) aAE zR aAK hn18
set_option maxHeartbeats 8000000 in
set_option maxRecDepth 200000 in
theorem tb_X9_ripens_18 {post : Int32 → Int32 → (Nat → Int32) → Int32 → (Nat → Int32) → Prop} (dN bD : Int32) (uU gF qF mX oE dY : Nat → Int32) (jE eW eY gJ jG : Int32) (xL : 0 ≤ Int32.toInt dN ∧ Int32.toInt dN ≤ 16) (wX : 0 ≤ Int32.toInt bD ∧ Int32.toInt bD ≤ 8) (zK : 0 ≤ Int32.toInt jG ∧ Int32.toInt jG ≤ 9) (hpost : ∀ (r : Int32) (aAY : Int32) (aBC : Nat → Int32) (zV : Int32) (aAV : Nat → Int32), (0 ≤ Int32.toInt r ∧ Int32.toInt r ≤ 63) → (0 ≤ Int32.toInt aAY ∧ Int32.toInt aAY ≤ 65535) → (∀ k : Nat, 0 ≤ Int32.toInt (aBC k) ∧ Int32.toInt (aBC k) ≤ 65535) → (2 ≤ Int32.toInt zV ∧ Int32.toInt zV ≤ 2) → post r aAY aBC zV aAV) : ∀ (n : Nat) (x1 x2 x3 oY : Int32) (rD : Nat → Int32) (qB : Int32) (jK : Nat → Int32), (0 ≤ Int32.toInt x1 ∧ Int32.toInt x1 ≤ 9) → (0 ≤ Int32.toInt x2 ∧ Int32.toInt x2 ≤ 63) → (0 ≤ Int32.toInt x3 ∧ Int32.toInt x3 ≤ 10) → (0 ≤ Int32.toInt oY ∧ Int32.toInt oY ≤ 65535) → (∀ k : Nat, 0 ≤ Int32.toInt (rD k) ∧ Int32.toInt (rD k) ≤ 65535) → (0 ≤ Int32.toInt qB ∧ Int32.toInt qB ≤ 16) → (10 - Int32.toInt x3 < (n : Int)) → wb_X9_ripens_18 post dN bD uU gF qF mX oE dY jE eW eY gJ jG n x1 x2 x3 oY rD qB jK := by
  intro n
  induction n with
  | zero =>
    intro x1 x2 x3 oY rD qB jK aBK aBN aCH aAE zR aAK hm
    exfalso; omega
  | succ n ih =>
    intro x1 x2 x3 oY rD qB jK aBK aBN aCH aAE zR aAK hm
    exact ts_X9_ripens_18 dN bD uU gF qF mX oE dY jE eW eY gJ jG xL wX zK hpost ih x1 x2 x3 oY rD qB jK aBK aBN aCH aAE zR aAK (by omega)
set_option maxHeartbeats 8000000 in
set_option maxRecDepth 200000 in
theorem t_X9_ripens {post : Int32 → Int32 → (Nat → Int32) → Int32 → (Nat → Int32) → Prop} {oY : Int32} {rD : Nat → Int32} {dN bD : Int32} {uU gF qF mX oE dY : Nat → Int32} {jE eW eY gJ jG qB : Int32} {jK : Nat → Int32} (aAE : 0 ≤ Int32.toInt oY ∧ Int32.toInt oY ≤ 65535) (zR : ∀ k : Nat, 0 ≤ Int32.toInt (rD k) ∧ Int32.toInt (rD k) ≤ 65535) (xL : 0 ≤ Int32.toInt dN ∧ Int32.toInt dN ≤ 16) (wX : 0 ≤ Int32.toInt bD ∧ Int32.toInt bD ≤ 8) (zK : 0 ≤ Int32.toInt jG ∧ Int32.toInt jG ≤ 9) (aAK : 0 ≤ Int32.toInt qB ∧ Int32.toInt qB ≤ 16) (hpost : ∀ (r : Int32) (aAY : Int32) (aBC : Nat → Int32) (zV : Int32) (aAV : Nat → Int32), (0 ≤ Int32.toInt r ∧ Int32.toInt r ≤ 63) → (0 ≤ Int32.toInt aAY ∧ Int32.toInt aAY ≤ 65535) → (∀ k : Nat, 0 ≤ Int32.toInt (aBC k) ∧ Int32.toInt (aBC k) ≤ 65535) → (2 ≤ Int32.toInt zV ∧ Int32.toInt zV ≤ 2) → post r aAY aBC zV aAV) : wp_X9_ripens post oY rD dN bD uU gF qF mX oE dY jE eW eY gJ jG qB jK := by
  have l0 := aE0
  exact ⟨12, tb_X9_ripens_18 dN bD uU gF qF mX oE dY jE eW eY gJ jG xL wX zK hpost _ jG 0 jG oY rD qB jK zK (by omega) (by omega) aAE zR aAK (by omega)⟩
