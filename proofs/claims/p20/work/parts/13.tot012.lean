set_option maxHeartbeats 8000000 in
set_option maxRecDepth 200000 in
theorem ts_X5_reachedBy_32 {post : Int32 → Prop} {K4 : Int32 → Int32 → Int32 → Prop} {n4 : Int} (rD : Nat → Int32) (bD : Int32) (zR : ∀ k : Nat, 0 ≤ Int32.toInt (rD k) ∧ Int32.toInt (rD k) ≤ 65535) (wX : 0 ≤ Int32.toInt bD ∧ Int32.toInt bD ≤ 8) (hpost : ∀ (r : Int32) , (0 ≤ Int32.toInt r ∧ Int32.toInt r ≤ 65535) → post r) (hK4 : ∀ (x1 : Int32) (x2 : Int32) (x3 : Int32), (0 ≤ Int32.toInt x1 ∧ Int32.toInt x1 ≤ 255) → (0 ≤ Int32.toInt x2 ∧ Int32.toInt x2 ≤ 65535) → (0 ≤ Int32.toInt x3 ∧ Int32.toInt x3 ≤ 8) → (8 - Int32.toInt x3 < n4) → K4 x1 x2 x3) (x1 x2 x3 : Int32) (aBK : 0 ≤ Int32.toInt x1 ∧ Int32.toInt x1 ≤ 255) (aBN : 0 ≤ Int32.toInt x2 ∧ Int32.toInt x2 ≤ 65535) (aCH : 0 ≤ Int32.toInt x3 ∧ Int32.toInt x3 ≤ 7) (hn4 : 8 - Int32.toInt x3 ≤ n4) : ws_X5_reachedBy_32 post K4 rD bD x1 x2 x3 := by
  have l0 := aEc
  intro v1 ev1
  have f2 : Int32.toInt (x3 + 1) = Int32.toInt x3 + Int32.toInt (1 : Int32) := aAD _ _ (by omega)
  rw [← ev1] at f2
  exact hK4 x1 x2 v1 aBK aBN (by omega) (by omega)
set_option maxHeartbeats 8000000 in
set_option maxRecDepth 200000 in
theorem ts_X5_reachedBy_4 {post : Int32 → Prop} {next : Int32 → Int32 → Int32 → Prop} {n4 : Int} (rD : Nat → Int32) (bD : Int32) (zR : ∀ k : Nat, 0 ≤ Int32.toInt (rD k) ∧ Int32.toInt (rD k) ≤ 65535) (wX : 0 ≤ Int32.toInt bD ∧ Int32.toInt bD ≤ 8) (hpost : ∀ (r : Int32) , (0 ≤ Int32.toInt r ∧ Int32.toInt r ≤ 65535) → post r) (hKn : ∀ (x1 : Int32) (x2 : Int32) (x3 : Int32), (0 ≤ Int32.toInt x1 ∧ Int32.toInt x1 ≤ 255) → (0 ≤ Int32.toInt x2 ∧ Int32.toInt x2 ≤ 65535) → (0 ≤ Int32.toInt x3 ∧ Int32.toInt x3 ≤ 8) → (8 - Int32.toInt x3 < n4) → next x1 x2 x3) (x1 x2 x3 : Int32) (aBK : 0 ≤ Int32.toInt x1 ∧ Int32.toInt x1 ≤ 255) (aBN : 0 ≤ Int32.toInt x2 ∧ Int32.toInt x2 ≤ 65535) (aCH : 0 ≤ Int32.toInt x3 ∧ Int32.toInt x3 ≤ 8) (hn4 : 8 - Int32.toInt x3 ≤ n4) : ws_X5_reachedBy_4 post next rD bD x1 x2 x3 := by
  have l0 := aE0
  have l1 := aEc
  refine And.intro (fun c3 => ?_) (fun c3 => ?_)
  · skip
    have c3 := (aAO _ _).mp c3
    exact hpost _ aBN
  · skip
    have c3 := mt (aAO _ _).mpr c3
    intro v4 ev4
    have f5 := aRJ x1 x3 (by omega)
    have hv4 := congrArg Int32.toInt ev4
    have f7 := aAQ v4 1 (by omega)
    have f8 := aBx v4 1 (by omega)
    refine And.intro (fun c6 => ?_) (fun c6 => ?_)
    · skip
      have c6 := (zJ _ _).mp c6
      exact ts_X5_reachedBy_32 rD bD zR wX hpost hKn x1 x2 x3 aBK aBN (by omega) hn4
    · skip
      have c6 := mt (zJ _ _).mpr c6
      refine And.intro (aBZ (by omega)) ?_
      intro v9 ev9
      have f11 := zR x3.toNatClampNeg
      have f10 := ti_or 16 65536 x2 (rD x3.toNatClampNeg) (by decide) (by omega) (by omega)
      have hv9 := congrArg Int32.toInt ev9
      exact ts_X5_reachedBy_32 rD bD zR wX hpost hKn x1 v9 x3 aBK (by omega) (by omega) hn4
set_option maxHeartbeats 8000000 in
set_option maxRecDepth 200000 in
theorem tb_X5_reachedBy_4 {post : Int32 → Prop} (rD : Nat → Int32) (bD : Int32) (zR : ∀ k : Nat, 0 ≤ Int32.toInt (rD k) ∧ Int32.toInt (rD k) ≤ 65535) (wX : 0 ≤ Int32.toInt bD ∧ Int32.toInt bD ≤ 8) (hpost : ∀ (r : Int32) , (0 ≤ Int32.toInt r ∧ Int32.toInt r ≤ 65535) → post r) : ∀ (n : Nat) (x1 x2 x3 : Int32), (0 ≤ Int32.toInt x1 ∧ Int32.toInt x1 ≤ 255) → (0 ≤ Int32.toInt x2 ∧ Int32.toInt x2 ≤ 65535) → (0 ≤ Int32.toInt x3 ∧ Int32.toInt x3 ≤ 8) → (8 - Int32.toInt x3 < (n : Int)) → wb_X5_reachedBy_4 post rD bD n x1 x2 x3 := by
  intro n
  induction n with
  | zero =>
    intro x1 x2 x3 aBK aBN aCH hm
    exfalso; omega
  | succ n ih =>
    intro x1 x2 x3 aBK aBN aCH hm
    exact ts_X5_reachedBy_4 rD bD zR wX hpost ih x1 x2 x3 aBK aBN aCH (by omega)
set_option maxHeartbeats 8000000 in
set_option maxRecDepth 200000 in
theorem aUy {post : Int32 → Prop} {p0 : Int32} {rD : Nat → Int32} {bD : Int32} (h_p0 : 0 ≤ Int32.toInt p0 ∧ Int32.toInt p0 ≤ 255) (zR : ∀ k : Nat, 0 ≤ Int32.toInt (rD k) ∧ Int32.toInt (rD k) ≤ 65535) (wX : 0 ≤ Int32.toInt bD ∧ Int32.toInt bD ≤ 8) (hpost : ∀ (r : Int32) , (0 ≤ Int32.toInt r ∧ Int32.toInt r ≤ 65535) → post r) : aPV post p0 rD bD := by
  have l0 := aE0
  exact ⟨10, tb_X5_reachedBy_4 rD bD zR wX hpost _ p0 0 0 h_p0 (by omega) (by omega) (by omega)⟩
set_option maxHeartbeats 8000000 in
set_option maxRecDepth 200000 in
theorem ts_X5_lookAs_13 {post : Int32 → (Nat → Int32) → Prop} {next : Int32 → Int32 → Int32 → Int32 → (Nat → Int32) → Prop} {n13 : Int} (dN bD : Int32) (uU gF qF mX oE dY : Nat → Int32) (jE eW eY : Int32) (xL : 0 ≤ Int32.toInt dN ∧ Int32.toInt dN ≤ 16) (wX : 0 ≤ Int32.toInt bD ∧ Int32.toInt bD ≤ 8) (hpost : ∀ (aAY : Int32) (aBC : Nat → Int32), (0 ≤ Int32.toInt aAY ∧ Int32.toInt aAY ≤ 65535) → (∀ k : Nat, 0 ≤ Int32.toInt (aBC k) ∧ Int32.toInt (aBC k) ≤ 65535) → post aAY aBC) (hKn : ∀ (x2 : Int32) (x3 : Int32) (x4 : Int32) (oY : Int32) (rD : Nat → Int32), (0 ≤ Int32.toInt x2 ∧ Int32.toInt x2 ≤ 9) → (0 ≤ Int32.toInt x4 ∧ Int32.toInt x4 ≤ 8) → (0 ≤ Int32.toInt oY ∧ Int32.toInt oY ≤ 65535) → (∀ k : Nat, 0 ≤ Int32.toInt (rD k) ∧ Int32.toInt (rD k) ≤ 65535) → (8 - Int32.toInt x4 < n13) → next x2 x3 x4 oY rD) (x2 x3 x4 oY : Int32) (rD : Nat → Int32) (aBN : 0 ≤ Int32.toInt x2 ∧ Int32.toInt x2 ≤ 9) (aDO : 0 ≤ Int32.toInt x4 ∧ Int32.toInt x4 ≤ 8) (aAE : 0 ≤ Int32.toInt oY ∧ Int32.toInt oY ≤ 65535) (zR : ∀ k : Nat, 0 ≤ Int32.toInt (rD k) ∧ Int32.toInt (rD k) ≤ 65535) (hn13 : 8 - Int32.toInt x4 ≤ n13) : ws_X5_lookAs_13 post next dN bD uU gF qF mX oE dY jE eW eY x2 x3 x4 oY rD := by
  have l0 := aEc
  refine And.intro (fun c1 => ?_) (fun c1 => ?_)
  · skip
    have c1 := (aAO _ _).mp c1
    intro v2 ev2
    have f3 := aDv 16 65536 dN (by decide) (by omega)
    have hv2 := congrArg Int32.toInt ev2
    intro v4 ev4
    intro v5 ev5
    refine t_X3_ripeBy aBN xL (fun r6 h_r6 => ?_)
    intro v7 ev7
    have f8 := aAQ ((v2 - 1) &&& (v5 ^^^ (-1))) r6 (by omega)
    have f10 : Int32.toInt (v2 - 1) = Int32.toInt v2 - Int32.toInt (1 : Int32) := aCA _ _ (by omega)
    have f11 := aBx (v2 - 1) (v5 ^^^ (-1)) (by omega)
    have f12 := aBx ((v2 - 1) &&& (v5 ^^^ (-1))) r6 (by omega)
    have hv7 := congrArg Int32.toInt ev7
    intro v13 ev13
    have f14 := aDv 8 256 bD (by decide) (by omega)
    have hv13 := congrArg Int32.toInt ev13
    have f16 : Int32.toInt (v13 - 1) = Int32.toInt v13 - Int32.toInt (1 : Int32) := aCA _ _ (by omega)
    refine aUy (by omega) zR wX (fun r15 h_r15 => ?_)
    intro v17 ev17
    have f18 := aAQ v7 r15 (by omega)
    have f19 := aBx v7 r15 (by omega)
    have hv17 := congrArg Int32.toInt ev17
    exact hpost _ _ (by omega) zR
  · skip
    have c1 := mt (aAO _ _).mpr c1
    refine t_X3_within (by omega) xL (fun r20 h_r20 => ?_)
    refine And.intro (aBZ (by omega)) ?_
    have a21 : ∀ k : Nat, 0 ≤ Int32.toInt ((upd rD x4.toNatClampNeg r20) k) ∧ Int32.toInt ((upd rD x4.toNatClampNeg r20) k) ≤ 65535 := t_upd (fun k => by have q9 := zR k; omega) (by omega)
    intro v22 ev22
    have f23 : Int32.toInt (x4 + 1) = Int32.toInt x4 + Int32.toInt (1 : Int32) := aAD _ _ (by omega)
    rw [← ev22] at f23
    have f24 := aAT x3
    exact hKn x2 x3 v22 oY (upd rD x4.toNatClampNeg r20) aBN (by omega) aAE (fun k => by have q9 := a21 k; omega) (by omega)
set_option maxHeartbeats 8000000 in
set_option maxRecDepth 200000 in
theorem tb_X5_lookAs_13 {post : Int32 → (Nat → Int32) → Prop} (dN bD : Int32) (uU gF qF mX oE dY : Nat → Int32) (jE eW eY : Int32) (xL : 0 ≤ Int32.toInt dN ∧ Int32.toInt dN ≤ 16) (wX : 0 ≤ Int32.toInt bD ∧ Int32.toInt bD ≤ 8) (hpost : ∀ (aAY : Int32) (aBC : Nat → Int32), (0 ≤ Int32.toInt aAY ∧ Int32.toInt aAY ≤ 65535) → (∀ k : Nat, 0 ≤ Int32.toInt (aBC k) ∧ Int32.toInt (aBC k) ≤ 65535) → post aAY aBC) : ∀ (n : Nat) (x2 x3 x4 oY : Int32) (rD : Nat → Int32), (0 ≤ Int32.toInt x2 ∧ Int32.toInt x2 ≤ 9) → (0 ≤ Int32.toInt x4 ∧ Int32.toInt x4 ≤ 8) → (0 ≤ Int32.toInt oY ∧ Int32.toInt oY ≤ 65535) → (∀ k : Nat, 0 ≤ Int32.toInt (rD k) ∧ Int32.toInt (rD k) ≤ 65535) → (8 - Int32.toInt x4 < (n : Int)) → wb_X5_lookAs_13 post dN bD uU gF qF mX oE dY jE eW eY n x2 x3 x4 oY rD := by
  intro n
  induction n with
  | zero =>
    intro x2 x3 x4 oY rD aBN aDO aAE zR hm
    exfalso; omega
  | succ n ih =>
    intro x2 x3 x4 oY rD aBN aDO aAE zR hm
    exact ts_X5_lookAs_13 dN bD uU gF qF mX oE dY jE eW eY xL wX hpost ih x2 x3 x4 oY rD aBN aDO aAE zR (by omega)
set_option maxHeartbeats 8000000 in
set_option maxRecDepth 200000 in
theorem aVe {post : Int32 → (Nat → Int32) → Prop} {p0 p1 oY : Int32} {rD : Nat → Int32} {dN bD : Int32} {uU gF qF mX oE dY : Nat → Int32} {jE eW eY : Int32} (h_p1 : 0 ≤ Int32.toInt p1 ∧ Int32.toInt p1 ≤ 9) (aAE : 0 ≤ Int32.toInt oY ∧ Int32.toInt oY ≤ 65535) (zR : ∀ k : Nat, 0 ≤ Int32.toInt (rD k) ∧ Int32.toInt (rD k) ≤ 65535) (xL : 0 ≤ Int32.toInt dN ∧ Int32.toInt dN ≤ 16) (wX : 0 ≤ Int32.toInt bD ∧ Int32.toInt bD ≤ 8) (hpost : ∀ (aAY : Int32) (aBC : Nat → Int32), (0 ≤ Int32.toInt aAY ∧ Int32.toInt aAY ≤ 65535) → (∀ k : Nat, 0 ≤ Int32.toInt (aBC k) ∧ Int32.toInt (aBC k) ≤ 65535) → post aAY aBC) : wp_X5_lookAs post p0 p1 oY rD dN bD uU gF qF mX oE dY jE eW eY := by
  have l0 := aE0
  have l1 := aEc
  have l2 := li_2
  intro v25 ev25
  have hv25 := congrArg Int32.toInt ev25
  intro v27 ev27
  have hv27 := congrArg Int32.toInt ev27
  have f30 := aAT v27
  have f31 : Int32.toInt (0 * (dY (2 : Int32).toNatClampNeg)) = Int32.toInt (dY (2 : Int32).toNatClampNeg) * 0 := ta_cmul _ _ (by decide) (by omega)
  have f29 : Int32.toInt (v27 + (0 * (dY (2 : Int32).toNatClampNeg))) = Int32.toInt v27 + Int32.toInt (0 * (dY (2 : Int32).toNatClampNeg)) := aAD _ _ (by omega)
  exact ⟨10, tb_X5_lookAs_13 dN bD uU gF qF mX oE dY jE eW eY xL wX hpost _ p1 (v27 + (0 * (dY (2 : Int32).toNatClampNeg))) 0 oY rD h_p1 (by omega) aAE zR (by omega)⟩
set_option maxHeartbeats 8000000 in
set_option maxRecDepth 200000 in
theorem t_X9_both {post : Int32 → Int32 → (Nat → Int32) → Int32 → (Nat → Int32) → Prop} {p0 p1 oY : Int32} {rD : Nat → Int32} {dN bD : Int32} {uU gF qF mX oE dY : Nat → Int32} {jE eW eY gJ jG qB : Int32} {jK : Nat → Int32} (aAE : 0 ≤ Int32.toInt oY ∧ Int32.toInt oY ≤ 65535) (zR : ∀ k : Nat, 0 ≤ Int32.toInt (rD k) ∧ Int32.toInt (rD k) ≤ 65535) (xL : 0 ≤ Int32.toInt dN ∧ Int32.toInt dN ≤ 16) (wX : 0 ≤ Int32.toInt bD ∧ Int32.toInt bD ≤ 8) (zK : 0 ≤ Int32.toInt jG ∧ Int32.toInt jG ≤ 9) (aAK : 0 ≤ Int32.toInt qB ∧ Int32.toInt qB ≤ 16) (hpost : ∀ (r : Int32) (aAY : Int32) (aBC : Nat → Int32) (zV : Int32) (aAV : Nat → Int32), (-1 ≤ Int32.toInt r ∧ Int32.toInt r ≤ 65535) → (0 ≤ Int32.toInt aAY ∧ Int32.toInt aAY ≤ 65535) → (∀ k : Nat, 0 ≤ Int32.toInt (aBC k) ∧ Int32.toInt (aBC k) ≤ 65535) → (0 ≤ Int32.toInt zV ∧ Int32.toInt zV ≤ 16) → post r aAY aBC zV aAV) : wp_X9_both post p0 p1 oY rD dN bD uU gF qF mX oE dY jE eW eY gJ jG qB jK := by
  have l0 := aI2
  have l1 := aE0
  have l2 := aEc
  have l3 := li_16
  have f2 := aAT p0
  refine And.intro (fun c1 => ?_) (fun c1 => ?_)
  · skip
    have c1 := (aAd _ _).mp c1
    refine And.intro (fun _ => ?_) (fun h9 => absurd h9 (by decide))
    exact hpost _ _ _ _ _ (by omega) aAE zR aAK
  · skip
    have c1 := mt (aAd _ _).mpr c1
    refine And.intro (fun c3 => ?_) (fun c3 => ?_)
    · skip
      have c3 := (aAO _ _).mp c3
      refine And.intro (fun _ => ?_) (fun h9 => absurd h9 (by decide))
      exact hpost _ _ _ _ _ (by omega) aAE zR aAK
    · skip
      have c3 := mt (aAO _ _).mpr c3
      refine And.intro (fun h9 => absurd h9 (by decide)) (fun _ => ?_)
      have f5 := aAT p1
      refine And.intro (fun c4 => ?_) (fun c4 => ?_)
      · skip
        have c4 := (aAd _ _).mp c4
        refine And.intro (fun _ => ?_) (fun h9 => absurd h9 (by decide))
        exact hpost _ _ _ _ _ (by omega) aAE zR aAK
      · skip
        have c4 := mt (aAd _ _).mpr c4
        refine And.intro (fun c6 => ?_) (fun c6 => ?_)
        · skip
          have c6 := (aAO _ _).mp c6
          refine And.intro (fun _ => ?_) (fun h9 => absurd h9 (by decide))
          exact hpost _ _ _ _ _ (by omega) aAE zR aAK
        · skip
          have c6 := mt (aAO _ _).mpr c6
          refine And.intro (fun h9 => absurd h9 (by decide)) (fun _ => ?_)
          refine And.intro (fun c7 => ?_) (fun c7 => ?_)
          · skip
            have c7 := mt (zJ _ _).mpr c7
            refine aVe zK aAE zR xL wX (fun pl_wanted_8 pl_near_9 h_pl_wanted_8 h_pl_near_9 => ?_)
            refine And.intro (aBZ (by omega)) ?_
            refine And.intro (aBZ (by omega)) ?_
            intro v10 ev10
            have f13 := h_pl_near_9 p0.toNatClampNeg
            have f12 := aAQ pl_wanted_8 (pl_near_9 p0.toNatClampNeg) (by omega)
            have f14 := aBx pl_wanted_8 (pl_near_9 p0.toNatClampNeg) (by omega)
            have f15 := aBx (pl_wanted_8 &&& (pl_near_9 p0.toNatClampNeg)) ((pl_wanted_8 &&& (pl_near_9 p1.toNatClampNeg)) ^^^ (-1)) (by omega)
            have hv10 := congrArg Int32.toInt ev10
            intro v16 ev16
            have f19 := h_pl_near_9 p1.toNatClampNeg
            have f18 := aAQ pl_wanted_8 (pl_near_9 p1.toNatClampNeg) (by omega)
            have f20 := aBx pl_wanted_8 (pl_near_9 p1.toNatClampNeg) (by omega)
            have f21 := aBx (pl_wanted_8 &&& (pl_near_9 p1.toNatClampNeg)) ((pl_wanted_8 &&& (pl_near_9 p0.toNatClampNeg)) ^^^ (-1)) (by omega)
            have hv16 := congrArg Int32.toInt ev16
            refine And.intro (fun h9 => absurd h9 (by decide)) (fun _ => ?_)
            refine And.intro (aBZ (by omega)) ?_
            intro v22 ev22
            have f23 : Int32.toInt (0 + 1) = Int32.toInt (0 : Int32) + Int32.toInt (1 : Int32) := aAD _ _ (by omega)
            rw [← ev22] at f23
            refine And.intro (fun c24 => ?_) (fun c24 => ?_)
            · skip
              have c24 := (aAO _ _).mp c24
              exfalso; omega
            · skip
              have c24 := mt (aAO _ _).mpr c24
              refine And.intro (aBZ (by omega)) ?_
              intro v25 ev25
              have f26 : Int32.toInt (v22 + 1) = Int32.toInt v22 + Int32.toInt (1 : Int32) := aAD _ _ (by omega)
              rw [← ev25] at f26
              have f27 := aAQ (pl_wanted_8 &&& (pl_near_9 p0.toNatClampNeg)) (pl_wanted_8 &&& (pl_near_9 p1.toNatClampNeg)) (by omega)
              have f28 := aBx (pl_wanted_8 &&& (pl_near_9 p0.toNatClampNeg)) (pl_wanted_8 &&& (pl_near_9 p1.toNatClampNeg)) (by omega)
              exact hpost _ _ _ _ _ (by omega) h_pl_wanted_8 h_pl_near_9 (by omega)
          · skip
            have c7 := (zJ _ _).mp c7
            exact hpost _ _ _ _ _ (by omega) aAE zR aAK
set_option maxHeartbeats 8000000 in
set_option maxRecDepth 200000 in
theorem ts_X3_leanNeeded_2 {post : Int32 → Prop} {next : Int32 → Int32 → Int32 → Prop} {n2 : Int} (uU gF mX oE dY : Nat → Int32) (hpost : ∀ (r : Int32) , (-2 ≤ Int32.toInt r ∧ Int32.toInt r ≤ 30) → post r) (hKn : ∀ (x1 : Int32) (x2 : Int32) (x3 : Int32), (0 ≤ Int32.toInt x1 ∧ Int32.toInt x1 ≤ 15) → (0 ≤ Int32.toInt x2 ∧ Int32.toInt x2 ≤ 7) → (0 ≤ Int32.toInt x3 ∧ Int32.toInt x3 ≤ 31) → (31 - Int32.toInt x3 < n2) → next x1 x2 x3) (x1 x2 x3 : Int32) (aBK : 0 ≤ Int32.toInt x1 ∧ Int32.toInt x1 ≤ 15) (aBN : 0 ≤ Int32.toInt x2 ∧ Int32.toInt x2 ≤ 7) (aCH : 0 ≤ Int32.toInt x3 ∧ Int32.toInt x3 ≤ 31) (hn2 : 31 - Int32.toInt x3 ≤ n2) : ws_X3_leanNeeded_2 post next uU gF mX oE dY x1 x2 x3 := by
  have l0 := li_m2
  have l1 := aE0
  have l2 := aEc
  have l3 := li_30
  refine And.intro (fun c1 => ?_) (fun c1 => ?_)
  · skip
    have c1 := (aAd _ _).mp c1
    exact hpost _ (by omega)
  · skip
    have c1 := mt (aAd _ _).mpr c1
    intro v2 ev2
    have hv2 := congrArg Int32.toInt ev2
    intro v4 ev4
    have hv4 := congrArg Int32.toInt ev4
    refine And.intro (aBZ (by omega)) ?_
    intro v6 ev6
    have hv6 := congrArg Int32.toInt ev6
    refine And.intro (aBZ (by omega)) ?_
    have f9 := aAT v6
    refine And.intro (fun c8 => ?_) (fun c8 => ?_)
    · skip
      have c8 := (aAO _ _).mp c8
      refine And.intro (aBZ (by omega)) ?_
      intro v11 ev11
      have hv11 := congrArg Int32.toInt ev11
      refine And.intro (aBZ (by omega)) ?_
      refine And.intro (aBZ (by omega)) ?_
      intro v12 ev12
      have hv12 := congrArg Int32.toInt ev12
      refine And.intro (aBZ (by omega)) ?_
      have f15 := aAT v12
      refine And.intro (fun c14 => ?_) (fun c14 => ?_)
      · skip
        have c14 := (aAO _ _).mp c14
        intro v17 ev17
        have hv17 := congrArg Int32.toInt ev17
        intro v19 ev19
        have f21 := aAT v17
        have f22 : Int32.toInt (0 * 0) = Int32.toInt (0 : Int32) * 0 := ta_mulc _ _ (by decide) (by omega)
        have f20 : Int32.toInt (v17 + (0 * 0)) = Int32.toInt v17 + Int32.toInt (0 * 0) := aAD _ _ (by omega)
        rw [← ev19] at f20
        have f24 := aAT v19
        refine And.intro (fun c23 => ?_) (fun c23 => ?_)
        · skip
          have c23 := (aAd _ _).mp c23
          refine And.intro (fun _ => ?_) (fun h9 => absurd h9 (by decide))
          intro v26 ev26
          have f27 : Int32.toInt (x3 + 1) = Int32.toInt x3 + Int32.toInt (1 : Int32) := aAD _ _ (by omega)
          rw [← ev26] at f27
          exact hKn x1 x2 v26 aBK aBN (by omega) (by omega)
        · skip
          have c23 := mt (aAd _ _).mpr c23
          refine And.intro (fun h9 => absurd h9 (by decide)) (fun _ => ?_)
          exact hpost _ (by omega)
      · skip
        have c14 := mt (aAO _ _).mpr c14
        refine And.intro (aBZ (by omega)) ?_
        intro v28 ev28
        have hv28 := congrArg Int32.toInt ev28
        refine And.intro (aBZ (by omega)) ?_
        intro v29 ev29
        have hv29 := congrArg Int32.toInt ev29
        intro v31 ev31
        have hv31 := congrArg Int32.toInt ev31
        intro v33 ev33
        have hv33 := congrArg Int32.toInt ev33
        have f36 := aAT v33
        refine And.intro (fun c35 => ?_) (fun c35 => ?_)
        · skip
          have c35 := (aAd _ _).mp c35
          refine And.intro (fun _ => ?_) (fun h9 => absurd h9 (by decide))
          intro v38 ev38
          have f39 : Int32.toInt (x3 + 1) = Int32.toInt x3 + Int32.toInt (1 : Int32) := aAD _ _ (by omega)
          rw [← ev38] at f39
          exact hKn x1 x2 v38 aBK aBN (by omega) (by omega)
        · skip
          have c35 := mt (aAd _ _).mpr c35
          refine And.intro (fun h9 => absurd h9 (by decide)) (fun _ => ?_)
          exact hpost _ (by omega)
    · skip
      have c8 := mt (aAO _ _).mpr c8
      refine And.intro (aBZ (by omega)) ?_
      intro v40 ev40
      have hv40 := congrArg Int32.toInt ev40
      refine And.intro (aBZ (by omega)) ?_
      intro v41 ev41
      have hv41 := congrArg Int32.toInt ev41
      refine And.intro (aBZ (by omega)) ?_
      intro v43 ev43
      have hv43 := congrArg Int32.toInt ev43
      refine And.intro (aBZ (by omega)) ?_
      have f46 := aAT v43
      refine And.intro (fun c45 => ?_) (fun c45 => ?_)
      · skip
        have c45 := (aAO _ _).mp c45
        intro v48 ev48
        have hv48 := congrArg Int32.toInt ev48
        intro v50 ev50
        have f52 := aAT v48
        have f53 : Int32.toInt (0 * 0) = Int32.toInt (0 : Int32) * 0 := ta_mulc _ _ (by decide) (by omega)
        have f51 : Int32.toInt (v48 + (0 * 0)) = Int32.toInt v48 + Int32.toInt (0 * 0) := aAD _ _ (by omega)
        rw [← ev50] at f51
        have f55 := aAT v50
        refine And.intro (fun c54 => ?_) (fun c54 => ?_)
        · skip
          have c54 := (aAd _ _).mp c54
          refine And.intro (fun _ => ?_) (fun h9 => absurd h9 (by decide))
          intro v57 ev57
          have f58 : Int32.toInt (x3 + 1) = Int32.toInt x3 + Int32.toInt (1 : Int32) := aAD _ _ (by omega)
          rw [← ev57] at f58
          exact hKn x1 x2 v57 aBK aBN (by omega) (by omega)
        · skip
          have c54 := mt (aAd _ _).mpr c54
          refine And.intro (fun h9 => absurd h9 (by decide)) (fun _ => ?_)
          exact hpost _ (by omega)
      · skip
        have c45 := mt (aAO _ _).mpr c45
        refine And.intro (aBZ (by omega)) ?_
        intro v59 ev59
        have hv59 := congrArg Int32.toInt ev59
        refine And.intro (aBZ (by omega)) ?_
        intro v60 ev60
        have hv60 := congrArg Int32.toInt ev60
        intro v62 ev62
        have hv62 := congrArg Int32.toInt ev62
        intro v64 ev64
        have hv64 := congrArg Int32.toInt ev64
        have f67 := aAT v64
        refine And.intro (fun c66 => ?_) (fun c66 => ?_)
        · skip
          have c66 := (aAd _ _).mp c66
          refine And.intro (fun _ => ?_) (fun h9 => absurd h9 (by decide))
          intro v69 ev69
          have f70 : Int32.toInt (x3 + 1) = Int32.toInt x3 + Int32.toInt (1 : Int32) := aAD _ _ (by omega)
          rw [← ev69] at f70
          exact hKn x1 x2 v69 aBK aBN (by omega) (by omega)
        · skip
          have c66 := mt (aAd _ _).mpr c66
          refine And.intro (fun h9 => absurd h9 (by decide)) (fun _ => ?_)
          exact hpost _ (by omega)
set_option maxHeartbeats 8000000 in
set_option maxRecDepth 200000 in
theorem tb_X3_leanNeeded_2 {post : Int32 → Prop} (uU gF mX oE dY : Nat → Int32) (hpost : ∀ (r : Int32) , (-2 ≤ Int32.toInt r ∧ Int32.toInt r ≤ 30) → post r) : ∀ (n : Nat) (x1 x2 x3 : Int32), (0 ≤ Int32.toInt x1 ∧ Int32.toInt x1 ≤ 15) → (0 ≤ Int32.toInt x2 ∧ Int32.toInt x2 ≤ 7) → (0 ≤ Int32.toInt x3 ∧ Int32.toInt x3 ≤ 31) → (31 - Int32.toInt x3 < (n : Int)) → wb_X3_leanNeeded_2 post uU gF mX oE dY n x1 x2 x3 := by
  intro n
  induction n with
  | zero =>
    intro x1 x2 x3 aBK aBN aCH hm
    exfalso; omega
  | succ n ih =>
    intro x1 x2 x3 aBK aBN aCH hm
    exact ts_X3_leanNeeded_2 uU gF mX oE dY hpost ih x1 x2 x3 aBK aBN aCH (by omega)
set_option maxHeartbeats 8000000 in
set_option maxRecDepth 200000 in
theorem t_X3_leanNeeded {post : Int32 → Prop} {p0 p1 : Int32} {uU gF mX oE dY : Nat → Int32} (h_p0 : 0 ≤ Int32.toInt p0 ∧ Int32.toInt p0 ≤ 15) (h_p1 : 0 ≤ Int32.toInt p1 ∧ Int32.toInt p1 ≤ 7) (hpost : ∀ (r : Int32) , (-2 ≤ Int32.toInt r ∧ Int32.toInt r ≤ 30) → post r) : bCY post p0 p1 uU gF mX oE dY := by
  have l0 := aE0
  exact ⟨33, tb_X3_leanNeeded_2 uU gF mX oE dY hpost _ p0 p1 0 h_p0 h_p1 (by omega) (by omega)⟩
set_option maxHeartbeats 8000000 in
set_option maxRecDepth 200000 in
theorem ts_X9_nearest_63 {post : Int32 → Int32 → (Nat → Int32) → Prop} {K22 : Int32 → Int32 → Int32 → Int32 → Int32 → (Nat → Int32) → Prop} {n22 : Int} (dN bD : Int32) (uU gF mX oE dY : Nat → Int32) (xL : 0 ≤ Int32.toInt dN ∧ Int32.toInt dN ≤ 16) (wX : 0 ≤ Int32.toInt bD ∧ Int32.toInt bD ≤ 8) (hpost : ∀ (r : Int32) (zV : Int32) (aAV : Nat → Int32), (-2 ≤ Int32.toInt r ∧ Int32.toInt r ≤ 7) → (0 ≤ Int32.toInt zV ∧ Int32.toInt zV ≤ 16) → post r zV aAV) (hK22 : ∀ (x1 : Int32) (x2 : Int32) (x3 : Int32) (x4 : Int32) (qB : Int32) (jK : Nat → Int32), (0 ≤ Int32.toInt x1 ∧ Int32.toInt x1 ≤ 15) → (-2 ≤ Int32.toInt x2 ∧ Int32.toInt x2 ≤ 7) → (0 ≤ Int32.toInt x3 ∧ Int32.toInt x3 ≤ 31) → (0 ≤ Int32.toInt x4 ∧ Int32.toInt x4 ≤ 8) → (0 ≤ Int32.toInt qB ∧ Int32.toInt qB ≤ 16) → (8 - Int32.toInt x4 < n22) → K22 x1 x2 x3 x4 qB jK) (x1 x2 x3 x4 qB : Int32) (jK : Nat → Int32) (aBK : 0 ≤ Int32.toInt x1 ∧ Int32.toInt x1 ≤ 15) (aBN : -2 ≤ Int32.toInt x2 ∧ Int32.toInt x2 ≤ 7) (aCH : 0 ≤ Int32.toInt x3 ∧ Int32.toInt x3 ≤ 31) (aDO : 0 ≤ Int32.toInt x4 ∧ Int32.toInt x4 ≤ 7) (aAK : 0 ≤ Int32.toInt qB ∧ Int32.toInt qB ≤ 16) (hn22 : 8 - Int32.toInt x4 ≤ n22) : bCa post K22 dN bD uU gF mX oE dY x1 x2 x3 x4 qB jK := by
  have l0 := aEc
  intro v1 ev1
  have f2 : Int32.toInt (x4 + 1) = Int32.toInt x4 + Int32.toInt (1 : Int32) := aAD _ _ (by omega)
  rw [← ev1] at f2
  exact hK22 x1 x2 x3 v1 qB jK aBK aBN aCH (by omega) aAK (by omega)
set_option maxHeartbeats 8000000 in
set_option maxRecDepth 200000 in
theorem ts_X9_nearest_22 {post : Int32 → Int32 → (Nat → Int32) → Prop} {next : Int32 → Int32 → Int32 → Int32 → Int32 → (Nat → Int32) → Prop} {n22 : Int} (dN bD : Int32) (uU gF mX oE dY : Nat → Int32) (xL : 0 ≤ Int32.toInt dN ∧ Int32.toInt dN ≤ 16) (wX : 0 ≤ Int32.toInt bD ∧ Int32.toInt bD ≤ 8) (hpost : ∀ (r : Int32) (zV : Int32) (aAV : Nat → Int32), (-2 ≤ Int32.toInt r ∧ Int32.toInt r ≤ 7) → (0 ≤ Int32.toInt zV ∧ Int32.toInt zV ≤ 16) → post r zV aAV) (hKn : ∀ (x1 : Int32) (x2 : Int32) (x3 : Int32) (x4 : Int32) (qB : Int32) (jK : Nat → Int32), (0 ≤ Int32.toInt x1 ∧ Int32.toInt x1 ≤ 15) → (-2 ≤ Int32.toInt x2 ∧ Int32.toInt x2 ≤ 7) → (0 ≤ Int32.toInt x3 ∧ Int32.toInt x3 ≤ 31) → (0 ≤ Int32.toInt x4 ∧ Int32.toInt x4 ≤ 8) → (0 ≤ Int32.toInt qB ∧ Int32.toInt qB ≤ 16) → (8 - Int32.toInt x4 < n22) → next x1 x2 x3 x4 qB jK) (x1 x2 x3 x4 qB : Int32) (jK : Nat → Int32) (aBK : 0 ≤ Int32.toInt x1 ∧ Int32.toInt x1 ≤ 15) (aBN : -2 ≤ Int32.toInt x2 ∧ Int32.toInt x2 ≤ 7) (aCH : 0 ≤ Int32.toInt x3 ∧ Int32.toInt x3 ≤ 31) (aDO : 0 ≤ Int32.toInt x4 ∧ Int32.toInt x4 ≤ 8) (aAK : 0 ≤ Int32.toInt qB ∧ Int32.toInt qB ≤ 16) (hn22 : 8 - Int32.toInt x4 ≤ n22) : ws_X9_nearest_22 post next dN bD uU gF mX oE dY x1 x2 x3 x4 qB jK := by
  have l0 := aE0
  have l1 := aEc
  refine And.intro (fun c3 => ?_) (fun c3 => ?_)
  · skip
    have c3 := (aAO _ _).mp c3
    refine And.intro (fun c4 => ?_) (fun c4 => ?_)
    · skip
      have c4 := (aAd _ _).mp c4
      exact hpost _ _ _ aBN aAK
    · skip
      have c4 := mt (aAd _ _).mpr c4
      refine And.intro (fun h9 => absurd h9 (by decide)) (fun _ => ?_)
      refine And.intro (aBZ (by omega)) ?_
      intro v5 ev5
      have f6 : Int32.toInt (0 + 1) = Int32.toInt (0 : Int32) + Int32.toInt (1 : Int32) := aAD _ _ (by omega)
      rw [← ev5] at f6
      exact hpost _ _ _ aBN (by omega)
  · skip
    have c3 := mt (aAO _ _).mpr c3
    refine t_X3_leanNeeded aBK (by omega) (fun r7 h_r7 => ?_)
    refine And.intro (fun c8 => ?_) (fun c8 => ?_)
    · skip
      have c8 := (aAd _ _).mp c8
      exact ts_X9_nearest_63 dN bD uU gF mX oE dY xL wX hpost hKn x1 x2 x3 x4 qB jK aBK aBN aCH (by omega) aAK hn22
    · skip
      have c8 := mt (aAd _ _).mpr c8
      refine And.intro (fun c9 => ?_) (fun c9 => ?_)
      · skip
        have c9 := (aAO _ _).mp c9
        exact ts_X9_nearest_63 dN bD uU gF mX oE dY xL wX hpost hKn x1 x2 x3 x4 qB jK aBK aBN aCH (by omega) aAK hn22
      · skip
        have c9 := mt (aAO _ _).mpr c9
        exact ts_X9_nearest_63 dN bD uU gF mX oE dY xL wX hpost hKn x1 x4 r7 x4 qB jK aBK (by omega) (by omega) (by omega) aAK hn22
set_option maxHeartbeats 8000000 in
set_option maxRecDepth 200000 in
theorem tb_X9_nearest_22 {post : Int32 → Int32 → (Nat → Int32) → Prop} (dN bD : Int32) (uU gF mX oE dY : Nat → Int32) (xL : 0 ≤ Int32.toInt dN ∧ Int32.toInt dN ≤ 16) (wX : 0 ≤ Int32.toInt bD ∧ Int32.toInt bD ≤ 8) (hpost : ∀ (r : Int32) (zV : Int32) (aAV : Nat → Int32), (-2 ≤ Int32.toInt r ∧ Int32.toInt r ≤ 7) → (0 ≤ Int32.toInt zV ∧ Int32.toInt zV ≤ 16) → post r zV aAV) : ∀ (n : Nat) (x1 x2 x3 x4 qB : Int32) (jK : Nat → Int32), (0 ≤ Int32.toInt x1 ∧ Int32.toInt x1 ≤ 15) → (-2 ≤ Int32.toInt x2 ∧ Int32.toInt x2 ≤ 7) → (0 ≤ Int32.toInt x3 ∧ Int32.toInt x3 ≤ 31) → (0 ≤ Int32.toInt x4 ∧ Int32.toInt x4 ≤ 8) → (0 ≤ Int32.toInt qB ∧ Int32.toInt qB ≤ 16) → (8 - Int32.toInt x4 < (n : Int)) → wb_X9_nearest_22 post dN bD uU gF mX oE dY n x1 x2 x3 x4 qB jK := by
  intro n
  induction n with
  | zero =>
    intro x1 x2 x3 x4 qB jK aBK aBN aCH aDO aAK hm
    exfalso; omega
  | succ n ih =>
    intro x1 x2 x3 x4 qB jK aBK aBN aCH aDO aAK hm
    exact ts_X9_nearest_22 dN bD uU gF mX oE dY xL wX hpost ih x1 x2 x3 x4 qB jK aBK aBN aCH aDO aAK (by omega)
set_option maxHeartbeats 8000000 in
set_option maxRecDepth 200000 in
theorem t_X9_nearest {post : Int32 → Int32 → (Nat → Int32) → Prop} {p0 dN bD : Int32} {uU gF mX oE dY : Nat → Int32} {qB : Int32} {jK : Nat → Int32} (xL : 0 ≤ Int32.toInt dN ∧ Int32.toInt dN ≤ 16) (wX : 0 ≤ Int32.toInt bD ∧ Int32.toInt bD ≤ 8) (aAK : 0 ≤ Int32.toInt qB ∧ Int32.toInt qB ≤ 16) (hpost : ∀ (r : Int32) (zV : Int32) (aAV : Nat → Int32), (-2 ≤ Int32.toInt r ∧ Int32.toInt r ≤ 7) → (0 ≤ Int32.toInt zV ∧ Int32.toInt zV ≤ 16) → post r zV aAV) : wp_X9_nearest post p0 dN bD uU gF mX oE dY qB jK := by
  have l0 := aI2
  have l1 := li_m2
  have l2 := aE0
  have l3 := li_31
  have f11 := aAT p0
  refine And.intro (fun c10 => ?_) (fun c10 => ?_)
  · skip
    have c10 := (aAd _ _).mp c10
    refine And.intro (fun h9 => absurd h9 (by decide)) (fun _ => ?_)
    exact hpost _ _ _ (by omega) aAK
  · skip
    have c10 := mt (aAd _ _).mpr c10
    refine And.intro (fun c12 => ?_) (fun c12 => ?_)
    · skip
      have c12 := (aAO _ _).mp c12
      refine And.intro (fun h9 => absurd h9 (by decide)) (fun _ => ?_)
      exact hpost _ _ _ (by omega) aAK
    · skip
      have c12 := mt (aAO _ _).mpr c12
      refine And.intro (fun _ => ?_) (fun h9 => absurd h9 (by decide))
      exact ⟨10, tb_X9_nearest_22 dN bD uU gF mX oE dY xL wX hpost _ p0 (-2) 31 0 qB jK (by omega) (by omega) (by omega) (by omega) aAK (by omega)⟩
