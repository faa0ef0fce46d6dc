set_option maxHeartbeats 8000000 in
set_option maxRecDepth 200000 in
theorem t_X9_work {post : Int32 → Int32 → Int32 → Int32 → Int32 → (Nat → Int32) → (Nat → Int32) → (Nat → Int32) → (Nat → Int32) → (Nat → Int32) → Int32 → (Nat → Int32) → Prop} {p0 oY rJ pX rO : Int32} {rD sG vQ : Nat → Int32} {dN bD : Int32} {uU gF pL qF mX oE dY : Nat → Int32} {jE eW eY dU fY gJ jG pQ : Int32} {qY qU pN : Nat → Int32} {qB : Int32} {jK : Nat → Int32} (aAE : 0 ≤ Int32.toInt oY ∧ Int32.toInt oY ≤ 65535) (zR : ∀ k : Nat, 0 ≤ Int32.toInt (rD k) ∧ Int32.toInt (rD k) ≤ 65535) (aAX : ∀ k : Nat, 0 ≤ Int32.toInt (sG k) ∧ Int32.toInt (sG k) ≤ 99) (xL : 0 ≤ Int32.toInt dN ∧ Int32.toInt dN ≤ 16) (wX : 0 ≤ Int32.toInt bD ∧ Int32.toInt bD ≤ 8) (aAC : -1 ≤ Int32.toInt fY ∧ Int32.toInt fY ≤ 7) (zK : 0 ≤ Int32.toInt jG ∧ Int32.toInt jG ≤ 9) (zU : 0 ≤ Int32.toInt pQ ∧ Int32.toInt pQ ≤ 40) (aAK : 0 ≤ Int32.toInt qB ∧ Int32.toInt qB ≤ 16) (hpost : ∀ (r : Int32) (aAY : Int32) (aJV : Int32) (aGc : Int32) (aJU : Int32) (aBC : Nat → Int32) (aC9 : Nat → Int32) (aLu : Nat → Int32) (aCG : Nat → Int32) (aB4 : Nat → Int32) (zV : Int32) (aAV : Nat → Int32), (0 ≤ Int32.toInt aAY ∧ Int32.toInt aAY ≤ 65535) → (∀ k : Nat, 0 ≤ Int32.toInt (aBC k) ∧ Int32.toInt (aBC k) ≤ 65535) → (∀ k : Nat, 0 ≤ Int32.toInt (aC9 k) ∧ Int32.toInt (aC9 k) ≤ 99) → (0 ≤ Int32.toInt zV ∧ Int32.toInt zV ≤ 16) → post r aAY aJV aGc aJU aBC aC9 aLu aCG aB4 zV aAV) : wp_X9_work post p0 oY rJ pX rO rD sG vQ dN bD uU gF pL qF mX oE dY jE eW eY dU fY gJ jG pQ qY qU pN qB jK := by
  have l0 := aE0
  have l1 := aEc
  have l2 := li_16
  intro v1 ev1
  have f2 := aDv 8 256 bD (by decide) (by omega)
  have hv1 := congrArg Int32.toInt ev1
  refine And.intro (fun c3 => ?_) (fun c3 => ?_)
  · skip
    have c3 := mt (zJ _ _).mpr c3
    refine And.intro (fun h9 => absurd h9 (by decide)) (fun _ => ?_)
    exact hpost _ _ _ _ _ _ _ _ _ _ _ _ aAE zR aAX aAK
  · skip
    have c3Z := c3
    have c3 := (zJ _ _).mp c3
    have f5 : Int32.toInt (v1 - 1) = Int32.toInt v1 - Int32.toInt (1 : Int32) := aCA _ _ (by omega)
    have s6 := ti_subset p0 (v1 - 1) (c3Z) (by omega)
    refine And.intro (fun _ => ?_) (fun h9 => absurd h9 (by decide))
    refine aVe zK aAE zR xL wX (fun pl_wanted_7 pl_near_8 h_pl_wanted_7 h_pl_near_8 => ?_)
    refine t_X5_timeAll h_pl_wanted_7 h_pl_near_8 aAX xL wX zU (fun pl_seconds_9 ru_given_10 ru_stack_11 h_pl_seconds_9 => ?_)
    refine t_X5_workSeconds (by omega) h_pl_wanted_7 h_pl_near_8 h_pl_seconds_9 xL wX aAC (fun r16 pl_moves_12 pl_picking_13 pl_downs_14 pl_many_15 => ?_)
    refine And.intro (fun h9 => absurd h9 (by decide)) (fun _ => ?_)
    refine And.intro (aBZ (by omega)) ?_
    intro v17 ev17
    have f18 : Int32.toInt (0 + 1) = Int32.toInt (0 : Int32) + Int32.toInt (1 : Int32) := aAD _ _ (by omega)
    rw [← ev17] at f18
    refine And.intro (fun c19 => ?_) (fun c19 => ?_)
    · skip
      have c19 := (aAO _ _).mp c19
      exfalso; omega
    · skip
      have c19 := mt (aAO _ _).mpr c19
      refine And.intro (aBZ (by omega)) ?_
      intro v20 ev20
      have f21 : Int32.toInt (v17 + 1) = Int32.toInt v17 + Int32.toInt (1 : Int32) := aAD _ _ (by omega)
      rw [← ev20] at f21
      refine And.intro (fun c22 => ?_) (fun c22 => ?_)
      · skip
        have c22 := (aAO _ _).mp c22
        exfalso; omega
      · skip
        have c22 := mt (aAO _ _).mpr c22
        refine And.intro (aBZ (by omega)) ?_
        intro v23 ev23
        have f24 : Int32.toInt (v20 + 1) = Int32.toInt v20 + Int32.toInt (1 : Int32) := aAD _ _ (by omega)
        rw [← ev23] at f24
        exact hpost _ _ _ _ _ _ _ _ _ _ _ _ h_pl_wanted_7 h_pl_near_8 h_pl_seconds_9 (by omega)
set_option maxHeartbeats 8000000 in
set_option maxRecDepth 200000 in
theorem ts_X9_soonest_100 {post : Int32 → Int32 → Int32 → Int32 → Int32 → (Nat → Int32) → (Nat → Int32) → (Nat → Int32) → (Nat → Int32) → (Nat → Int32) → Int32 → (Nat → Int32) → Prop} {K33 : Int32 → Int32 → Int32 → Int32 → Int32 → Int32 → Int32 → (Nat → Int32) → (Nat → Int32) → (Nat → Int32) → (Nat → Int32) → (Nat → Int32) → Int32 → (Nat → Int32) → Prop} {n33 : Int} (dN bD : Int32) (uU gF pL qF mX oE dY : Nat → Int32) (jE eW eY dU fY gJ jG pQ : Int32) (pN : Nat → Int32) (xL : 0 ≤ Int32.toInt dN ∧ Int32.toInt dN ≤ 16) (wX : 0 ≤ Int32.toInt bD ∧ Int32.toInt bD ≤ 8) (aAC : -1 ≤ Int32.toInt fY ∧ Int32.toInt fY ≤ 7) (zK : 0 ≤ Int32.toInt jG ∧ Int32.toInt jG ≤ 9) (zU : 0 ≤ Int32.toInt pQ ∧ Int32.toInt pQ ≤ 40) (hpost : ∀ (r : Int32) (aAY : Int32) (aJV : Int32) (aGc : Int32) (aJU : Int32) (aBC : Nat → Int32) (aC9 : Nat → Int32) (aLu : Nat → Int32) (aCG : Nat → Int32) (aB4 : Nat → Int32) (zV : Int32) (aAV : Nat → Int32), (0 ≤ Int32.toInt aAY ∧ Int32.toInt aAY ≤ 65535) → (∀ k : Nat, 0 ≤ Int32.toInt (aBC k) ∧ Int32.toInt (aBC k) ≤ 65535) → (∀ k : Nat, 0 ≤ Int32.toInt (aC9 k) ∧ Int32.toInt (aC9 k) ≤ 99) → (1 ≤ Int32.toInt zV ∧ Int32.toInt zV ≤ 1) → post r aAY aJV aGc aJU aBC aC9 aLu aCG aB4 zV aAV) (hK33 : ∀ (x1 : Int32) (x2 : Int32) (x3 : Int32) (oY : Int32) (rJ : Int32) (pX : Int32) (rO : Int32) (rD : Nat → Int32) (sG : Nat → Int32) (vQ : Nat → Int32) (qY : Nat → Int32) (qU : Nat → Int32) (qB : Int32) (jK : Nat → Int32), (0 ≤ Int32.toInt x1 ∧ Int32.toInt x1 ≤ 255) → (0 ≤ Int32.toInt x3 ∧ Int32.toInt x3 ≤ 256) → (0 ≤ Int32.toInt oY ∧ Int32.toInt oY ≤ 65535) → (∀ k : Nat, 0 ≤ Int32.toInt (rD k) ∧ Int32.toInt (rD k) ≤ 65535) → (∀ k : Nat, 0 ≤ Int32.toInt (sG k) ∧ Int32.toInt (sG k) ≤ 99) → (0 ≤ Int32.toInt qB ∧ Int32.toInt qB ≤ 16) → (256 - Int32.toInt x3 < n33) → K33 x1 x2 x3 oY rJ pX rO rD sG vQ qY qU qB jK) (x1 x2 x3 oY rJ pX rO : Int32) (rD sG vQ qY qU : Nat → Int32) (qB : Int32) (jK : Nat → Int32) (aBK : 0 ≤ Int32.toInt x1 ∧ Int32.toInt x1 ≤ 255) (aCH : 0 ≤ Int32.toInt x3 ∧ Int32.toInt x3 ≤ 255) (aAE : 0 ≤ Int32.toInt oY ∧ Int32.toInt oY ≤ 65535) (zR : ∀ k : Nat, 0 ≤ Int32.toInt (rD k) ∧ Int32.toInt (rD k) ≤ 65535) (aAX : ∀ k : Nat, 0 ≤ Int32.toInt (sG k) ∧ Int32.toInt (sG k) ≤ 99) (aAK : 0 ≤ Int32.toInt qB ∧ Int32.toInt qB ≤ 16) (hn33 : 256 - Int32.toInt x3 ≤ n33) : ws_X9_soonest_100 post K33 dN bD uU gF pL qF mX oE dY jE eW eY dU fY gJ jG pQ pN x1 x2 x3 oY rJ pX rO rD sG vQ qY qU qB jK := by
  have l0 := aEc
  intro v1 ev1
  have f2 : Int32.toInt (x3 + 1) = Int32.toInt x3 + Int32.toInt (1 : Int32) := aAD _ _ (by omega)
  rw [← ev1] at f2
  have f3 := aAT x2
  have f4 := aAT rJ
  have f5 := aAT pX
  have f6 := aAT rO
  exact hK33 x1 x2 v1 oY rJ pX rO rD sG vQ qY qU qB jK aBK (by omega) aAE zR aAX aAK (by omega)
set_option maxHeartbeats 8000000 in
set_option maxRecDepth 200000 in
theorem ts_X9_soonest_95 {post : Int32 → Int32 → Int32 → Int32 → Int32 → (Nat → Int32) → (Nat → Int32) → (Nat → Int32) → (Nat → Int32) → (Nat → Int32) → Int32 → (Nat → Int32) → Prop} {K33 : Int32 → Int32 → Int32 → Int32 → Int32 → Int32 → Int32 → (Nat → Int32) → (Nat → Int32) → (Nat → Int32) → (Nat → Int32) → (Nat → Int32) → Int32 → (Nat → Int32) → Prop} {n33 : Int} (dN bD : Int32) (uU gF pL qF mX oE dY : Nat → Int32) (jE eW eY dU fY gJ jG pQ : Int32) (pN : Nat → Int32) (xL : 0 ≤ Int32.toInt dN ∧ Int32.toInt dN ≤ 16) (wX : 0 ≤ Int32.toInt bD ∧ Int32.toInt bD ≤ 8) (aAC : -1 ≤ Int32.toInt fY ∧ Int32.toInt fY ≤ 7) (zK : 0 ≤ Int32.toInt jG ∧ Int32.toInt jG ≤ 9) (zU : 0 ≤ Int32.toInt pQ ∧ Int32.toInt pQ ≤ 40) (hpost : ∀ (r : Int32) (aAY : Int32) (aJV : Int32) (aGc : Int32) (aJU : Int32) (aBC : Nat → Int32) (aC9 : Nat → Int32) (aLu : Nat → Int32) (aCG : Nat → Int32) (aB4 : Nat → Int32) (zV : Int32) (aAV : Nat → Int32), (0 ≤ Int32.toInt aAY ∧ Int32.toInt aAY ≤ 65535) → (∀ k : Nat, 0 ≤ Int32.toInt (aBC k) ∧ Int32.toInt (aBC k) ≤ 65535) → (∀ k : Nat, 0 ≤ Int32.toInt (aC9 k) ∧ Int32.toInt (aC9 k) ≤ 99) → (1 ≤ Int32.toInt zV ∧ Int32.toInt zV ≤ 1) → post r aAY aJV aGc aJU aBC aC9 aLu aCG aB4 zV aAV) (hK33 : ∀ (x1 : Int32) (x2 : Int32) (x3 : Int32) (oY : Int32) (rJ : Int32) (pX : Int32) (rO : Int32) (rD : Nat → Int32) (sG : Nat → Int32) (vQ : Nat → Int32) (qY : Nat → Int32) (qU : Nat → Int32) (qB : Int32) (jK : Nat → Int32), (0 ≤ Int32.toInt x1 ∧ Int32.toInt x1 ≤ 255) → (0 ≤ Int32.toInt x3 ∧ Int32.toInt x3 ≤ 256) → (0 ≤ Int32.toInt oY ∧ Int32.toInt oY ≤ 65535) → (∀ k : Nat, 0 ≤ Int32.toInt (rD k) ∧ Int32.toInt (rD k) ≤ 65535) → (∀ k : Nat, 0 ≤ Int32.toInt (sG k) ∧ Int32.toInt (sG k) ≤ 99) → (0 ≤ Int32.toInt qB ∧ Int32.toInt qB ≤ 16) → (256 - Int32.toInt x3 < n33) → K33 x1 x2 x3 oY rJ pX rO rD sG vQ qY qU qB jK) (x3 x4 oY rJ pX rO : Int32) (rD sG vQ qY qU : Nat → Int32) (qB : Int32) (jK : Nat → Int32) (aCH : 0 ≤ Int32.toInt x3 ∧ Int32.toInt x3 ≤ 255) (aAE : 0 ≤ Int32.toInt oY ∧ Int32.toInt oY ≤ 65535) (zR : ∀ k : Nat, 0 ≤ Int32.toInt (rD k) ∧ Int32.toInt (rD k) ≤ 65535) (aAX : ∀ k : Nat, 0 ≤ Int32.toInt (sG k) ∧ Int32.toInt (sG k) ≤ 99) (aAK : 0 ≤ Int32.toInt qB ∧ Int32.toInt qB ≤ 16) (hn33 : 256 - Int32.toInt x3 ≤ n33) : ws_X9_soonest_95 post K33 dN bD uU gF pL qF mX oE dY jE eW eY dU fY gJ jG pQ pN x3 x4 oY rJ pX rO rD sG vQ qY qU qB jK := by
  have f7 := aAT x4
  have f8 := aAT rJ
  have f9 := aAT pX
  have f10 := aAT rO
  exact ts_X9_soonest_100 dN bD uU gF pL qF mX oE dY jE eW eY dU fY gJ jG pQ pN xL wX aAC zK zU hpost hK33 x3 x4 x3 oY rJ pX rO rD sG vQ qY qU qB jK aCH aCH aAE zR aAX aAK hn33
set_option maxHeartbeats 8000000 in
set_option maxRecDepth 200000 in
theorem ts_X9_soonest_33 {post : Int32 → Int32 → Int32 → Int32 → Int32 → (Nat → Int32) → (Nat → Int32) → (Nat → Int32) → (Nat → Int32) → (Nat → Int32) → Int32 → (Nat → Int32) → Prop} {next : Int32 → Int32 → Int32 → Int32 → Int32 → Int32 → Int32 → (Nat → Int32) → (Nat → Int32) → (Nat → Int32) → (Nat → Int32) → (Nat → Int32) → Int32 → (Nat → Int32) → Prop} {n33 : Int} (dN bD : Int32) (uU gF pL qF mX oE dY : Nat → Int32) (jE eW eY dU fY gJ jG pQ : Int32) (pN : Nat → Int32) (xL : 0 ≤ Int32.toInt dN ∧ Int32.toInt dN ≤ 16) (wX : 0 ≤ Int32.toInt bD ∧ Int32.toInt bD ≤ 8) (aAC : -1 ≤ Int32.toInt fY ∧ Int32.toInt fY ≤ 7) (zK : 0 ≤ Int32.toInt jG ∧ Int32.toInt jG ≤ 9) (zU : 0 ≤ Int32.toInt pQ ∧ Int32.toInt pQ ≤ 40) (hpost : ∀ (r : Int32) (aAY : Int32) (aJV : Int32) (aGc : Int32) (aJU : Int32) (aBC : Nat → Int32) (aC9 : Nat → Int32) (aLu : Nat → Int32) (aCG : Nat → Int32) (aB4 : Nat → Int32) (zV : Int32) (aAV : Nat → Int32), (0 ≤ Int32.toInt aAY ∧ Int32.toInt aAY ≤ 65535) → (∀ k : Nat, 0 ≤ Int32.toInt (aBC k) ∧ Int32.toInt (aBC k) ≤ 65535) → (∀ k : Nat, 0 ≤ Int32.toInt (aC9 k) ∧ Int32.toInt (aC9 k) ≤ 99) → (1 ≤ Int32.toInt zV ∧ Int32.toInt zV ≤ 1) → post r aAY aJV aGc aJU aBC aC9 aLu aCG aB4 zV aAV) (hKn : ∀ (x1 : Int32) (x2 : Int32) (x3 : Int32) (oY : Int32) (rJ : Int32) (pX : Int32) (rO : Int32) (rD : Nat → Int32) (sG : Nat → Int32) (vQ : Nat → Int32) (qY : Nat → Int32) (qU : Nat → Int32) (qB : Int32) (jK : Nat → Int32), (0 ≤ Int32.toInt x1 ∧ Int32.toInt x1 ≤ 255) → (0 ≤ Int32.toInt x3 ∧ Int32.toInt x3 ≤ 256) → (0 ≤ Int32.toInt oY ∧ Int32.toInt oY ≤ 65535) → (∀ k : Nat, 0 ≤ Int32.toInt (rD k) ∧ Int32.toInt (rD k) ≤ 65535) → (∀ k : Nat, 0 ≤ Int32.toInt (sG k) ∧ Int32.toInt (sG k) ≤ 99) → (0 ≤ Int32.toInt qB ∧ Int32.toInt qB ≤ 16) → (256 - Int32.toInt x3 < n33) → next x1 x2 x3 oY rJ pX rO rD sG vQ qY qU qB jK) (x1 x2 x3 oY rJ pX rO : Int32) (rD sG vQ qY qU : Nat → Int32) (qB : Int32) (jK : Nat → Int32) (aBK : 0 ≤ Int32.toInt x1 ∧ Int32.toInt x1 ≤ 255) (aCH : 0 ≤ Int32.toInt x3 ∧ Int32.toInt x3 ≤ 256) (aAE : 0 ≤ Int32.toInt oY ∧ Int32.toInt oY ≤ 65535) (zR : ∀ k : Nat, 0 ≤ Int32.toInt (rD k) ∧ Int32.toInt (rD k) ≤ 65535) (aAX : ∀ k : Nat, 0 ≤ Int32.toInt (sG k) ∧ Int32.toInt (sG k) ≤ 99) (aAK : 0 ≤ Int32.toInt qB ∧ Int32.toInt qB ≤ 16) (hn33 : 256 - Int32.toInt x3 ≤ n33) : ws_X9_soonest_33 post next dN bD uU gF pL qF mX oE dY jE eW eY dU fY gJ jG pQ pN x1 x2 x3 oY rJ pX rO rD sG vQ qY qU qB jK := by
  have l0 := aE0
  have l1 := aEc
  intro v11 ev11
  have f12 := aDv 8 256 bD (by decide) (by omega)
  have hv11 := congrArg Int32.toInt ev11
  have f14 : Int32.toInt (v11 - 1) = Int32.toInt v11 - Int32.toInt (1 : Int32) := aCA _ _ (by omega)
  refine And.intro (fun c13 => ?_) (fun c13 => ?_)
  · skip
    have c13 := (aAO _ _).mp c13
    refine And.intro (fun h9 => absurd h9 (by decide)) (fun _ => ?_)
    refine And.intro (aBZ (by omega)) ?_
    intro v15 ev15
    have f16 : Int32.toInt (0 + 1) = Int32.toInt (0 : Int32) + Int32.toInt (1 : Int32) := aAD _ _ (by omega)
    rw [← ev15] at f16
    exact hpost _ _ _ _ _ _ _ _ _ _ _ _ aAE zR aAX (by omega)
  · skip
    have c13 := mt (aAO _ _).mpr c13
    refine aUy (by omega) zR wX (fun r17 h_r17 => ?_)
    have f20 := aBx oY (r17 ^^^ (-1)) (by omega)
    refine And.intro (fun c18 => ?_) (fun c18 => ?_)
    · skip
      have c18 := mt (zJ _ _).mpr c18
      have f21 := aAT x2
      have f22 := aAT rJ
      have f23 := aAT pX
      have f24 := aAT rO
      exact ts_X9_soonest_100 dN bD uU gF pL qF mX oE dY jE eW eY dU fY gJ jG pQ pN xL wX aAC zK zU hpost hKn x1 x2 x3 oY rJ pX rO rD sG vQ qY qU qB jK aBK (by omega) aAE zR aAX aAK hn33
    · skip
      have c18Z := c18
      have c18 := (zJ _ _).mp c18
      have s25 := ti_subset oY r17 (c18Z) (by omega)
      refine t_X5_workSeconds (by omega) aAE zR aAX xL wX aAC (fun r30 pl_moves_26 pl_picking_27 pl_downs_28 pl_many_29 => ?_)
      have f32 := aAT r30
      have f33 := aAT x2
      refine And.intro (fun c31 => ?_) (fun c31 => ?_)
      · skip
        have c31 := (aAd _ _).mp c31
        have f34 := aAT pl_moves_26
        have f35 := aAT pl_picking_27
        have f36 := aAT pl_downs_28
        exact ts_X9_soonest_95 dN bD uU gF pL qF mX oE dY jE eW eY dU fY gJ jG pQ pN xL wX aAC zK zU hpost hKn x3 r30 oY pl_moves_26 pl_picking_27 pl_downs_28 rD sG pl_many_29 qY qU qB jK (by omega) aAE zR aAX aAK hn33
      · skip
        have c31 := mt (aAd _ _).mpr c31
        refine And.intro (fun c37 => ?_) (fun c37 => ?_)
        · skip
          have c37 := mt (zJ _ _).mpr c37
          have f38 := aAT pl_moves_26
          have f39 := aAT pl_picking_27
          have f40 := aAT pl_downs_28
          exact ts_X9_soonest_100 dN bD uU gF pL qF mX oE dY jE eW eY dU fY gJ jG pQ pN xL wX aAC zK zU hpost hKn x1 x2 x3 oY pl_moves_26 pl_picking_27 pl_downs_28 rD sG pl_many_29 qY qU qB jK aBK (by omega) aAE zR aAX aAK hn33
        · skip
          have c37 := (zJ _ _).mp c37
          refine t_X9_isFewer (by omega) aBK (fun r41 h_r41 => ?_)
          refine And.intro (fun c42 => ?_) (fun c42 => ?_)
          · skip
            have c42 := (zJ _ _).mp c42
            have f43 := aAT pl_moves_26
            have f44 := aAT pl_picking_27
            have f45 := aAT pl_downs_28
            exact ts_X9_soonest_100 dN bD uU gF pL qF mX oE dY jE eW eY dU fY gJ jG pQ pN xL wX aAC zK zU hpost hKn x1 x2 x3 oY pl_moves_26 pl_picking_27 pl_downs_28 rD sG pl_many_29 qY qU qB jK aBK (by omega) aAE zR aAX aAK hn33
          · skip
            have c42 := mt (zJ _ _).mpr c42
            have f46 := aAT pl_moves_26
            have f47 := aAT pl_picking_27
            have f48 := aAT pl_downs_28
            exact ts_X9_soonest_95 dN bD uU gF pL qF mX oE dY jE eW eY dU fY gJ jG pQ pN xL wX aAC zK zU hpost hKn x3 r30 oY pl_moves_26 pl_picking_27 pl_downs_28 rD sG pl_many_29 qY qU qB jK (by omega) aAE zR aAX aAK hn33
set_option maxHeartbeats 8000000 in
set_option maxRecDepth 200000 in
theorem tb_X9_soonest_33 {post : Int32 → Int32 → Int32 → Int32 → Int32 → (Nat → Int32) → (Nat → Int32) → (Nat → Int32) → (Nat → Int32) → (Nat → Int32) → Int32 → (Nat → Int32) → Prop} (dN bD : Int32) (uU gF pL qF mX oE dY : Nat → Int32) (jE eW eY dU fY gJ jG pQ : Int32) (pN : Nat → Int32) (xL : 0 ≤ Int32.toInt dN ∧ Int32.toInt dN ≤ 16) (wX : 0 ≤ Int32.toInt bD ∧ Int32.toInt bD ≤ 8) (aAC : -1 ≤ Int32.toInt fY ∧ Int32.toInt fY ≤ 7) (zK : 0 ≤ Int32.toInt jG ∧ Int32.toInt jG ≤ 9) (zU : 0 ≤ Int32.toInt pQ ∧ Int32.toInt pQ ≤ 40) (hpost : ∀ (r : Int32) (aAY : Int32) (aJV : Int32) (aGc : Int32) (aJU : Int32) (aBC : Nat → Int32) (aC9 : Nat → Int32) (aLu : Nat → Int32) (aCG : Nat → Int32) (aB4 : Nat → Int32) (zV : Int32) (aAV : Nat → Int32), (0 ≤ Int32.toInt aAY ∧ Int32.toInt aAY ≤ 65535) → (∀ k : Nat, 0 ≤ Int32.toInt (aBC k) ∧ Int32.toInt (aBC k) ≤ 65535) → (∀ k : Nat, 0 ≤ Int32.toInt (aC9 k) ∧ Int32.toInt (aC9 k) ≤ 99) → (1 ≤ Int32.toInt zV ∧ Int32.toInt zV ≤ 1) → post r aAY aJV aGc aJU aBC aC9 aLu aCG aB4 zV aAV) : ∀ (n : Nat) (x1 x2 x3 oY rJ pX rO : Int32) (rD sG vQ qY qU : Nat → Int32) (qB : Int32) (jK : Nat → Int32), (0 ≤ Int32.toInt x1 ∧ Int32.toInt x1 ≤ 255) → (0 ≤ Int32.toInt x3 ∧ Int32.toInt x3 ≤ 256) → (0 ≤ Int32.toInt oY ∧ Int32.toInt oY ≤ 65535) → (∀ k : Nat, 0 ≤ Int32.toInt (rD k) ∧ Int32.toInt (rD k) ≤ 65535) → (∀ k : Nat, 0 ≤ Int32.toInt (sG k) ∧ Int32.toInt (sG k) ≤ 99) → (0 ≤ Int32.toInt qB ∧ Int32.toInt qB ≤ 16) → (256 - Int32.toInt x3 < (n : Int)) → wb_X9_soonest_33 post dN bD uU gF pL qF mX oE dY jE eW eY dU fY gJ jG pQ pN n x1 x2 x3 oY rJ pX rO rD sG vQ qY qU qB jK := by
  intro n
  induction n with
  | zero =>
    intro x1 x2 x3 oY rJ pX rO rD sG vQ qY qU qB jK aBK aCH aAE zR aAX aAK hm
    exfalso; omega
  | succ n ih =>
    intro x1 x2 x3 oY rJ pX rO rD sG vQ qY qU qB jK aBK aCH aAE zR aAX aAK hm
    exact ts_X9_soonest_33 dN bD uU gF pL qF mX oE dY jE eW eY dU fY gJ jG pQ pN xL wX aAC zK zU hpost ih x1 x2 x3 oY rJ pX rO rD sG vQ qY qU qB jK aBK aCH aAE zR aAX aAK (by omega)
set_option maxHeartbeats 8000000 in
set_option maxRecDepth 200000 in
theorem t_X9_soonest {post : Int32 → Int32 → Int32 → Int32 → Int32 → (Nat → Int32) → (Nat → Int32) → (Nat → Int32) → (Nat → Int32) → (Nat → Int32) → Int32 → (Nat → Int32) → Prop} {oY rJ pX rO : Int32} {rD sG vQ : Nat → Int32} {dN bD : Int32} {uU gF pL qF mX oE dY : Nat → Int32} {jE eW eY dU fY gJ jG pQ : Int32} {qY qU pN : Nat → Int32} {qB : Int32} {jK : Nat → Int32} (aAE : 0 ≤ Int32.toInt oY ∧ Int32.toInt oY ≤ 65535) (zR : ∀ k : Nat, 0 ≤ Int32.toInt (rD k) ∧ Int32.toInt (rD k) ≤ 65535) (aAX : ∀ k : Nat, 0 ≤ Int32.toInt (sG k) ∧ Int32.toInt (sG k) ≤ 99) (xL : 0 ≤ Int32.toInt dN ∧ Int32.toInt dN ≤ 16) (wX : 0 ≤ Int32.toInt bD ∧ Int32.toInt bD ≤ 8) (aAC : -1 ≤ Int32.toInt fY ∧ Int32.toInt fY ≤ 7) (zK : 0 ≤ Int32.toInt jG ∧ Int32.toInt jG ≤ 9) (zU : 0 ≤ Int32.toInt pQ ∧ Int32.toInt pQ ≤ 40) (aAK : 0 ≤ Int32.toInt qB ∧ Int32.toInt qB ≤ 16) (hpost : ∀ (r : Int32) (aAY : Int32) (aJV : Int32) (aGc : Int32) (aJU : Int32) (aBC : Nat → Int32) (aC9 : Nat → Int32) (aLu : Nat → Int32) (aCG : Nat → Int32) (aB4 : Nat → Int32) (zV : Int32) (aAV : Nat → Int32), (0 ≤ Int32.toInt aAY ∧ Int32.toInt aAY ≤ 65535) → (∀ k : Nat, 0 ≤ Int32.toInt (aBC k) ∧ Int32.toInt (aBC k) ≤ 65535) → (∀ k : Nat, 0 ≤ Int32.toInt (aC9 k) ∧ Int32.toInt (aC9 k) ≤ 99) → (1 ≤ Int32.toInt zV ∧ Int32.toInt zV ≤ 1) → post r aAY aJV aGc aJU aBC aC9 aLu aCG aB4 zV aAV) : wp_X9_soonest post oY rJ pX rO rD sG vQ dN bD uU gF pL qF mX oE dY jE eW eY dU fY gJ jG pQ qY qU pN qB jK := by
  have l0 := aE0
  have l1 := aEc
  refine aVe zK aAE zR xL wX (fun pl_wanted_49 pl_near_50 h_pl_wanted_49 h_pl_near_50 => ?_)
  refine t_X5_timeAll h_pl_wanted_49 h_pl_near_50 aAX xL wX zU (fun pl_seconds_51 ru_given_52 ru_stack_53 h_pl_seconds_51 => ?_)
  intro v54 ev54
  have f55 := aDv 8 256 bD (by decide) (by omega)
  have hv54 := congrArg Int32.toInt ev54
  have f61 : Int32.toInt (v54 - 1) = Int32.toInt v54 - Int32.toInt (1 : Int32) := aCA _ _ (by omega)
  refine t_X5_workSeconds (by omega) h_pl_wanted_49 h_pl_near_50 h_pl_seconds_51 xL wX aAC (fun r60 pl_moves_56 pl_picking_57 pl_downs_58 pl_many_59 => ?_)
  have f62 := aAT r60
  have f63 := aAT pl_moves_56
  have f64 := aAT pl_picking_57
  have f65 := aAT pl_downs_58
  exact ⟨258, tb_X9_soonest_33 dN bD uU gF pL qF mX oE dY jE eW eY dU fY gJ jG pQ pN xL wX aAC zK zU hpost _ (v54 - 1) r60 0 pl_wanted_49 pl_moves_56 pl_picking_57 pl_downs_58 pl_near_50 pl_seconds_51 pl_many_59 ru_given_52 ru_stack_53 qB jK (by omega) (by omega) h_pl_wanted_49 h_pl_near_50 h_pl_seconds_51 aAK (by omega)⟩
set_option maxHeartbeats 8000000 in
set_option maxRecDepth 200000 in
theorem ts_X9_pays_104 {post : Int32 → Int32 → (Nat → Int32) → (Nat → Int32) → (Nat → Int32) → Int32 → (Nat → Int32) → Prop} {K66 : Int32 → Int32 → Int32 → Int32 → Int32 → Int32 → (Nat → Int32) → (Nat → Int32) → (Nat → Int32) → Int32 → (Nat → Int32) → Prop} {n66 : Int} (dN bD : Int32) (uU gF pL qF mX oE dY : Nat → Int32) (jE eW eY dU fY gJ jG pQ : Int32) (pN : Nat → Int32) (xL : 0 ≤ Int32.toInt dN ∧ Int32.toInt dN ≤ 16) (wX : 0 ≤ Int32.toInt bD ∧ Int32.toInt bD ≤ 8) (aAC : -1 ≤ Int32.toInt fY ∧ Int32.toInt fY ≤ 7) (zK : 0 ≤ Int32.toInt jG ∧ Int32.toInt jG ≤ 9) (zU : 0 ≤ Int32.toInt pQ ∧ Int32.toInt pQ ≤ 40) (hpost : ∀ (r : Int32) (aAY : Int32) (aBC : Nat → Int32) (aCG : Nat → Int32) (aB4 : Nat → Int32) (zV : Int32) (aAV : Nat → Int32), (0 ≤ Int32.toInt aAY ∧ Int32.toInt aAY ≤ 65535) → (∀ k : Nat, 0 ≤ Int32.toInt (aBC k) ∧ Int32.toInt (aBC k) ≤ 65535) → (0 ≤ Int32.toInt zV ∧ Int32.toInt zV ≤ 16) → post r aAY aBC aCG aB4 zV aAV) (hK66 : ∀ (x1 : Int32) (x2 : Int32) (x3 : Int32) (x4 : Int32) (x5 : Int32) (oY : Int32) (rD : Nat → Int32) (qY : Nat → Int32) (qU : Nat → Int32) (qB : Int32) (jK : Nat → Int32), (0 ≤ Int32.toInt x1 ∧ Int32.toInt x1 ≤ 7) → (0 ≤ Int32.toInt x2 ∧ Int32.toInt x2 ≤ 65535) → (0 ≤ Int32.toInt x5 ∧ Int32.toInt x5 ≤ 16) → (0 ≤ Int32.toInt oY ∧ Int32.toInt oY ≤ 65535) → (∀ k : Nat, 0 ≤ Int32.toInt (rD k) ∧ Int32.toInt (rD k) ≤ 65535) → (0 ≤ Int32.toInt qB ∧ Int32.toInt qB ≤ 16) → (16 - Int32.toInt x5 < n66) → K66 x1 x2 x3 x4 x5 oY rD qY qU qB jK) (x1 x2 x3 x4 x5 oY : Int32) (rD qY qU : Nat → Int32) (qB : Int32) (jK : Nat → Int32) (aBK : 0 ≤ Int32.toInt x1 ∧ Int32.toInt x1 ≤ 7) (aBN : 0 ≤ Int32.toInt x2 ∧ Int32.toInt x2 ≤ 65535) (aF7 : 0 ≤ Int32.toInt x5 ∧ Int32.toInt x5 ≤ 15) (aAE : 0 ≤ Int32.toInt oY ∧ Int32.toInt oY ≤ 65535) (zR : ∀ k : Nat, 0 ≤ Int32.toInt (rD k) ∧ Int32.toInt (rD k) ≤ 65535) (aAK : 0 ≤ Int32.toInt qB ∧ Int32.toInt qB ≤ 16) (hn66 : 16 - Int32.toInt x5 ≤ n66) : ws_X9_pays_104 post K66 dN bD uU gF pL qF mX oE dY jE eW eY dU fY gJ jG pQ pN x1 x2 x3 x4 x5 oY rD qY qU qB jK := by
  have l0 := aEc
  intro v1 ev1
  have f2 : Int32.toInt (x5 + 1) = Int32.toInt x5 + Int32.toInt (1 : Int32) := aAD _ _ (by omega)
  rw [← ev1] at f2
  have f3 := aAT x3
  have f4 := aAT x4
  exact hK66 x1 x2 x3 x4 v1 oY rD qY qU qB jK aBK aBN (by omega) aAE zR aAK (by omega)
set_option maxHeartbeats 8000000 in
set_option maxRecDepth 200000 in
theorem ts_X9_pays_66 {post : Int32 → Int32 → (Nat → Int32) → (Nat → Int32) → (Nat → Int32) → Int32 → (Nat → Int32) → Prop} {next : Int32 → Int32 → Int32 → Int32 → Int32 → Int32 → (Nat → Int32) → (Nat → Int32) → (Nat → Int32) → Int32 → (Nat → Int32) → Prop} {n66 : Int} (dN bD : Int32) (uU gF pL qF mX oE dY : Nat → Int32) (jE eW eY dU fY gJ jG pQ : Int32) (pN : Nat → Int32) (xL : 0 ≤ Int32.toInt dN ∧ Int32.toInt dN ≤ 16) (wX : 0 ≤ Int32.toInt bD ∧ Int32.toInt bD ≤ 8) (aAC : -1 ≤ Int32.toInt fY ∧ Int32.toInt fY ≤ 7) (zK : 0 ≤ Int32.toInt jG ∧ Int32.toInt jG ≤ 9) (zU : 0 ≤ Int32.toInt pQ ∧ Int32.toInt pQ ≤ 40) (hpost : ∀ (r : Int32) (aAY : Int32) (aBC : Nat → Int32) (aCG : Nat → Int32) (aB4 : Nat → Int32) (zV : Int32) (aAV : Nat → Int32), (0 ≤ Int32.toInt aAY ∧ Int32.toInt aAY ≤ 65535) → (∀ k : Nat, 0 ≤ Int32.toInt (aBC k) ∧ Int32.toInt (aBC k) ≤ 65535) → (0 ≤ Int32.toInt zV ∧ Int32.toInt zV ≤ 16) → post r aAY aBC aCG aB4 zV aAV) (hKn : ∀ (x1 : Int32) (x2 : Int32) (x3 : Int32) (x4 : Int32) (x5 : Int32) (oY : Int32) (rD : Nat → Int32) (qY : Nat → Int32) (qU : Nat → Int32) (qB : Int32) (jK : Nat → Int32), (0 ≤ Int32.toInt x1 ∧ Int32.toInt x1 ≤ 7) → (0 ≤ Int32.toInt x2 ∧ Int32.toInt x2 ≤ 65535) → (0 ≤ Int32.toInt x5 ∧ Int32.toInt x5 ≤ 16) → (0 ≤ Int32.toInt oY ∧ Int32.toInt oY ≤ 65535) → (∀ k : Nat, 0 ≤ Int32.toInt (rD k) ∧ Int32.toInt (rD k) ≤ 65535) → (0 ≤ Int32.toInt qB ∧ Int32.toInt qB ≤ 16) → (16 - Int32.toInt x5 < n66) → next x1 x2 x3 x4 x5 oY rD qY qU qB jK) (x1 x2 x3 x4 x5 oY : Int32) (rD qY qU : Nat → Int32) (qB : Int32) (jK : Nat → Int32) (aBK : 0 ≤ Int32.toInt x1 ∧ Int32.toInt x1 ≤ 7) (aBN : 0 ≤ Int32.toInt x2 ∧ Int32.toInt x2 ≤ 65535) (aF7 : 0 ≤ Int32.toInt x5 ∧ Int32.toInt x5 ≤ 16) (aAE : 0 ≤ Int32.toInt oY ∧ Int32.toInt oY ≤ 65535) (zR : ∀ k : Nat, 0 ≤ Int32.toInt (rD k) ∧ Int32.toInt (rD k) ≤ 65535) (aAK : 0 ≤ Int32.toInt qB ∧ Int32.toInt qB ≤ 16) (hn66 : 16 - Int32.toInt x5 ≤ n66) : ws_X9_pays_66 post next dN bD uU gF pL qF mX oE dY jE eW eY dU fY gJ jG pQ pN x1 x2 x3 x4 x5 oY rD qY qU qB jK := by
  have l0 := aE0
  have l1 := aEc
  have l2 := aKH
  have l3 := li_16
  have l4 := aJ8
  have l5 := li_4
  have l6 := aJ9
  refine And.intro (fun c5 => ?_) (fun c5 => ?_)
  · skip
    have c5 := (aAO _ _).mp c5
    intro v6 ev6
    intro v7 ev7
    have f9 := aAQ v6 1431655765 (by omega)
    have f8 : Int32.toInt (x2 - (v6 &&& 1431655765)) = Int32.toInt x2 - Int32.toInt (v6 &&& 1431655765) := aCA _ _ (by omega)
    rw [← ev7] at f8
    intro v10 ev10
    have f11 := aAQ v7 858993459 (by omega)
    have hv10 := congrArg Int32.toInt ev10
    intro v12 ev12
    intro v13 ev13
    have f15 := aAQ v12 858993459 (by omega)
    have f14 : Int32.toInt (v10 + (v12 &&& 858993459)) = Int32.toInt v10 + Int32.toInt (v12 &&& 858993459) := aAD _ _ (by omega)
    rw [← ev13] at f14
    intro v16 ev16
    have hv16 := congrArg Int32.toInt ev16
    intro v18 ev18
    have f19 := aAQ v16 252645135 (by omega)
    have hv18 := congrArg Int32.toInt ev18
    intro v20 ev20
    have hv20 := congrArg Int32.toInt ev20
    intro v22 ev22
    have hv22 := congrArg Int32.toInt ev22
    intro v24 ev24
    have hv24 := congrArg Int32.toInt ev24
    intro v26 ev26
    have f27 := aAT (if 1 < v24 then v24 else 1)
    have f29 := aAT v24
    have f28 := ti_max (1 : Int32) v24
    have hv26 := congrArg Int32.toInt ev26
    intro v30 ev30
    have hv30 := congrArg Int32.toInt ev30
    intro v32 ev32
    have hv32 := congrArg Int32.toInt ev32
    have f34 := aAT v26
    refine And.intro (mt (zJ _ _).mp (by omega)) ?_
    intro v35 ev35
    refine And.intro (aBZ (by omega)) ?_
    intro v36 ev36
    have hv36 := congrArg Int32.toInt ev36
    intro v38 ev38
    have hv38 := congrArg Int32.toInt ev38
    refine And.intro (fun h9 => absurd h9 (by decide)) (fun _ => ?_)
    refine And.intro (aBZ (by omega)) ?_
    intro v40 ev40
    have f41 : Int32.toInt (0 + 1) = Int32.toInt (0 : Int32) + Int32.toInt (1 : Int32) := aAD _ _ (by omega)
    rw [← ev40] at f41
    refine And.intro (fun c42 => ?_) (fun c42 => ?_)
    · skip
      have c42 := (aAO _ _).mp c42
      exfalso; omega
    · skip
      have c42 := mt (aAO _ _).mpr c42
      refine And.intro (aBZ (by omega)) ?_
      intro v43 ev43
      have f44 : Int32.toInt (v40 + 1) = Int32.toInt v40 + Int32.toInt (1 : Int32) := aAD _ _ (by omega)
      rw [← ev43] at f44
      refine And.intro (fun c45 => ?_) (fun c45 => ?_)
      · skip
        have c45 := (aAO _ _).mp c45
        exfalso; omega
      · skip
        have c45 := mt (aAO _ _).mpr c45
        refine And.intro (aBZ (by omega)) ?_
        intro v46 ev46
        have f47 : Int32.toInt (v43 + 1) = Int32.toInt v43 + Int32.toInt (1 : Int32) := aAD _ _ (by omega)
        rw [← ev46] at f47
        refine aUx xL (fun r48 => ?_)
        exact hpost _ _ _ _ _ _ _ aAE zR (by omega)
  · skip
    have c5 := mt (aAO _ _).mpr c5
    intro v49 ev49
    have f50 := aRJ x2 x5 (by omega)
    have hv49 := congrArg Int32.toInt ev49
    have f52 := aAQ v49 1 (by omega)
    have f53 := aBx v49 1 (by omega)
    refine And.intro (fun c51 => ?_) (fun c51 => ?_)
    · skip
      have c51 := (zJ _ _).mp c51
      have f54 := aAT x3
      have f55 := aAT x4
      exact ts_X9_pays_104 dN bD uU gF pL qF mX oE dY jE eW eY dU fY gJ jG pQ pN xL wX aAC zK zU hpost hKn x1 x2 x3 x4 x5 oY rD qY qU qB jK aBK aBN (by omega) aAE zR aAK hn66
    · skip
      have c51 := mt (zJ _ _).mpr c51
      refine aUV (by omega) aBK (by omega) xL zU (fun r58 ru_given_56 ru_stack_57 h_r58 => ?_)
      intro v59 ev59
      have hv59 := congrArg Int32.toInt ev59
      have f61 := aAT x3
      have f62 := aAT v59
      exact ts_X9_pays_104 dN bD uU gF pL qF mX oE dY jE eW eY dU fY gJ jG pQ pN xL wX aAC zK zU hpost hKn x1 x2 x3 v59 x5 oY rD ru_given_56 ru_stack_57 qB jK aBK aBN (by omega) aAE zR aAK hn66
set_option maxHeartbeats 8000000 in
set_option maxRecDepth 200000 in
theorem tb_X9_pays_66 {post : Int32 → Int32 → (Nat → Int32) → (Nat → Int32) → (Nat → Int32) → Int32 → (Nat → Int32) → Prop} (dN bD : Int32) (uU gF pL qF mX oE dY : Nat → Int32) (jE eW eY dU fY gJ jG pQ : Int32) (pN : Nat → Int32) (xL : 0 ≤ Int32.toInt dN ∧ Int32.toInt dN ≤ 16) (wX : 0 ≤ Int32.toInt bD ∧ Int32.toInt bD ≤ 8) (aAC : -1 ≤ Int32.toInt fY ∧ Int32.toInt fY ≤ 7) (zK : 0 ≤ Int32.toInt jG ∧ Int32.toInt jG ≤ 9) (zU : 0 ≤ Int32.toInt pQ ∧ Int32.toInt pQ ≤ 40) (hpost : ∀ (r : Int32) (aAY : Int32) (aBC : Nat → Int32) (aCG : Nat → Int32) (aB4 : Nat → Int32) (zV : Int32) (aAV : Nat → Int32), (0 ≤ Int32.toInt aAY ∧ Int32.toInt aAY ≤ 65535) → (∀ k : Nat, 0 ≤ Int32.toInt (aBC k) ∧ Int32.toInt (aBC k) ≤ 65535) → (0 ≤ Int32.toInt zV ∧ Int32.toInt zV ≤ 16) → post r aAY aBC aCG aB4 zV aAV) : ∀ (n : Nat) (x1 x2 x3 x4 x5 oY : Int32) (rD qY qU : Nat → Int32) (qB : Int32) (jK : Nat → Int32), (0 ≤ Int32.toInt x1 ∧ Int32.toInt x1 ≤ 7) → (0 ≤ Int32.toInt x2 ∧ Int32.toInt x2 ≤ 65535) → (0 ≤ Int32.toInt x5 ∧ Int32.toInt x5 ≤ 16) → (0 ≤ Int32.toInt oY ∧ Int32.toInt oY ≤ 65535) → (∀ k : Nat, 0 ≤ Int32.toInt (rD k) ∧ Int32.toInt (rD k) ≤ 65535) → (0 ≤ Int32.toInt qB ∧ Int32.toInt qB ≤ 16) → (16 - Int32.toInt x5 < (n : Int)) → wb_X9_pays_66 post dN bD uU gF pL qF mX oE dY jE eW eY dU fY gJ jG pQ pN n x1 x2 x3 x4 x5 oY rD qY qU qB jK := by
  intro n
  induction n with
  | zero =>
    intro x1 x2 x3 x4 x5 oY rD qY qU qB jK aBK aBN aF7 aAE zR aAK hm
    exfalso; omega
  | succ n ih =>
    intro x1 x2 x3 x4 x5 oY rD qY qU qB jK aBK aBN aF7 aAE zR aAK hm
    exact ts_X9_pays_66 dN bD uU gF pL qF mX oE dY jE eW eY dU fY gJ jG pQ pN xL wX aAC zK zU hpost ih x1 x2 x3 x4 x5 oY rD qY qU qB jK aBK aBN aF7 aAE zR aAK (by omega)
set_option maxHeartbeats 8000000 in
set_option maxRecDepth 200000 in
theorem ts_X9_pays_59 {post : Int32 → Int32 → (Nat → Int32) → (Nat → Int32) → (Nat → Int32) → Int32 → (Nat → Int32) → Prop} (dN bD : Int32) (uU gF pL qF mX oE dY : Nat → Int32) (jE eW eY dU fY gJ jG pQ : Int32) (pN : Nat → Int32) (xL : 0 ≤ Int32.toInt dN ∧ Int32.toInt dN ≤ 16) (wX : 0 ≤ Int32.toInt bD ∧ Int32.toInt bD ≤ 8) (aAC : -1 ≤ Int32.toInt fY ∧ Int32.toInt fY ≤ 7) (zK : 0 ≤ Int32.toInt jG ∧ Int32.toInt jG ≤ 9) (zU : 0 ≤ Int32.toInt pQ ∧ Int32.toInt pQ ≤ 40) (hpost : ∀ (r : Int32) (aAY : Int32) (aBC : Nat → Int32) (aCG : Nat → Int32) (aB4 : Nat → Int32) (zV : Int32) (aAV : Nat → Int32), (0 ≤ Int32.toInt aAY ∧ Int32.toInt aAY ≤ 65535) → (∀ k : Nat, 0 ≤ Int32.toInt (aBC k) ∧ Int32.toInt (aBC k) ≤ 65535) → (0 ≤ Int32.toInt zV ∧ Int32.toInt zV ≤ 16) → post r aAY aBC aCG aB4 zV aAV) (x1 x2 k0 oY : Int32) (rD qY qU : Nat → Int32) (qB : Int32) (jK : Nat → Int32) (aBK : 0 ≤ Int32.toInt x1 ∧ Int32.toInt x1 ≤ 7) (aBN : 0 ≤ Int32.toInt x2 ∧ Int32.toInt x2 ≤ 65535) (aAE : 0 ≤ Int32.toInt oY ∧ Int32.toInt oY ≤ 65535) (zR : ∀ k : Nat, 0 ≤ Int32.toInt (rD k) ∧ Int32.toInt (rD k) ≤ 65535) (aAK : 0 ≤ Int32.toInt qB ∧ Int32.toInt qB ≤ 16) : ws_X9_pays_59 post dN bD uU gF pL qF mX oE dY jE eW eY dU fY gJ jG pQ pN x1 x2 k0 oY rD qY qU qB jK := by
  have l0 := aE0
  have f63 := aAT k0
  exact ⟨18, tb_X9_pays_66 dN bD uU gF pL qF mX oE dY jE eW eY dU fY gJ jG pQ pN xL wX aAC zK zU hpost _ x1 x2 k0 0 0 oY rD qY qU qB jK aBK aBN (by omega) aAE zR aAK (by omega)⟩
set_option maxHeartbeats 8000000 in
set_option maxRecDepth 200000 in
theorem t_X9_pays {post : Int32 → Int32 → (Nat → Int32) → (Nat → Int32) → (Nat → Int32) → Int32 → (Nat → Int32) → Prop} {p0 oY : Int32} {rD : Nat → Int32} {dN bD : Int32} {uU gF pL qF mX oE dY : Nat → Int32} {jE eW eY dU fY gJ jG pQ : Int32} {qY qU pN : Nat → Int32} {qB : Int32} {jK : Nat → Int32} (aAE : 0 ≤ Int32.toInt oY ∧ Int32.toInt oY ≤ 65535) (zR : ∀ k : Nat, 0 ≤ Int32.toInt (rD k) ∧ Int32.toInt (rD k) ≤ 65535) (xL : 0 ≤ Int32.toInt dN ∧ Int32.toInt dN ≤ 16) (wX : 0 ≤ Int32.toInt bD ∧ Int32.toInt bD ≤ 8) (aAC : -1 ≤ Int32.toInt fY ∧ Int32.toInt fY ≤ 7) (zK : 0 ≤ Int32.toInt jG ∧ Int32.toInt jG ≤ 9) (zU : 0 ≤ Int32.toInt pQ ∧ Int32.toInt pQ ≤ 40) (aAK : 0 ≤ Int32.toInt qB ∧ Int32.toInt qB ≤ 16) (hpost : ∀ (r : Int32) (aAY : Int32) (aBC : Nat → Int32) (aCG : Nat → Int32) (aB4 : Nat → Int32) (zV : Int32) (aAV : Nat → Int32), (0 ≤ Int32.toInt aAY ∧ Int32.toInt aAY ≤ 65535) → (∀ k : Nat, 0 ≤ Int32.toInt (aBC k) ∧ Int32.toInt (aBC k) ≤ 65535) → (0 ≤ Int32.toInt zV ∧ Int32.toInt zV ≤ 16) → post r aAY aBC aCG aB4 zV aAV) : wp_X9_pays post p0 oY rD dN bD uU gF pL qF mX oE dY jE eW eY dU fY gJ jG pQ qY qU pN qB jK := by
  have l0 := aI2
  have l1 := aE0
  have l2 := li_3
  have l3 := li_9
  have f65 := aAT p0
  refine And.intro (fun c64 => ?_) (fun c64 => ?_)
  · skip
    have c64 := (aAd _ _).mp c64
    refine And.intro (fun h9 => absurd h9 (by decide)) (fun _ => ?_)
    exact hpost _ _ _ _ _ _ _ aAE zR aAK
  · skip
    have c64 := mt (aAd _ _).mpr c64
    refine And.intro (fun c66 => ?_) (fun c66 => ?_)
    · skip
      have c66 := (aAO _ _).mp c66
      refine And.intro (fun h9 => absurd h9 (by decide)) (fun _ => ?_)
      exact hpost _ _ _ _ _ _ _ aAE zR aAK
    · skip
      have c66 := mt (aAO _ _).mpr c66
      refine And.intro (fun _ => ?_) (fun h9 => absurd h9 (by decide))
      refine aVe zK aAE zR xL wX (fun pl_wanted_67 pl_near_68 h_pl_wanted_67 h_pl_near_68 => ?_)
      refine And.intro (aBZ (by omega)) ?_
      refine And.intro (fun c69 => ?_) (fun c69 => ?_)
      · skip
        have c69 := mt (zJ _ _).mpr c69
        refine And.intro (fun c70 => ?_) (fun c70 => ?_)
        · skip
          have c70 := mt (zJ _ _).mpr c70
          intro v71 ev71
          have hv71 := congrArg Int32.toInt ev71
          refine And.intro (aBZ (by omega)) ?_
          intro v73 ev73
          have hv73 := congrArg Int32.toInt ev73
          refine And.intro (aBZ (by omega)) ?_
          intro v75 ev75
          have hv75 := congrArg Int32.toInt ev75
          intro v77 ev77
          have hv77 := congrArg Int32.toInt ev77
          have f80 := h_pl_near_68 p0.toNatClampNeg
          have f79 := aAQ pl_wanted_67 (pl_near_68 p0.toNatClampNeg) (by omega)
          have f81 := aBx pl_wanted_67 (pl_near_68 p0.toNatClampNeg) (by omega)
          exact ts_X9_pays_59 dN bD uU gF pL qF mX oE dY jE eW eY dU fY gJ jG pQ pN xL wX aAC zK zU hpost p0 (pl_wanted_67 &&& (pl_near_68 p0.toNatClampNeg)) (9 + (v71 * v77)) pl_wanted_67 pl_near_68 qY qU qB jK (by omega) (by omega) h_pl_wanted_67 h_pl_near_68 aAK
        · skip
          have c70 := (zJ _ _).mp c70
          have f84 := h_pl_near_68 p0.toNatClampNeg
          have f83 := aAQ pl_wanted_67 (pl_near_68 p0.toNatClampNeg) (by omega)
          have f85 := aBx pl_wanted_67 (pl_near_68 p0.toNatClampNeg) (by omega)
          exact ts_X9_pays_59 dN bD uU gF pL qF mX oE dY jE eW eY dU fY gJ jG pQ pN xL wX aAC zK zU hpost p0 (pl_wanted_67 &&& (pl_near_68 p0.toNatClampNeg)) 9 pl_wanted_67 pl_near_68 qY qU qB jK (by omega) (by omega) h_pl_wanted_67 h_pl_near_68 aAK
      · skip
        have c69 := (zJ _ _).mp c69
        have f87 := h_pl_near_68 p0.toNatClampNeg
        have f86 := aAQ pl_wanted_67 (pl_near_68 p0.toNatClampNeg) (by omega)
        have f88 := aBx pl_wanted_67 (pl_near_68 p0.toNatClampNeg) (by omega)
        exact ts_X9_pays_59 dN bD uU gF pL qF mX oE dY jE eW eY dU fY gJ jG pQ pN xL wX aAC zK zU hpost p0 (pl_wanted_67 &&& (pl_near_68 p0.toNatClampNeg)) 0 pl_wanted_67 pl_near_68 qY qU qB jK (by omega) (by omega) h_pl_wanted_67 h_pl_near_68 aAK
