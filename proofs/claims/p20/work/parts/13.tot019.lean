set_option maxHeartbeats 8000000 in
set_option maxRecDepth 200000 in
theorem t_X9_broken {post : Int32 → Int32 → (Nat → Int32) → Int32 → (Nat → Int32) → Prop} {p0 oY : Int32} {rD : Nat → Int32} {dN bD : Int32} {uU gF qF mX oE dY : Nat → Int32} {jE eW eY gJ jG qB : Int32} {jK : Nat → Int32} (aAE : 0 ≤ Int32.toInt oY ∧ Int32.toInt oY ≤ 65535) (zR : ∀ k : Nat, 0 ≤ Int32.toInt (rD k) ∧ Int32.toInt (rD k) ≤ 65535) (xL : 0 ≤ Int32.toInt dN ∧ Int32.toInt dN ≤ 16) (wX : 0 ≤ Int32.toInt bD ∧ Int32.toInt bD ≤ 8) (zK : 0 ≤ Int32.toInt jG ∧ Int32.toInt jG ≤ 9) (aAK : 0 ≤ Int32.toInt qB ∧ Int32.toInt qB ≤ 16) (hpost : ∀ (r : Int32) (aAY : Int32) (aBC : Nat → Int32) (zV : Int32) (aAV : Nat → Int32), (-1 ≤ Int32.toInt r ∧ Int32.toInt r ≤ 63) → (0 ≤ Int32.toInt aAY ∧ Int32.toInt aAY ≤ 65535) → (∀ k : Nat, 0 ≤ Int32.toInt (aBC k) ∧ Int32.toInt (aBC k) ≤ 65535) → (0 ≤ Int32.toInt zV ∧ Int32.toInt zV ≤ 16) → post r aAY aBC zV aAV) : wp_X9_broken post p0 oY rD dN bD uU gF qF mX oE dY jE eW eY gJ jG qB jK := by
  have l0 := aI2
  have l1 := aE0
  have l2 := aEc
  have l3 := aKH
  have l4 := aJ8
  have l5 := li_63
  have l6 := aJ9
  have f2 := aAT p0
  refine And.intro (fun c1 => ?_) (fun c1 => ?_)
  · skip
    have c1 := (aAd _ _).mp c1
    refine And.intro (fun h9 => absurd h9 (by decide)) (fun _ => ?_)
    exact hpost _ _ _ _ _ (by omega) aAE zR aAK
  · skip
    have c1 := mt (aAd _ _).mpr c1
    refine And.intro (fun c3 => ?_) (fun c3 => ?_)
    · skip
      have c3 := (aAO _ _).mp c3
      refine And.intro (fun h9 => absurd h9 (by decide)) (fun _ => ?_)
      exact hpost _ _ _ _ _ (by omega) aAE zR aAK
    · skip
      have c3 := mt (aAO _ _).mpr c3
      refine And.intro (fun _ => ?_) (fun h9 => absurd h9 (by decide))
      refine aVe zK aAE zR xL wX (fun pl_wanted_4 pl_near_5 h_pl_wanted_4 h_pl_near_5 => ?_)
      intro v6 ev6
      have f7 := aDv 8 256 bD (by decide) (by omega)
      have hv6 := congrArg Int32.toInt ev6
      intro v8 ev8
      have f9 := aDv 7 128 p0 (by decide) (by omega)
      have hv8 := congrArg Int32.toInt ev8
      intro v10 ev10
      have f12 : Int32.toInt (v6 - 1) = Int32.toInt v6 - Int32.toInt (1 : Int32) := aCA _ _ (by omega)
      have f13 := aBx (v6 - 1) (v8 ^^^ (-1)) (by omega)
      have hv10 := congrArg Int32.toInt ev10
      refine aUy (by omega) h_pl_near_5 wX (fun r14 h_r14 => ?_)
      intro v15 ev15
      have f17 := aBx pl_wanted_4 (r14 ^^^ (-1)) (by omega)
      have hv15 := congrArg Int32.toInt ev15
      refine And.intro (fun h9 => absurd h9 (by decide)) (fun _ => ?_)
      refine And.intro (aBZ (by omega)) ?_
      intro v18 ev18
      have f19 : Int32.toInt (0 + 1) = Int32.toInt (0 : Int32) + Int32.toInt (1 : Int32) := aAD _ _ (by omega)
      rw [← ev18] at f19
      intro v20 ev20
      have f22 := aBx pl_wanted_4 (v15 ^^^ (-1)) (by omega)
      have hv20 := congrArg Int32.toInt ev20
      refine t_X5_smallestCover (by omega) (by omega) h_pl_near_5 wX (fun r23 h_r23 => ?_)
      intro v24 ev24
      intro v25 ev25
      have f27 := aAQ v24 1431655765 (by omega)
      have f26 : Int32.toInt (r23 - (v24 &&& 1431655765)) = Int32.toInt r23 - Int32.toInt (v24 &&& 1431655765) := aCA _ _ (by omega)
      rw [← ev25] at f26
      intro v28 ev28
      have f29 := aAQ v25 858993459 (by omega)
      have hv28 := congrArg Int32.toInt ev28
      intro v30 ev30
      intro v31 ev31
      have f33 := aAQ v30 858993459 (by omega)
      have f32 : Int32.toInt (v28 + (v30 &&& 858993459)) = Int32.toInt v28 + Int32.toInt (v30 &&& 858993459) := aAD _ _ (by omega)
      rw [← ev31] at f32
      intro v34 ev34
      have hv34 := congrArg Int32.toInt ev34
      intro v36 ev36
      have f37 := aAQ v34 252645135 (by omega)
      have hv36 := congrArg Int32.toInt ev36
      intro v38 ev38
      have hv38 := congrArg Int32.toInt ev38
      intro v40 ev40
      have hv40 := congrArg Int32.toInt ev40
      have f42 := aAQ v40 63 (by omega)
      exact hpost _ _ _ _ _ (by omega) h_pl_wanted_4 h_pl_near_5 (by omega)
set_option maxHeartbeats 8000000 in
set_option maxRecDepth 200000 in
theorem ts_X9_sweep_121 {post : Int32 → Int32 → Int32 → Int32 → Int32 → (Nat → Int32) → (Nat → Int32) → (Nat → Int32) → (Nat → Int32) → (Nat → Int32) → Int32 → (Nat → Int32) → Prop} {K37 : Int32 → Int32 → Int32 → Int32 → Int32 → Int32 → Int32 → Int32 → Int32 → (Nat → Int32) → (Nat → Int32) → (Nat → Int32) → (Nat → Int32) → (Nat → Int32) → Int32 → (Nat → Int32) → Prop} {n37 : Int} (dN bD : Int32) (uU gF pL qF mX oE dY : Nat → Int32) (jE eW eY dU fY gJ jG pQ : Int32) (pN : Nat → Int32) (xL : 0 ≤ Int32.toInt dN ∧ Int32.toInt dN ≤ 16) (wX : 0 ≤ Int32.toInt bD ∧ Int32.toInt bD ≤ 8) (aAC : -1 ≤ Int32.toInt fY ∧ Int32.toInt fY ≤ 7) (zK : 0 ≤ Int32.toInt jG ∧ Int32.toInt jG ≤ 9) (zU : 0 ≤ Int32.toInt pQ ∧ Int32.toInt pQ ≤ 40) (hpost : ∀ (r : Int32) (aAY : Int32) (aJV : Int32) (aGc : Int32) (aJU : Int32) (aBC : Nat → Int32) (aC9 : Nat → Int32) (aLu : Nat → Int32) (aCG : Nat → Int32) (aB4 : Nat → Int32) (zV : Int32) (aAV : Nat → Int32), (-1 ≤ Int32.toInt r ∧ Int32.toInt r ≤ 2147483647) → (0 ≤ Int32.toInt aAY ∧ Int32.toInt aAY ≤ 65535) → (∀ k : Nat, 0 ≤ Int32.toInt (aBC k) ∧ Int32.toInt (aBC k) ≤ 65535) → (∀ k : Nat, 0 ≤ Int32.toInt (aC9 k) ∧ Int32.toInt (aC9 k) ≤ 99) → (0 ≤ Int32.toInt zV ∧ Int32.toInt zV ≤ 16) → post r aAY aJV aGc aJU aBC aC9 aLu aCG aB4 zV aAV) (hK37 : ∀ (x1 : Int32) (x2 : Int32) (x3 : Int32) (x4 : Int32) (x5 : Int32) (oY : Int32) (rJ : Int32) (pX : Int32) (rO : Int32) (rD : Nat → Int32) (sG : Nat → Int32) (vQ : Nat → Int32) (qY : Nat → Int32) (qU : Nat → Int32) (qB : Int32) (jK : Nat → Int32), (0 ≤ Int32.toInt x1 ∧ Int32.toInt x1 ≤ 9999) → (0 ≤ Int32.toInt x2 ∧ Int32.toInt x2 ≤ 255) → (0 ≤ Int32.toInt x3 ∧ Int32.toInt x3 ≤ 2147483647) → (-2147483648 ≤ Int32.toInt x4 ∧ Int32.toInt x4 ≤ 9999) → (1 ≤ Int32.toInt x5 ∧ Int32.toInt x5 ≤ 256) → (0 ≤ Int32.toInt oY ∧ Int32.toInt oY ≤ 65535) → (∀ k : Nat, 0 ≤ Int32.toInt (rD k) ∧ Int32.toInt (rD k) ≤ 65535) → (∀ k : Nat, 0 ≤ Int32.toInt (sG k) ∧ Int32.toInt (sG k) ≤ 99) → (0 ≤ Int32.toInt qB ∧ Int32.toInt qB ≤ 16) → (256 - Int32.toInt x5 < n37) → K37 x1 x2 x3 x4 x5 oY rJ pX rO rD sG vQ qY qU qB jK) (x1 x2 x3 x4 x5 oY rJ pX rO : Int32) (rD sG vQ qY qU : Nat → Int32) (qB : Int32) (jK : Nat → Int32) (aBK : 0 ≤ Int32.toInt x1 ∧ Int32.toInt x1 ≤ 9999) (aBN : 0 ≤ Int32.toInt x2 ∧ Int32.toInt x2 ≤ 255) (aCH : 0 ≤ Int32.toInt x3 ∧ Int32.toInt x3 ≤ 2147483647) (aDO : -2147483648 ≤ Int32.toInt x4 ∧ Int32.toInt x4 ≤ 9999) (aF7 : 1 ≤ Int32.toInt x5 ∧ Int32.toInt x5 ≤ 255) (aAE : 0 ≤ Int32.toInt oY ∧ Int32.toInt oY ≤ 65535) (zR : ∀ k : Nat, 0 ≤ Int32.toInt (rD k) ∧ Int32.toInt (rD k) ≤ 65535) (aAX : ∀ k : Nat, 0 ≤ Int32.toInt (sG k) ∧ Int32.toInt (sG k) ≤ 99) (aAK : 0 ≤ Int32.toInt qB ∧ Int32.toInt qB ≤ 16) (hn37 : 256 - Int32.toInt x5 ≤ n37) : ws_X9_sweep_121 post K37 dN bD uU gF pL qF mX oE dY jE eW eY dU fY gJ jG pQ pN x1 x2 x3 x4 x5 oY rJ pX rO rD sG vQ qY qU qB jK := by
  have l0 := aEc
  intro v1 ev1
  have f2 : Int32.toInt (x5 + 1) = Int32.toInt x5 + Int32.toInt (1 : Int32) := aAD _ _ (by omega)
  rw [← ev1] at f2
  have f3 := aAT x3
  have f4 := aAT x4
  have f5 := aAT rJ
  have f6 := aAT pX
  have f7 := aAT rO
  exact hK37 x1 x2 x3 x4 v1 oY rJ pX rO rD sG vQ qY qU qB jK aBK aBN aCH aDO (by omega) aAE zR aAX aAK (by omega)
set_option maxHeartbeats 8000000 in
set_option maxRecDepth 200000 in
theorem ts_X9_sweep_111 {post : Int32 → Int32 → Int32 → Int32 → Int32 → (Nat → Int32) → (Nat → Int32) → (Nat → Int32) → (Nat → Int32) → (Nat → Int32) → Int32 → (Nat → Int32) → Prop} {K37 : Int32 → Int32 → Int32 → Int32 → Int32 → Int32 → Int32 → Int32 → Int32 → (Nat → Int32) → (Nat → Int32) → (Nat → Int32) → (Nat → Int32) → (Nat → Int32) → Int32 → (Nat → Int32) → Prop} {n37 : Int} (dN bD : Int32) (uU gF pL qF mX oE dY : Nat → Int32) (jE eW eY dU fY gJ jG pQ : Int32) (pN : Nat → Int32) (xL : 0 ≤ Int32.toInt dN ∧ Int32.toInt dN ≤ 16) (wX : 0 ≤ Int32.toInt bD ∧ Int32.toInt bD ≤ 8) (aAC : -1 ≤ Int32.toInt fY ∧ Int32.toInt fY ≤ 7) (zK : 0 ≤ Int32.toInt jG ∧ Int32.toInt jG ≤ 9) (zU : 0 ≤ Int32.toInt pQ ∧ Int32.toInt pQ ≤ 40) (hpost : ∀ (r : Int32) (aAY : Int32) (aJV : Int32) (aGc : Int32) (aJU : Int32) (aBC : Nat → Int32) (aC9 : Nat → Int32) (aLu : Nat → Int32) (aCG : Nat → Int32) (aB4 : Nat → Int32) (zV : Int32) (aAV : Nat → Int32), (-1 ≤ Int32.toInt r ∧ Int32.toInt r ≤ 2147483647) → (0 ≤ Int32.toInt aAY ∧ Int32.toInt aAY ≤ 65535) → (∀ k : Nat, 0 ≤ Int32.toInt (aBC k) ∧ Int32.toInt (aBC k) ≤ 65535) → (∀ k : Nat, 0 ≤ Int32.toInt (aC9 k) ∧ Int32.toInt (aC9 k) ≤ 99) → (0 ≤ Int32.toInt zV ∧ Int32.toInt zV ≤ 16) → post r aAY aJV aGc aJU aBC aC9 aLu aCG aB4 zV aAV) (hK37 : ∀ (x1 : Int32) (x2 : Int32) (x3 : Int32) (x4 : Int32) (x5 : Int32) (oY : Int32) (rJ : Int32) (pX : Int32) (rO : Int32) (rD : Nat → Int32) (sG : Nat → Int32) (vQ : Nat → Int32) (qY : Nat → Int32) (qU : Nat → Int32) (qB : Int32) (jK : Nat → Int32), (0 ≤ Int32.toInt x1 ∧ Int32.toInt x1 ≤ 9999) → (0 ≤ Int32.toInt x2 ∧ Int32.toInt x2 ≤ 255) → (0 ≤ Int32.toInt x3 ∧ Int32.toInt x3 ≤ 2147483647) → (-2147483648 ≤ Int32.toInt x4 ∧ Int32.toInt x4 ≤ 9999) → (1 ≤ Int32.toInt x5 ∧ Int32.toInt x5 ≤ 256) → (0 ≤ Int32.toInt oY ∧ Int32.toInt oY ≤ 65535) → (∀ k : Nat, 0 ≤ Int32.toInt (rD k) ∧ Int32.toInt (rD k) ≤ 65535) → (∀ k : Nat, 0 ≤ Int32.toInt (sG k) ∧ Int32.toInt (sG k) ≤ 99) → (0 ≤ Int32.toInt qB ∧ Int32.toInt qB ≤ 16) → (256 - Int32.toInt x5 < n37) → K37 x1 x2 x3 x4 x5 oY rJ pX rO rD sG vQ qY qU qB jK) (x1 x5 x6 x7 oY rJ pX rO : Int32) (rD sG vQ qY qU : Nat → Int32) (qB : Int32) (jK : Nat → Int32) (aBK : 0 ≤ Int32.toInt x1 ∧ Int32.toInt x1 ≤ 9999) (aF7 : 1 ≤ Int32.toInt x5 ∧ Int32.toInt x5 ≤ 255) (h_x6 : 0 ≤ Int32.toInt x6 ∧ Int32.toInt x6 ≤ 2147483647) (h_x7 : -2147483648 ≤ Int32.toInt x7 ∧ Int32.toInt x7 ≤ 9999) (aAE : 0 ≤ Int32.toInt oY ∧ Int32.toInt oY ≤ 65535) (zR : ∀ k : Nat, 0 ≤ Int32.toInt (rD k) ∧ Int32.toInt (rD k) ≤ 65535) (aAX : ∀ k : Nat, 0 ≤ Int32.toInt (sG k) ∧ Int32.toInt (sG k) ≤ 99) (aAK : 0 ≤ Int32.toInt qB ∧ Int32.toInt qB ≤ 16) (hn37 : 256 - Int32.toInt x5 ≤ n37) : ws_X9_sweep_111 post K37 dN bD uU gF pL qF mX oE dY jE eW eY dU fY gJ jG pQ pN x1 x5 x6 x7 oY rJ pX rO rD sG vQ qY qU qB jK := by
  have f8 := aAT x6
  have f9 := aAT x7
  have f10 := aAT rJ
  have f11 := aAT pX
  have f12 := aAT rO
  exact ts_X9_sweep_121 dN bD uU gF pL qF mX oE dY jE eW eY dU fY gJ jG pQ pN xL wX aAC zK zU hpost hK37 x1 x5 x6 x7 x5 oY rJ pX rO rD sG vQ qY qU qB jK aBK (by omega) h_x6 h_x7 aF7 aAE zR aAX aAK hn37
set_option maxHeartbeats 8000000 in
set_option maxRecDepth 200000 in
theorem ts_X9_sweep_37 {post : Int32 → Int32 → Int32 → Int32 → Int32 → (Nat → Int32) → (Nat → Int32) → (Nat → Int32) → (Nat → Int32) → (Nat → Int32) → Int32 → (Nat → Int32) → Prop} {next : Int32 → Int32 → Int32 → Int32 → Int32 → Int32 → Int32 → Int32 → Int32 → (Nat → Int32) → (Nat → Int32) → (Nat → Int32) → (Nat → Int32) → (Nat → Int32) → Int32 → (Nat → Int32) → Prop} {n37 : Int} (dN bD : Int32) (uU gF pL qF mX oE dY : Nat → Int32) (jE eW eY dU fY gJ jG pQ : Int32) (pN : Nat → Int32) (xL : 0 ≤ Int32.toInt dN ∧ Int32.toInt dN ≤ 16) (wX : 0 ≤ Int32.toInt bD ∧ Int32.toInt bD ≤ 8) (aAC : -1 ≤ Int32.toInt fY ∧ Int32.toInt fY ≤ 7) (zK : 0 ≤ Int32.toInt jG ∧ Int32.toInt jG ≤ 9) (zU : 0 ≤ Int32.toInt pQ ∧ Int32.toInt pQ ≤ 40) (hpost : ∀ (r : Int32) (aAY : Int32) (aJV : Int32) (aGc : Int32) (aJU : Int32) (aBC : Nat → Int32) (aC9 : Nat → Int32) (aLu : Nat → Int32) (aCG : Nat → Int32) (aB4 : Nat → Int32) (zV : Int32) (aAV : Nat → Int32), (-1 ≤ Int32.toInt r ∧ Int32.toInt r ≤ 2147483647) → (0 ≤ Int32.toInt aAY ∧ Int32.toInt aAY ≤ 65535) → (∀ k : Nat, 0 ≤ Int32.toInt (aBC k) ∧ Int32.toInt (aBC k) ≤ 65535) → (∀ k : Nat, 0 ≤ Int32.toInt (aC9 k) ∧ Int32.toInt (aC9 k) ≤ 99) → (0 ≤ Int32.toInt zV ∧ Int32.toInt zV ≤ 16) → post r aAY aJV aGc aJU aBC aC9 aLu aCG aB4 zV aAV) (hKn : ∀ (x1 : Int32) (x2 : Int32) (x3 : Int32) (x4 : Int32) (x5 : Int32) (oY : Int32) (rJ : Int32) (pX : Int32) (rO : Int32) (rD : Nat → Int32) (sG : Nat → Int32) (vQ : Nat → Int32) (qY : Nat → Int32) (qU : Nat → Int32) (qB : Int32) (jK : Nat → Int32), (0 ≤ Int32.toInt x1 ∧ Int32.toInt x1 ≤ 9999) → (0 ≤ Int32.toInt x2 ∧ Int32.toInt x2 ≤ 255) → (0 ≤ Int32.toInt x3 ∧ Int32.toInt x3 ≤ 2147483647) → (-2147483648 ≤ Int32.toInt x4 ∧ Int32.toInt x4 ≤ 9999) → (1 ≤ Int32.toInt x5 ∧ Int32.toInt x5 ≤ 256) → (0 ≤ Int32.toInt oY ∧ Int32.toInt oY ≤ 65535) → (∀ k : Nat, 0 ≤ Int32.toInt (rD k) ∧ Int32.toInt (rD k) ≤ 65535) → (∀ k : Nat, 0 ≤ Int32.toInt (sG k) ∧ Int32.toInt (sG k) ≤ 99) → (0 ≤ Int32.toInt qB ∧ Int32.toInt qB ≤ 16) → (256 - Int32.toInt x5 < n37) → next x1 x2 x3 x4 x5 oY rJ pX rO rD sG vQ qY qU qB jK) (x1 x2 x3 x4 x5 oY rJ pX rO : Int32) (rD sG vQ qY qU : Nat → Int32) (qB : Int32) (jK : Nat → Int32) (aBK : 0 ≤ Int32.toInt x1 ∧ Int32.toInt x1 ≤ 9999) (aBN : 0 ≤ Int32.toInt x2 ∧ Int32.toInt x2 ≤ 255) (aCH : 0 ≤ Int32.toInt x3 ∧ Int32.toInt x3 ≤ 2147483647) (aDO : -2147483648 ≤ Int32.toInt x4 ∧ Int32.toInt x4 ≤ 9999) (aF7 : 1 ≤ Int32.toInt x5 ∧ Int32.toInt x5 ≤ 256) (aAE : 0 ≤ Int32.toInt oY ∧ Int32.toInt oY ≤ 65535) (zR : ∀ k : Nat, 0 ≤ Int32.toInt (rD k) ∧ Int32.toInt (rD k) ≤ 65535) (aAX : ∀ k : Nat, 0 ≤ Int32.toInt (sG k) ∧ Int32.toInt (sG k) ≤ 99) (aAK : 0 ≤ Int32.toInt qB ∧ Int32.toInt qB ≤ 16) (hn37 : 256 - Int32.toInt x5 ≤ n37) : ws_X9_sweep_37 post next dN bD uU gF pL qF mX oE dY jE eW eY dU fY gJ jG pQ pN x1 x2 x3 x4 x5 oY rJ pX rO rD sG vQ qY qU qB jK := by
  have l0 := aE0
  have l1 := aEc
  have l2 := li_16
  intro v13 ev13
  have f14 := aDv 8 256 bD (by decide) (by omega)
  have hv13 := congrArg Int32.toInt ev13
  have f16 : Int32.toInt (v13 - 1) = Int32.toInt v13 - Int32.toInt (1 : Int32) := aCA _ _ (by omega)
  refine And.intro (fun c15 => ?_) (fun c15 => ?_)
  · skip
    have c15 := (aAd _ _).mp c15
    refine And.intro (fun h9 => absurd h9 (by decide)) (fun _ => ?_)
    refine And.intro (aBZ (by omega)) ?_
    intro v17 ev17
    have f18 : Int32.toInt (0 + 1) = Int32.toInt (0 : Int32) + Int32.toInt (1 : Int32) := aAD _ _ (by omega)
    rw [← ev17] at f18
    refine And.intro (fun c19 => ?_) (fun c19 => ?_)
    · skip
      have c19 := (aAO _ _).mp c19
      exfalso; omega
    · skip
      have c19 := mt (aAO _ _).mpr c19
      refine And.intro (aBZ (by omega)) ?_
      intro v20 ev20
      have f21 : Int32.toInt (v17 + 1) = Int32.toInt v17 + Int32.toInt (1 : Int32) := aAD _ _ (by omega)
      rw [← ev20] at f21
      have f22 := aAT x3
      exact hpost _ _ _ _ _ _ _ _ _ _ _ _ (by omega) aAE zR aAX (by omega)
  · skip
    have c15 := mt (aAd _ _).mpr c15
    refine aUy (by omega) zR wX (fun r23 h_r23 => ?_)
    intro v24 ev24
    have f25 := aAQ oY r23 (by omega)
    have f26 := aBx oY r23 (by omega)
    have hv24 := congrArg Int32.toInt ev24
    refine aUx xL (fun r27 => ?_)
    have f29 := aAT r27
    have f30 := aAT x3
    refine And.intro (fun c28 => ?_) (fun c28 => ?_)
    · skip
      have c28 := (aAd _ _).mp c28
      have f31 := aAT x4
      have f32 := aAT rJ
      have f33 := aAT pX
      have f34 := aAT rO
      exact ts_X9_sweep_121 dN bD uU gF pL qF mX oE dY jE eW eY dU fY gJ jG pQ pN xL wX aAC zK zU hpost hKn x1 x2 x3 x4 x5 oY rJ pX rO rD sG vQ qY qU qB jK aBK aBN aCH aDO (by omega) aAE zR aAX aAK hn37
    · skip
      have c28 := mt (aAd _ _).mpr c28
      refine t_X5_workSeconds (by omega) aAE zR aAX xL wX aAC (fun r39 pl_moves_35 pl_picking_36 pl_downs_37 pl_many_38 => ?_)
      have f41 := aAT r39
      refine And.intro (fun c40 => ?_) (fun c40 => ?_)
      · skip
        have c40 := (aAd _ _).mp c40
        have f42 := aAT x4
        have f43 := aAT pl_moves_35
        have f44 := aAT pl_picking_36
        have f45 := aAT pl_downs_37
        exact ts_X9_sweep_121 dN bD uU gF pL qF mX oE dY jE eW eY dU fY gJ jG pQ pN xL wX aAC zK zU hpost hKn x1 x2 x3 x4 x5 oY pl_moves_35 pl_picking_36 pl_downs_37 rD sG pl_many_38 qY qU qB jK aBK aBN aCH aDO (by omega) aAE zR aAX aAK hn37
      · skip
        have c40 := mt (aAd _ _).mpr c40
        refine And.intro (fun c46 => ?_) (fun c46 => ?_)
        · skip
          have c46 := (aAd _ _).mp c46
          have f47 := aAT pl_moves_35
          have f48 := aAT pl_picking_36
          have f49 := aAT pl_downs_37
          exact ts_X9_sweep_111 dN bD uU gF pL qF mX oE dY jE eW eY dU fY gJ jG pQ pN xL wX aAC zK zU hpost hKn x1 x5 r27 r39 oY pl_moves_35 pl_picking_36 pl_downs_37 rD sG pl_many_38 qY qU qB jK aBK (by omega) (by omega) (by omega) aAE zR aAX aAK hn37
        · skip
          have c46 := mt (aAd _ _).mpr c46
          have f51 := aAT x4
          refine And.intro (fun c50 => ?_) (fun c50 => ?_)
          · skip
            have c50 := (aAO _ _).mp c50
            have f52 := aAT pl_moves_35
            have f53 := aAT pl_picking_36
            have f54 := aAT pl_downs_37
            exact ts_X9_sweep_121 dN bD uU gF pL qF mX oE dY jE eW eY dU fY gJ jG pQ pN xL wX aAC zK zU hpost hKn x1 x2 x3 x4 x5 oY pl_moves_35 pl_picking_36 pl_downs_37 rD sG pl_many_38 qY qU qB jK aBK aBN aCH aDO (by omega) aAE zR aAX aAK hn37
          · skip
            have c50 := mt (aAO _ _).mpr c50
            have f55 := aAT pl_moves_35
            have f56 := aAT pl_picking_36
            have f57 := aAT pl_downs_37
            exact ts_X9_sweep_111 dN bD uU gF pL qF mX oE dY jE eW eY dU fY gJ jG pQ pN xL wX aAC zK zU hpost hKn x1 x5 r27 r39 oY pl_moves_35 pl_picking_36 pl_downs_37 rD sG pl_many_38 qY qU qB jK aBK (by omega) (by omega) (by omega) aAE zR aAX aAK hn37
set_option maxHeartbeats 8000000 in
set_option maxRecDepth 200000 in
theorem tb_X9_sweep_37 {post : Int32 → Int32 → Int32 → Int32 → Int32 → (Nat → Int32) → (Nat → Int32) → (Nat → Int32) → (Nat → Int32) → (Nat → Int32) → Int32 → (Nat → Int32) → Prop} (dN bD : Int32) (uU gF pL qF mX oE dY : Nat → Int32) (jE eW eY dU fY gJ jG pQ : Int32) (pN : Nat → Int32) (xL : 0 ≤ Int32.toInt dN ∧ Int32.toInt dN ≤ 16) (wX : 0 ≤ Int32.toInt bD ∧ Int32.toInt bD ≤ 8) (aAC : -1 ≤ Int32.toInt fY ∧ Int32.toInt fY ≤ 7) (zK : 0 ≤ Int32.toInt jG ∧ Int32.toInt jG ≤ 9) (zU : 0 ≤ Int32.toInt pQ ∧ Int32.toInt pQ ≤ 40) (hpost : ∀ (r : Int32) (aAY : Int32) (aJV : Int32) (aGc : Int32) (aJU : Int32) (aBC : Nat → Int32) (aC9 : Nat → Int32) (aLu : Nat → Int32) (aCG : Nat → Int32) (aB4 : Nat → Int32) (zV : Int32) (aAV : Nat → Int32), (-1 ≤ Int32.toInt r ∧ Int32.toInt r ≤ 2147483647) → (0 ≤ Int32.toInt aAY ∧ Int32.toInt aAY ≤ 65535) → (∀ k : Nat, 0 ≤ Int32.toInt (aBC k) ∧ Int32.toInt (aBC k) ≤ 65535) → (∀ k : Nat, 0 ≤ Int32.toInt (aC9 k) ∧ Int32.toInt (aC9 k) ≤ 99) → (0 ≤ Int32.toInt zV ∧ Int32.toInt zV ≤ 16) → post r aAY aJV aGc aJU aBC aC9 aLu aCG aB4 zV aAV) : ∀ (n : Nat) (x1 x2 x3 x4 x5 oY rJ pX rO : Int32) (rD sG vQ qY qU : Nat → Int32) (qB : Int32) (jK : Nat → Int32), (0 ≤ Int32.toInt x1 ∧ Int32.toInt x1 ≤ 9999) → (0 ≤ Int32.toInt x2 ∧ Int32.toInt x2 ≤ 255) → (0 ≤ Int32.toInt x3 ∧ Int32.toInt x3 ≤ 2147483647) → (-2147483648 ≤ Int32.toInt x4 ∧ Int32.toInt x4 ≤ 9999) → (1 ≤ Int32.toInt x5 ∧ Int32.toInt x5 ≤ 256) → (0 ≤ Int32.toInt oY ∧ Int32.toInt oY ≤ 65535) → (∀ k : Nat, 0 ≤ Int32.toInt (rD k) ∧ Int32.toInt (rD k) ≤ 65535) → (∀ k : Nat, 0 ≤ Int32.toInt (sG k) ∧ Int32.toInt (sG k) ≤ 99) → (0 ≤ Int32.toInt qB ∧ Int32.toInt qB ≤ 16) → (256 - Int32.toInt x5 < (n : Int)) → wb_X9_sweep_37 post dN bD uU gF pL qF mX oE dY jE eW eY dU fY gJ jG pQ pN n x1 x2 x3 x4 x5 oY rJ pX rO rD sG vQ qY qU qB jK := by
  intro n
  induction n with
  | zero =>
    intro x1 x2 x3 x4 x5 oY rJ pX rO rD sG vQ qY qU qB jK aBK aBN aCH aDO aF7 aAE zR aAX aAK hm
    exfalso; omega
  | succ n ih =>
    intro x1 x2 x3 x4 x5 oY rJ pX rO rD sG vQ qY qU qB jK aBK aBN aCH aDO aF7 aAE zR aAX aAK hm
    exact ts_X9_sweep_37 dN bD uU gF pL qF mX oE dY jE eW eY dU fY gJ jG pQ pN xL wX aAC zK zU hpost ih x1 x2 x3 x4 x5 oY rJ pX rO rD sG vQ qY qU qB jK aBK aBN aCH aDO aF7 aAE zR aAX aAK (by omega)
set_option maxHeartbeats 8000000 in
set_option maxRecDepth 200000 in
theorem t_X9_sweep {post : Int32 → Int32 → Int32 → Int32 → Int32 → (Nat → Int32) → (Nat → Int32) → (Nat → Int32) → (Nat → Int32) → (Nat → Int32) → Int32 → (Nat → Int32) → Prop} {p0 oY rJ pX rO : Int32} {rD sG vQ : Nat → Int32} {dN bD : Int32} {uU gF pL qF mX oE dY : Nat → Int32} {jE eW eY dU fY gJ jG pQ : Int32} {qY qU pN : Nat → Int32} {qB : Int32} {jK : Nat → Int32} (aAE : 0 ≤ Int32.toInt oY ∧ Int32.toInt oY ≤ 65535) (zR : ∀ k : Nat, 0 ≤ Int32.toInt (rD k) ∧ Int32.toInt (rD k) ≤ 65535) (aAX : ∀ k : Nat, 0 ≤ Int32.toInt (sG k) ∧ Int32.toInt (sG k) ≤ 99) (xL : 0 ≤ Int32.toInt dN ∧ Int32.toInt dN ≤ 16) (wX : 0 ≤ Int32.toInt bD ∧ Int32.toInt bD ≤ 8) (aAC : -1 ≤ Int32.toInt fY ∧ Int32.toInt fY ≤ 7) (zK : 0 ≤ Int32.toInt jG ∧ Int32.toInt jG ≤ 9) (zU : 0 ≤ Int32.toInt pQ ∧ Int32.toInt pQ ≤ 40) (aAK : 0 ≤ Int32.toInt qB ∧ Int32.toInt qB ≤ 16) (hpost : ∀ (r : Int32) (aAY : Int32) (aJV : Int32) (aGc : Int32) (aJU : Int32) (aBC : Nat → Int32) (aC9 : Nat → Int32) (aLu : Nat → Int32) (aCG : Nat → Int32) (aB4 : Nat → Int32) (zV : Int32) (aAV : Nat → Int32), (-1 ≤ Int32.toInt r ∧ Int32.toInt r ≤ 2147483647) → (0 ≤ Int32.toInt aAY ∧ Int32.toInt aAY ≤ 65535) → (∀ k : Nat, 0 ≤ Int32.toInt (aBC k) ∧ Int32.toInt (aBC k) ≤ 65535) → (∀ k : Nat, 0 ≤ Int32.toInt (aC9 k) ∧ Int32.toInt (aC9 k) ≤ 99) → (0 ≤ Int32.toInt zV ∧ Int32.toInt zV ≤ 16) → post r aAY aJV aGc aJU aBC aC9 aLu aCG aB4 zV aAV) : wp_X9_sweep post p0 oY rJ pX rO rD sG vQ dN bD uU gF pL qF mX oE dY jE eW eY dU fY gJ jG pQ qY qU pN qB jK := by
  have l0 := aI2
  have l1 := aE0
  have l2 := aEc
  have l3 := li_9999
  have f59 := aAT p0
  refine And.intro (fun c58 => ?_) (fun c58 => ?_)
  · skip
    have c58 := (aAd _ _).mp c58
    exact hpost _ _ _ _ _ _ _ _ _ _ _ _ (by omega) aAE zR aAX aAK
  · skip
    have c58 := mt (aAd _ _).mpr c58
    refine And.intro (fun c60 => ?_) (fun c60 => ?_)
    · skip
      have c60 := (aAO _ _).mp c60
      refine aVe zK aAE zR xL wX (fun pl_wanted_61 pl_near_62 h_pl_wanted_61 h_pl_near_62 => ?_)
      refine t_X5_timeAll h_pl_wanted_61 h_pl_near_62 aAX xL wX zU (fun pl_seconds_63 ru_given_64 ru_stack_65 h_pl_seconds_63 => ?_)
      have f66 := aAT rJ
      have f67 := aAT pX
      have f68 := aAT rO
      exact ⟨257, tb_X9_sweep_37 dN bD uU gF pL qF mX oE dY jE eW eY dU fY gJ jG pQ pN xL wX aAC zK zU hpost _ p0 0 0 0 1 pl_wanted_61 rJ pX rO pl_near_62 pl_seconds_63 vQ ru_given_64 ru_stack_65 qB jK (by omega) (by omega) (by omega) (by omega) (by omega) h_pl_wanted_61 h_pl_near_62 h_pl_seconds_63 aAK (by omega)⟩
    · skip
      have c60 := mt (aAO _ _).mpr c60
      exact hpost _ _ _ _ _ _ _ _ _ _ _ _ (by omega) aAE zR aAX aAK
