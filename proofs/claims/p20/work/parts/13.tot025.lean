set_option maxHeartbeats 8000000 in
set_option maxRecDepth 200000 in
theorem t_X9_leaned {post : Int32 → Prop} {p0 p1 dN bD : Int32} {uU gF mX oE dY : Nat → Int32} (xL : 0 ≤ Int32.toInt dN ∧ Int32.toInt dN ≤ 16) (wX : 0 ≤ Int32.toInt bD ∧ Int32.toInt bD ≤ 8) (hpost : ∀ (r : Int32) , (-2 ≤ Int32.toInt r ∧ Int32.toInt r ≤ 30) → post r) : wp_X9_leaned post p0 p1 dN bD uU gF mX oE dY := by
  have l0 := aI2
  have l1 := aE0
  have f2 := aAT p0
  refine And.intro (fun c1 => ?_) (fun c1 => ?_)
  · skip
    have c1 := (aAd _ _).mp c1
    refine And.intro (fun _ => ?_) (fun h9 => absurd h9 (by decide))
    exact hpost _ (by omega)
  · skip
    have c1 := mt (aAd _ _).mpr c1
    refine And.intro (fun c3 => ?_) (fun c3 => ?_)
    · skip
      have c3 := (aAO _ _).mp c3
      refine And.intro (fun _ => ?_) (fun h9 => absurd h9 (by decide))
      exact hpost _ (by omega)
    · skip
      have c3 := mt (aAO _ _).mpr c3
      refine And.intro (fun h9 => absurd h9 (by decide)) (fun _ => ?_)
      have f5 := aAT p1
      refine And.intro (fun c4 => ?_) (fun c4 => ?_)
      · skip
        have c4 := (aAd _ _).mp c4
        refine And.intro (fun h9 => absurd h9 (by decide)) (fun _ => ?_)
        exact hpost _ (by omega)
      · skip
        have c4 := mt (aAd _ _).mpr c4
        refine And.intro (fun c6 => ?_) (fun c6 => ?_)
        · skip
          have c6 := (aAO _ _).mp c6
          refine And.intro (fun h9 => absurd h9 (by decide)) (fun _ => ?_)
          exact hpost _ (by omega)
        · skip
          have c6 := mt (aAO _ _).mpr c6
          refine And.intro (fun _ => ?_) (fun h9 => absurd h9 (by decide))
          refine t_X3_leanNeeded (by omega) (by omega) (fun r7 h_r7 => ?_)
          exact hpost _ h_r7
set_option maxHeartbeats 8000000 in
set_option maxRecDepth 200000 in
theorem ts_X9_autumn_170 {post : Int32 → Int32 → (Nat → Int32) → Prop} {K47 : Int32 → Int32 → Int32 → Int32 → Int32 → Int32 → Int32 → Int32 → Int32 → (Nat → Int32) → Prop} {n47 : Int} (dN : Int32) (pL qF : Nat → Int32) (jE eW eY dU jG : Int32) (xL : 0 ≤ Int32.toInt dN ∧ Int32.toInt dN ≤ 16) (zK : 0 ≤ Int32.toInt jG ∧ Int32.toInt jG ≤ 9) (hpost : ∀ (r : Int32) (zV : Int32) (aAV : Nat → Int32), (-1 ≤ Int32.toInt r ∧ Int32.toInt r ≤ 63) → (0 ≤ Int32.toInt zV ∧ Int32.toInt zV ≤ 16) → post r zV aAV) (hK47 : ∀ (x2 : Int32) (x3 : Int32) (x4 : Int32) (x5 : Int32) (x6 : Int32) (x7 : Int32) (x8 : Int32) (x9 : Int32) (qB : Int32) (jK : Nat → Int32), (1 ≤ Int32.toInt x2 ∧ Int32.toInt x2 ≤ 30) → (0 ≤ Int32.toInt x3 ∧ Int32.toInt x3 ≤ 10) → (0 ≤ Int32.toInt x5 ∧ Int32.toInt x5 ≤ 65535) → (0 ≤ Int32.toInt x6 ∧ Int32.toInt x6 ≤ 65535) → (0 ≤ Int32.toInt x7 ∧ Int32.toInt x7 ≤ 2147483647) → (-1 ≤ Int32.toInt x8 ∧ Int32.toInt x8 ≤ 30) → (1 ≤ Int32.toInt x9 ∧ Int32.toInt x9 ≤ 31) → (0 ≤ Int32.toInt qB ∧ Int32.toInt qB ≤ 16) → (31 - Int32.toInt x9 < n47) → K47 x2 x3 x4 x5 x6 x7 x8 x9 qB jK) (x2 x3 x4 x5 x6 x7 x8 x9 qB : Int32) (jK : Nat → Int32) (aBN : 1 ≤ Int32.toInt x2 ∧ Int32.toInt x2 ≤ 30) (aCH : 0 ≤ Int32.toInt x3 ∧ Int32.toInt x3 ≤ 10) (aF7 : 0 ≤ Int32.toInt x5 ∧ Int32.toInt x5 ≤ 65535) (h_x6 : 0 ≤ Int32.toInt x6 ∧ Int32.toInt x6 ≤ 65535) (h_x7 : 0 ≤ Int32.toInt x7 ∧ Int32.toInt x7 ≤ 2147483647) (h_x8 : -1 ≤ Int32.toInt x8 ∧ Int32.toInt x8 ≤ 30) (h_x9 : 1 ≤ Int32.toInt x9 ∧ Int32.toInt x9 ≤ 30) (aAK : 0 ≤ Int32.toInt qB ∧ Int32.toInt qB ≤ 16) (hn47 : 31 - Int32.toInt x9 ≤ n47) : ws_X9_autumn_170 post K47 dN pL qF jE eW eY dU jG x2 x3 x4 x5 x6 x7 x8 x9 qB jK := by
  have l0 := aEc
  intro v1 ev1
  have f2 : Int32.toInt (x9 + 1) = Int32.toInt x9 + Int32.toInt (1 : Int32) := aAD _ _ (by omega)
  rw [← ev1] at f2
  have f3 := aAT x7
  have f4 := aAT x4
  exact hK47 x2 x3 x4 x5 x6 x7 x8 v1 qB jK aBN aCH aF7 h_x6 h_x7 h_x8 (by omega) aAK (by omega)
set_option maxHeartbeats 8000000 in
set_option maxRecDepth 200000 in
theorem ts_X9_autumn_149 {post : Int32 → Int32 → (Nat → Int32) → Prop} {K47 : Int32 → Int32 → Int32 → Int32 → Int32 → Int32 → Int32 → Int32 → Int32 → (Nat → Int32) → Prop} {K91 : Int32 → Int32 → Int32 → Int32 → Int32 → Int32 → Int32 → Int32 → Int32 → Int32 → Int32 → Int32 → (Nat → Int32) → Prop} {n47 n91 : Int} (dN : Int32) (pL qF : Nat → Int32) (jE eW eY dU jG : Int32) (xL : 0 ≤ Int32.toInt dN ∧ Int32.toInt dN ≤ 16) (zK : 0 ≤ Int32.toInt jG ∧ Int32.toInt jG ≤ 9) (hpost : ∀ (r : Int32) (zV : Int32) (aAV : Nat → Int32), (-1 ≤ Int32.toInt r ∧ Int32.toInt r ≤ 63) → (0 ≤ Int32.toInt zV ∧ Int32.toInt zV ≤ 16) → post r zV aAV) (hK47 : ∀ (x2 : Int32) (x3 : Int32) (x4 : Int32) (x5 : Int32) (x6 : Int32) (x7 : Int32) (x8 : Int32) (x9 : Int32) (qB : Int32) (jK : Nat → Int32), (1 ≤ Int32.toInt x2 ∧ Int32.toInt x2 ≤ 30) → (0 ≤ Int32.toInt x3 ∧ Int32.toInt x3 ≤ 10) → (0 ≤ Int32.toInt x5 ∧ Int32.toInt x5 ≤ 65535) → (0 ≤ Int32.toInt x6 ∧ Int32.toInt x6 ≤ 65535) → (0 ≤ Int32.toInt x7 ∧ Int32.toInt x7 ≤ 2147483647) → (-1 ≤ Int32.toInt x8 ∧ Int32.toInt x8 ≤ 30) → (1 ≤ Int32.toInt x9 ∧ Int32.toInt x9 ≤ 31) → (0 ≤ Int32.toInt qB ∧ Int32.toInt qB ≤ 16) → (31 - Int32.toInt x9 < n47) → K47 x2 x3 x4 x5 x6 x7 x8 x9 qB jK) (hK91 : ∀ (x2 : Int32) (x3 : Int32) (x4 : Int32) (x5 : Int32) (x6 : Int32) (x7 : Int32) (x8 : Int32) (x9 : Int32) (x10 : Int32) (x11 : Int32) (x12 : Int32) (qB : Int32) (jK : Nat → Int32), (1 ≤ Int32.toInt x2 ∧ Int32.toInt x2 ≤ 30) → (0 ≤ Int32.toInt x3 ∧ Int32.toInt x3 ≤ 10) → (0 ≤ Int32.toInt x5 ∧ Int32.toInt x5 ≤ 65535) → (0 ≤ Int32.toInt x6 ∧ Int32.toInt x6 ≤ 65535) → (0 ≤ Int32.toInt x7 ∧ Int32.toInt x7 ≤ 2147483647) → (-1 ≤ Int32.toInt x8 ∧ Int32.toInt x8 ≤ 30) → (1 ≤ Int32.toInt x9 ∧ Int32.toInt x9 ≤ 30) → (0 ≤ Int32.toInt x10 ∧ Int32.toInt x10 ≤ 65535) → (0 ≤ Int32.toInt x12 ∧ Int32.toInt x12 ≤ 16) → (0 ≤ Int32.toInt qB ∧ Int32.toInt qB ≤ 16) → (31 - Int32.toInt x9 ≤ n47) → (16 - Int32.toInt x12 < n91) → K91 x2 x3 x4 x5 x6 x7 x8 x9 x10 x11 x12 qB jK) (x2 x3 x4 x5 x6 x7 x8 x9 x10 x11 x12 qB : Int32) (jK : Nat → Int32) (aBN : 1 ≤ Int32.toInt x2 ∧ Int32.toInt x2 ≤ 30) (aCH : 0 ≤ Int32.toInt x3 ∧ Int32.toInt x3 ≤ 10) (aF7 : 0 ≤ Int32.toInt x5 ∧ Int32.toInt x5 ≤ 65535) (h_x6 : 0 ≤ Int32.toInt x6 ∧ Int32.toInt x6 ≤ 65535) (h_x7 : 0 ≤ Int32.toInt x7 ∧ Int32.toInt x7 ≤ 2147483647) (h_x8 : -1 ≤ Int32.toInt x8 ∧ Int32.toInt x8 ≤ 30) (h_x9 : 1 ≤ Int32.toInt x9 ∧ Int32.toInt x9 ≤ 30) (h_x10 : 0 ≤ Int32.toInt x10 ∧ Int32.toInt x10 ≤ 65535) (h_x12 : 0 ≤ Int32.toInt x12 ∧ Int32.toInt x12 ≤ 15) (aAK : 0 ≤ Int32.toInt qB ∧ Int32.toInt qB ≤ 16) (hn47 : 31 - Int32.toInt x9 ≤ n47) (hn91 : 16 - Int32.toInt x12 ≤ n91) : ws_X9_autumn_149 post K47 K91 dN pL qF jE eW eY dU jG x2 x3 x4 x5 x6 x7 x8 x9 x10 x11 x12 qB jK := by
  have l0 := aEc
  intro v5 ev5
  have f6 : Int32.toInt (x12 + 1) = Int32.toInt x12 + Int32.toInt (1 : Int32) := aAD _ _ (by omega)
  rw [← ev5] at f6
  have f7 := aAT x7
  have f8 := aAT x4
  have f9 := aAT x11
  exact hK91 x2 x3 x4 x5 x6 x7 x8 x9 x10 x11 v5 qB jK aBN aCH aF7 h_x6 h_x7 h_x8 h_x9 h_x10 (by omega) aAK hn47 (by omega)
set_option maxHeartbeats 8000000 in
set_option maxRecDepth 200000 in
theorem ts_X9_autumn_91 {post : Int32 → Int32 → (Nat → Int32) → Prop} {K47 : Int32 → Int32 → Int32 → Int32 → Int32 → Int32 → Int32 → Int32 → Int32 → (Nat → Int32) → Prop} {next : Int32 → Int32 → Int32 → Int32 → Int32 → Int32 → Int32 → Int32 → Int32 → Int32 → Int32 → Int32 → (Nat → Int32) → Prop} {n91 n47 : Int} (dN : Int32) (pL qF : Nat → Int32) (jE eW eY dU jG : Int32) (xL : 0 ≤ Int32.toInt dN ∧ Int32.toInt dN ≤ 16) (zK : 0 ≤ Int32.toInt jG ∧ Int32.toInt jG ≤ 9) (hpost : ∀ (r : Int32) (zV : Int32) (aAV : Nat → Int32), (-1 ≤ Int32.toInt r ∧ Int32.toInt r ≤ 63) → (0 ≤ Int32.toInt zV ∧ Int32.toInt zV ≤ 16) → post r zV aAV) (hK47 : ∀ (x2 : Int32) (x3 : Int32) (x4 : Int32) (x5 : Int32) (x6 : Int32) (x7 : Int32) (x8 : Int32) (x9 : Int32) (qB : Int32) (jK : Nat → Int32), (1 ≤ Int32.toInt x2 ∧ Int32.toInt x2 ≤ 30) → (0 ≤ Int32.toInt x3 ∧ Int32.toInt x3 ≤ 10) → (0 ≤ Int32.toInt x5 ∧ Int32.toInt x5 ≤ 65535) → (0 ≤ Int32.toInt x6 ∧ Int32.toInt x6 ≤ 65535) → (0 ≤ Int32.toInt x7 ∧ Int32.toInt x7 ≤ 2147483647) → (-1 ≤ Int32.toInt x8 ∧ Int32.toInt x8 ≤ 30) → (1 ≤ Int32.toInt x9 ∧ Int32.toInt x9 ≤ 31) → (0 ≤ Int32.toInt qB ∧ Int32.toInt qB ≤ 16) → (31 - Int32.toInt x9 < n47) → K47 x2 x3 x4 x5 x6 x7 x8 x9 qB jK) (hKn : ∀ (x2 : Int32) (x3 : Int32) (x4 : Int32) (x5 : Int32) (x6 : Int32) (x7 : Int32) (x8 : Int32) (x9 : Int32) (x10 : Int32) (x11 : Int32) (x12 : Int32) (qB : Int32) (jK : Nat → Int32), (1 ≤ Int32.toInt x2 ∧ Int32.toInt x2 ≤ 30) → (0 ≤ Int32.toInt x3 ∧ Int32.toInt x3 ≤ 10) → (0 ≤ Int32.toInt x5 ∧ Int32.toInt x5 ≤ 65535) → (0 ≤ Int32.toInt x6 ∧ Int32.toInt x6 ≤ 65535) → (0 ≤ Int32.toInt x7 ∧ Int32.toInt x7 ≤ 2147483647) → (-1 ≤ Int32.toInt x8 ∧ Int32.toInt x8 ≤ 30) → (1 ≤ Int32.toInt x9 ∧ Int32.toInt x9 ≤ 30) → (0 ≤ Int32.toInt x10 ∧ Int32.toInt x10 ≤ 65535) → (0 ≤ Int32.toInt x12 ∧ Int32.toInt x12 ≤ 16) → (0 ≤ Int32.toInt qB ∧ Int32.toInt qB ≤ 16) → (31 - Int32.toInt x9 ≤ n47) → (16 - Int32.toInt x12 < n91) → next x2 x3 x4 x5 x6 x7 x8 x9 x10 x11 x12 qB jK) (x2 x3 x4 x5 x6 x7 x8 x9 x10 x11 x12 qB : Int32) (jK : Nat → Int32) (aBN : 1 ≤ Int32.toInt x2 ∧ Int32.toInt x2 ≤ 30) (aCH : 0 ≤ Int32.toInt x3 ∧ Int32.toInt x3 ≤ 10) (aF7 : 0 ≤ Int32.toInt x5 ∧ Int32.toInt x5 ≤ 65535) (h_x6 : 0 ≤ Int32.toInt x6 ∧ Int32.toInt x6 ≤ 65535) (h_x7 : 0 ≤ Int32.toInt x7 ∧ Int32.toInt x7 ≤ 2147483647) (h_x8 : -1 ≤ Int32.toInt x8 ∧ Int32.toInt x8 ≤ 30) (h_x9 : 1 ≤ Int32.toInt x9 ∧ Int32.toInt x9 ≤ 30) (h_x10 : 0 ≤ Int32.toInt x10 ∧ Int32.toInt x10 ≤ 65535) (h_x12 : 0 ≤ Int32.toInt x12 ∧ Int32.toInt x12 ≤ 16) (aAK : 0 ≤ Int32.toInt qB ∧ Int32.toInt qB ≤ 16) (hn47 : 31 - Int32.toInt x9 ≤ n47) (hn91 : 16 - Int32.toInt x12 ≤ n91) : ws_X9_autumn_91 post K47 next dN pL qF jE eW eY dU jG x2 x3 x4 x5 x6 x7 x8 x9 x10 x11 x12 qB jK := by
  have l0 := aE0
  have l1 := aEc
  refine And.intro (fun c10 => ?_) (fun c10 => ?_)
  · skip
    have c10 := (aAO _ _).mp c10
    have f12 := aAT x11
    have f13 := aAT x7
    refine And.intro (fun c11 => ?_) (fun c11 => ?_)
    · skip
      have c11 := (aAO _ _).mp c11
      have f14 := aAT x4
      exact ts_X9_autumn_170 dN pL qF jE eW eY dU jG xL zK hpost hK47 x2 x3 x4 x5 x6 x7 x8 x9 qB jK aBN aCH aF7 h_x6 h_x7 h_x8 h_x9 aAK hn47
    · skip
      have c11 := mt (aAO _ _).mpr c11
      have f15 := aAT x4
      exact ts_X9_autumn_170 dN pL qF jE eW eY dU jG xL zK hpost hK47 x2 x3 x4 x5 x6 x11 x9 x9 qB jK aBN aCH aF7 h_x6 (by omega) (by omega) h_x9 aAK hn47
  · skip
    have c10 := mt (aAO _ _).mpr c10
    intro v16 ev16
    have f17 := aRJ x10 x12 (by omega)
    have hv16 := congrArg Int32.toInt ev16
    have f19 := aAQ v16 1 (by omega)
    have f20 := aBx v16 1 (by omega)
    refine And.intro (fun c18 => ?_) (fun c18 => ?_)
    · skip
      have c18 := (zJ _ _).mp c18
      have f21 := aAT x7
      have f22 := aAT x4
      have f23 := aAT x11
      exact ts_X9_autumn_149 dN pL qF jE eW eY dU jG xL zK hpost hK47 hKn x2 x3 x4 x5 x6 x7 x8 x9 x10 x11 x12 qB jK aBN aCH aF7 h_x6 h_x7 h_x8 h_x9 h_x10 (by omega) aAK hn47 hn91
    · skip
      have c18 := mt (zJ _ _).mpr c18
      intro v24 ev24
      have hv24 := congrArg Int32.toInt ev24
      intro v26 ev26
      have hv26 := congrArg Int32.toInt ev26
      intro v28 ev28
      intro v29 ev29
      have f31 := aAT v29
      refine And.intro (fun c30 => ?_) (fun c30 => ?_)
      · skip
        have c30 := (aAO _ _).mp c30
        have f32 := aAT x7
        have f33 := aAT v26
        have f34 := aAT x11
        exact ts_X9_autumn_149 dN pL qF jE eW eY dU jG xL zK hpost hK47 hKn x2 x3 v26 x5 x6 x7 x8 x9 x10 x11 x12 qB jK aBN aCH aF7 h_x6 h_x7 h_x8 h_x9 h_x10 (by omega) aAK hn47 hn91
      · skip
        have c30 := mt (aAO _ _).mpr c30
        intro v35 ev35
        have f37 := aDv 15 32768 x12 (by decide) (by omega)
        have f36 := ti_or 16 65536 x6 (1 <<< (x12 &&& 31)) (by decide) (by omega) (by omega)
        have hv35 := congrArg Int32.toInt ev35
        intro v38 ev38
        have hv38 := congrArg Int32.toInt ev38
        have f40 := aAT x7
        have f41 := aAT v26
        have f42 := aAT v38
        exact ts_X9_autumn_149 dN pL qF jE eW eY dU jG xL zK hpost hK47 hKn x2 x3 v26 x5 v35 x7 x8 x9 x10 v38 x12 qB jK aBN aCH aF7 (by omega) h_x7 h_x8 h_x9 h_x10 (by omega) aAK hn47 hn91
set_option maxHeartbeats 8000000 in
set_option maxRecDepth 200000 in
theorem tb_X9_autumn_91 {post : Int32 → Int32 → (Nat → Int32) → Prop} {K47 : Int32 → Int32 → Int32 → Int32 → Int32 → Int32 → Int32 → Int32 → Int32 → (Nat → Int32) → Prop} {n47 : Int} (dN : Int32) (pL qF : Nat → Int32) (jE eW eY dU jG : Int32) (xL : 0 ≤ Int32.toInt dN ∧ Int32.toInt dN ≤ 16) (zK : 0 ≤ Int32.toInt jG ∧ Int32.toInt jG ≤ 9) (hpost : ∀ (r : Int32) (zV : Int32) (aAV : Nat → Int32), (-1 ≤ Int32.toInt r ∧ Int32.toInt r ≤ 63) → (0 ≤ Int32.toInt zV ∧ Int32.toInt zV ≤ 16) → post r zV aAV) (hK47 : ∀ (x2 : Int32) (x3 : Int32) (x4 : Int32) (x5 : Int32) (x6 : Int32) (x7 : Int32) (x8 : Int32) (x9 : Int32) (qB : Int32) (jK : Nat → Int32), (1 ≤ Int32.toInt x2 ∧ Int32.toInt x2 ≤ 30) → (0 ≤ Int32.toInt x3 ∧ Int32.toInt x3 ≤ 10) → (0 ≤ Int32.toInt x5 ∧ Int32.toInt x5 ≤ 65535) → (0 ≤ Int32.toInt x6 ∧ Int32.toInt x6 ≤ 65535) → (0 ≤ Int32.toInt x7 ∧ Int32.toInt x7 ≤ 2147483647) → (-1 ≤ Int32.toInt x8 ∧ Int32.toInt x8 ≤ 30) → (1 ≤ Int32.toInt x9 ∧ Int32.toInt x9 ≤ 31) → (0 ≤ Int32.toInt qB ∧ Int32.toInt qB ≤ 16) → (31 - Int32.toInt x9 < n47) → K47 x2 x3 x4 x5 x6 x7 x8 x9 qB jK) : ∀ (n : Nat) (x2 x3 x4 x5 x6 x7 x8 x9 x10 x11 x12 qB : Int32) (jK : Nat → Int32), (1 ≤ Int32.toInt x2 ∧ Int32.toInt x2 ≤ 30) → (0 ≤ Int32.toInt x3 ∧ Int32.toInt x3 ≤ 10) → (0 ≤ Int32.toInt x5 ∧ Int32.toInt x5 ≤ 65535) → (0 ≤ Int32.toInt x6 ∧ Int32.toInt x6 ≤ 65535) → (0 ≤ Int32.toInt x7 ∧ Int32.toInt x7 ≤ 2147483647) → (-1 ≤ Int32.toInt x8 ∧ Int32.toInt x8 ≤ 30) → (1 ≤ Int32.toInt x9 ∧ Int32.toInt x9 ≤ 30) → (0 ≤ Int32.toInt x10 ∧ Int32.toInt x10 ≤ 65535) → (0 ≤ Int32.toInt x12 ∧ Int32.toInt x12 ≤ 16) → (0 ≤ Int32.toInt qB ∧ Int32.toInt qB ≤ 16) → (31 - Int32.toInt x9 ≤ n47) → (16 - Int32.toInt x12 < (n : Int)) → wb_X9_autumn_91 post K47 dN pL qF jE eW eY dU jG n x2 x3 x4 x5 x6 x7 x8 x9 x10 x11 x12 qB jK := by
  intro n
  induction n with
  | zero =>
    intro x2 x3 x4 x5 x6 x7 x8 x9 x10 x11 x12 qB jK aBN aCH aF7 h_x6 h_x7 h_x8 h_x9 h_x10 h_x12 aAK hn47 hm
    exfalso; omega
  | succ n ih =>
    intro x2 x3 x4 x5 x6 x7 x8 x9 x10 x11 x12 qB jK aBN aCH aF7 h_x6 h_x7 h_x8 h_x9 h_x10 h_x12 aAK hn47 hm
    exact ts_X9_autumn_91 dN pL qF jE eW eY dU jG xL zK hpost hK47 ih x2 x3 x4 x5 x6 x7 x8 x9 x10 x11 x12 qB jK aBN aCH aF7 h_x6 h_x7 h_x8 h_x9 h_x10 h_x12 aAK hn47 (by omega)
set_option maxHeartbeats 8000000 in
set_option maxRecDepth 200000 in
theorem ts_X9_autumn_47 {post : Int32 → Int32 → (Nat → Int32) → Prop} {next : Int32 → Int32 → Int32 → Int32 → Int32 → Int32 → Int32 → Int32 → Int32 → (Nat → Int32) → Prop} {n47 : Int} (dN : Int32) (pL qF : Nat → Int32) (jE eW eY dU jG : Int32) (xL : 0 ≤ Int32.toInt dN ∧ Int32.toInt dN ≤ 16) (zK : 0 ≤ Int32.toInt jG ∧ Int32.toInt jG ≤ 9) (hpost : ∀ (r : Int32) (zV : Int32) (aAV : Nat → Int32), (-1 ≤ Int32.toInt r ∧ Int32.toInt r ≤ 63) → (0 ≤ Int32.toInt zV ∧ Int32.toInt zV ≤ 16) → post r zV aAV) (hKn : ∀ (x2 : Int32) (x3 : Int32) (x4 : Int32) (x5 : Int32) (x6 : Int32) (x7 : Int32) (x8 : Int32) (x9 : Int32) (qB : Int32) (jK : Nat → Int32), (1 ≤ Int32.toInt x2 ∧ Int32.toInt x2 ≤ 30) → (0 ≤ Int32.toInt x3 ∧ Int32.toInt x3 ≤ 10) → (0 ≤ Int32.toInt x5 ∧ Int32.toInt x5 ≤ 65535) → (0 ≤ Int32.toInt x6 ∧ Int32.toInt x6 ≤ 65535) → (0 ≤ Int32.toInt x7 ∧ Int32.toInt x7 ≤ 2147483647) → (-1 ≤ Int32.toInt x8 ∧ Int32.toInt x8 ≤ 30) → (1 ≤ Int32.toInt x9 ∧ Int32.toInt x9 ≤ 31) → (0 ≤ Int32.toInt qB ∧ Int32.toInt qB ≤ 16) → (31 - Int32.toInt x9 < n47) → next x2 x3 x4 x5 x6 x7 x8 x9 qB jK) (x2 x3 x4 x5 x6 x7 x8 x9 qB : Int32) (jK : Nat → Int32) (aBN : 1 ≤ Int32.toInt x2 ∧ Int32.toInt x2 ≤ 30) (aCH : 0 ≤ Int32.toInt x3 ∧ Int32.toInt x3 ≤ 10) (aF7 : 0 ≤ Int32.toInt x5 ∧ Int32.toInt x5 ≤ 65535) (h_x6 : 0 ≤ Int32.toInt x6 ∧ Int32.toInt x6 ≤ 65535) (h_x7 : 0 ≤ Int32.toInt x7 ∧ Int32.toInt x7 ≤ 2147483647) (h_x8 : -1 ≤ Int32.toInt x8 ∧ Int32.toInt x8 ≤ 30) (h_x9 : 1 ≤ Int32.toInt x9 ∧ Int32.toInt x9 ≤ 31) (aAK : 0 ≤ Int32.toInt qB ∧ Int32.toInt qB ≤ 16) (hn47 : 31 - Int32.toInt x9 ≤ n47) : ws_X9_autumn_47 post next dN pL qF jE eW eY dU jG x2 x3 x4 x5 x6 x7 x8 x9 qB jK := by
  have l0 := aE0
  have l1 := aEc
  have l2 := aKH
  have l3 := li_16
  have l4 := aJ8
  have l5 := li_63
  have l6 := aJ9
  have l7 := li_9
  refine And.intro (fun c43 => ?_) (fun c43 => ?_)
  · skip
    have c43 := (aAd _ _).mp c43
    refine aUx xL (fun r44 => ?_)
    refine And.intro (fun h9 => absurd h9 (by decide)) (fun _ => ?_)
    refine And.intro (aBZ (by omega)) ?_
    intro v45 ev45
    have f46 : Int32.toInt (0 + 1) = Int32.toInt (0 : Int32) + Int32.toInt (1 : Int32) := aAD _ _ (by omega)
    rw [← ev45] at f46
    refine And.intro (fun c47 => ?_) (fun c47 => ?_)
    · skip
      have c47 := (aAO _ _).mp c47
      exfalso; omega
    · skip
      have c47 := mt (aAO _ _).mpr c47
      refine And.intro (aBZ (by omega)) ?_
      intro v48 ev48
      have f49 : Int32.toInt (v45 + 1) = Int32.toInt v45 + Int32.toInt (1 : Int32) := aAD _ _ (by omega)
      rw [← ev48] at f49
      refine And.intro (fun c50 => ?_) (fun c50 => ?_)
      · skip
        have c50 := (aAO _ _).mp c50
        exfalso; omega
      · skip
        have c50 := mt (aAO _ _).mpr c50
        refine And.intro (aBZ (by omega)) ?_
        intro v51 ev51
        have f52 : Int32.toInt (v48 + 1) = Int32.toInt v48 + Int32.toInt (1 : Int32) := aAD _ _ (by omega)
        rw [← ev51] at f52
        intro v53 ev53
        intro v54 ev54
        have f56 := aAQ v53 1431655765 (by omega)
        have f55 : Int32.toInt (x6 - (v53 &&& 1431655765)) = Int32.toInt x6 - Int32.toInt (v53 &&& 1431655765) := aCA _ _ (by omega)
        rw [← ev54] at f55
        intro v57 ev57
        have f58 := aAQ v54 858993459 (by omega)
        have hv57 := congrArg Int32.toInt ev57
        intro v59 ev59
        intro v60 ev60
        have f62 := aAQ v59 858993459 (by omega)
        have f61 : Int32.toInt (v57 + (v59 &&& 858993459)) = Int32.toInt v57 + Int32.toInt (v59 &&& 858993459) := aAD _ _ (by omega)
        rw [← ev60] at f61
        intro v63 ev63
        have hv63 := congrArg Int32.toInt ev63
        intro v65 ev65
        have f66 := aAQ v63 252645135 (by omega)
        have hv65 := congrArg Int32.toInt ev65
        intro v67 ev67
        have hv67 := congrArg Int32.toInt ev67
        intro v69 ev69
        have hv69 := congrArg Int32.toInt ev69
        have f71 := aAQ v69 63 (by omega)
        exact hpost _ _ _ (by omega) (by omega)
  · skip
    have c43 := mt (aAd _ _).mpr c43
    intro v72 ev72
    have f74 := aBx x5 (x6 ^^^ (-1)) (by omega)
    have hv72 := congrArg Int32.toInt ev72
    intro v75 ev75
    have f76 : Int32.toInt (jG + x9) = Int32.toInt jG + Int32.toInt x9 := aAD _ _ (by omega)
    rw [← ev75] at f76
    intro v77 ev77
    have f78 := ti_min (9 : Int32) v75
    have hv77 := congrArg Int32.toInt ev77
    refine t_X3_ripeBy (by omega) xL (fun r79 h_r79 => ?_)
    intro v80 ev80
    have f81 := aAQ v72 r79 (by omega)
    have f82 := aBx v72 r79 (by omega)
    have hv80 := congrArg Int32.toInt ev80
    have f83 := aAT x7
    have f84 := aAT x4
    exact ⟨18, tb_X9_autumn_91 dN pL qF jE eW eY dU jG xL zK hpost hKn _ x2 x3 x4 x5 x6 x7 x8 x9 v80 0 0 qB jK aBN aCH aF7 h_x6 h_x7 h_x8 (by omega) (by omega) (by omega) aAK hn47 (by omega)⟩
set_option maxHeartbeats 8000000 in
set_option maxRecDepth 200000 in
theorem tb_X9_autumn_47 {post : Int32 → Int32 → (Nat → Int32) → Prop} (dN : Int32) (pL qF : Nat → Int32) (jE eW eY dU jG : Int32) (xL : 0 ≤ Int32.toInt dN ∧ Int32.toInt dN ≤ 16) (zK : 0 ≤ Int32.toInt jG ∧ Int32.toInt jG ≤ 9) (hpost : ∀ (r : Int32) (zV : Int32) (aAV : Nat → Int32), (-1 ≤ Int32.toInt r ∧ Int32.toInt r ≤ 63) → (0 ≤ Int32.toInt zV ∧ Int32.toInt zV ≤ 16) → post r zV aAV) : ∀ (n : Nat) (x2 x3 x4 x5 x6 x7 x8 x9 qB : Int32) (jK : Nat → Int32), (1 ≤ Int32.toInt x2 ∧ Int32.toInt x2 ≤ 30) → (0 ≤ Int32.toInt x3 ∧ Int32.toInt x3 ≤ 10) → (0 ≤ Int32.toInt x5 ∧ Int32.toInt x5 ≤ 65535) → (0 ≤ Int32.toInt x6 ∧ Int32.toInt x6 ≤ 65535) → (0 ≤ Int32.toInt x7 ∧ Int32.toInt x7 ≤ 2147483647) → (-1 ≤ Int32.toInt x8 ∧ Int32.toInt x8 ≤ 30) → (1 ≤ Int32.toInt x9 ∧ Int32.toInt x9 ≤ 31) → (0 ≤ Int32.toInt qB ∧ Int32.toInt qB ≤ 16) → (31 - Int32.toInt x9 < (n : Int)) → wb_X9_autumn_47 post dN pL qF jE eW eY dU jG n x2 x3 x4 x5 x6 x7 x8 x9 qB jK := by
  intro n
  induction n with
  | zero =>
    intro x2 x3 x4 x5 x6 x7 x8 x9 qB jK aBN aCH aF7 h_x6 h_x7 h_x8 h_x9 aAK hm
    exfalso; omega
  | succ n ih =>
    intro x2 x3 x4 x5 x6 x7 x8 x9 qB jK aBN aCH aF7 h_x6 h_x7 h_x8 h_x9 aAK hm
    exact ts_X9_autumn_47 dN pL qF jE eW eY dU jG xL zK hpost ih x2 x3 x4 x5 x6 x7 x8 x9 qB jK aBN aCH aF7 h_x6 h_x7 h_x8 h_x9 aAK (by omega)
set_option maxHeartbeats 8000000 in
set_option maxRecDepth 200000 in
theorem t_X9_autumn {post : Int32 → Int32 → (Nat → Int32) → Prop} {p0 p1 p2 dN : Int32} {pL qF : Nat → Int32} {jE eW eY dU jG qB : Int32} {jK : Nat → Int32} (xL : 0 ≤ Int32.toInt dN ∧ Int32.toInt dN ≤ 16) (zK : 0 ≤ Int32.toInt jG ∧ Int32.toInt jG ≤ 9) (aAK : 0 ≤ Int32.toInt qB ∧ Int32.toInt qB ≤ 16) (hpost : ∀ (r : Int32) (zV : Int32) (aAV : Nat → Int32), (-1 ≤ Int32.toInt r ∧ Int32.toInt r ≤ 63) → (0 ≤ Int32.toInt zV ∧ Int32.toInt zV ≤ 16) → post r zV aAV) : wp_X9_autumn post p0 p1 p2 dN pL qF jE eW eY dU jG qB jK := by
  have l0 := aI2
  have l1 := aE0
  have l2 := aEc
  have l3 := li_10
  have l4 := li_30
  have f86 := aAT p1
  refine And.intro (fun c85 => ?_) (fun c85 => ?_)
  · skip
    have c85 := (aAd _ _).mp c85
    exact hpost _ _ _ (by omega) aAK
  · skip
    have c85 := mt (aAd _ _).mpr c85
    refine And.intro (fun c87 => ?_) (fun c87 => ?_)
    · skip
      have c87 := (aAd _ _).mp c87
      exact hpost _ _ _ (by omega) aAK
    · skip
      have c87 := mt (aAd _ _).mpr c87
      have f89 := aAT p2
      refine And.intro (fun c88 => ?_) (fun c88 => ?_)
      · skip
        have c88 := (aAd _ _).mp c88
        exact hpost _ _ _ (by omega) aAK
      · skip
        have c88 := mt (aAd _ _).mpr c88
        refine And.intro (fun c90 => ?_) (fun c90 => ?_)
        · skip
          have c90 := (aAO _ _).mp c90
          intro v91 ev91
          have f92 := aDv 16 65536 dN (by decide) (by omega)
          have hv91 := congrArg Int32.toInt ev91
          intro v93 ev93
          intro v94 ev94
          have f96 : Int32.toInt (v91 - 1) = Int32.toInt v91 - Int32.toInt (1 : Int32) := aCA _ _ (by omega)
          have f97 := aBx (v91 - 1) (v94 ^^^ (-1)) (by omega)
          have f98 := aAT p0
          exact ⟨32, tb_X9_autumn_47 dN pL qF jE eW eY dU jG xL zK hpost _ p1 p2 p0 ((v91 - 1) &&& (v94 ^^^ (-1))) 0 0 (-1) 1 qB jK (by omega) (by omega) (by omega) (by omega) (by omega) (by omega) (by omega) aAK (by omega)⟩
        · skip
          have c90 := mt (aAO _ _).mpr c90
          exact hpost _ _ _ (by omega) aAK
set_option maxHeartbeats 8000000 in
set_option maxRecDepth 200000 in
theorem t_X9_keep {post : Int32 → (Nat → Int32) → (Nat → Int32) → Prop} {p0 jE eW eY dU fY gJ jG nU : Int32} {rQ uF : Nat → Int32} (aAC : -1 ≤ Int32.toInt fY ∧ Int32.toInt fY ≤ 7) (zK : 0 ≤ Int32.toInt jG ∧ Int32.toInt jG ≤ 9) (aA9 : ∀ k : Nat, k % 8 = 4 → -1 ≤ Int32.toInt (rQ k) ∧ Int32.toInt (rQ k) ≤ 7) (aBA : ∀ k : Nat, k % 8 = 6 → 0 ≤ Int32.toInt (rQ k) ∧ Int32.toInt (rQ k) ≤ 9) (aBU : ∀ k : Nat, 0 ≤ Int32.toInt (uF k) ∧ Int32.toInt (uF k) ≤ 1) (hpost : ∀ (r : Int32) (pa_keptCells' : Nat → Int32) (aHq : Nat → Int32), (0 ≤ Int32.toInt r ∧ Int32.toInt r ≤ 1) → (∀ k : Nat, k % 8 = 4 → -1 ≤ Int32.toInt (pa_keptCells' k) ∧ Int32.toInt (pa_keptCells' k) ≤ 7) → (∀ k : Nat, k % 8 = 6 → 0 ≤ Int32.toInt (pa_keptCells' k) ∧ Int32.toInt (pa_keptCells' k) ≤ 9) → (∀ k : Nat, 0 ≤ Int32.toInt (aHq k) ∧ Int32.toInt (aHq k) ≤ 1) → ((0 ≤ Int32.toInt p0 ∧ Int32.toInt p0 ≤ 1 ∧ Int32.toInt r = 1) ∨ ((Int32.toInt p0 < 0 ∨ 1 < Int32.toInt p0) ∧ Int32.toInt r = 0)) → post r pa_keptCells' aHq) : wp_X9_keep post p0 jE eW eY dU fY gJ jG nU rQ uF := by
  have l0 := aE0
  have l1 := aEc
  have l2 := li_16
  have l3 := li_2
  have l4 := li_3
  have l5 := li_4
  have l6 := li_5
  have l7 := li_6
  have l8 := li_7
  have l9 := li_8
  have f2 := aAT p0
  refine And.intro (fun c1 => ?_) (fun c1 => ?_)
  · skip
    have c1 := (aAd _ _).mp c1
    refine And.intro (aHE (by omega)) ?_
    exact hpost _ _ _ (by omega) aA9 aBA aBU (by omega)
  · skip
    have c1 := mt (aAd _ _).mpr c1
    refine And.intro (fun c3 => ?_) (fun c3 => ?_)
    · skip
      have c3 := (aAd _ _).mp c3
      intro v4 ev4
      have f5 : Int32.toInt (p0 * 8) = Int32.toInt p0 * 8 := ta_mulc _ _ (by decide) (by omega)
      rw [← ev4] at f5
      refine And.intro (fun c6 => ?_) (fun c6 => ?_)
      · skip
        have c6 := (aAd _ _).mp c6
        exfalso; omega
      · skip
        have c6 := mt (aAd _ _).mpr c6
        have f8 : Int32.toInt (16 - 8) = Int32.toInt (16 : Int32) - Int32.toInt (8 : Int32) := aCA _ _ (by omega)
        refine And.intro (fun c7 => ?_) (fun c7 => ?_)
        · skip
          have c7 := (aAO _ _).mp c7
          refine And.intro (aBZ (by omega)) ?_
          have f10 := aAT jE
          have e9 : ∀ k : Nat, k % 8 = 4 → -1 ≤ Int32.toInt ((upd rQ v4.toNatClampNeg jE) k) ∧ Int32.toInt ((upd rQ v4.toNatClampNeg jE) k) ≤ 7 := aCJ (C := fun k => k % 8 = 4) aA9 (fun hk => by have e9 : v4.toNatClampNeg = (Int32.toInt v4).toNat := rfl; have hk : v4.toNatClampNeg % 8 = 4 := hk; omega)
          have e11 : ∀ k : Nat, k % 8 = 6 → 0 ≤ Int32.toInt ((upd rQ v4.toNatClampNeg jE) k) ∧ Int32.toInt ((upd rQ v4.toNatClampNeg jE) k) ≤ 9 := aCJ (C := fun k => k % 8 = 6) aBA (fun hk => by have e9 : v4.toNatClampNeg = (Int32.toInt v4).toNat := rfl; have hk : v4.toNatClampNeg % 8 = 6 := hk; omega)
          intro v12 ev12
          have f13 : Int32.toInt (v4 + 1) = Int32.toInt v4 + Int32.toInt (1 : Int32) := aAD _ _ (by omega)
          rw [← ev12] at f13
          refine And.intro (aBZ (by omega)) ?_
          have f15 := aAT eW
          have e14 : ∀ k : Nat, k % 8 = 4 → -1 ≤ Int32.toInt ((upd (upd rQ v4.toNatClampNeg jE) v12.toNatClampNeg eW) k) ∧ Int32.toInt ((upd (upd rQ v4.toNatClampNeg jE) v12.toNatClampNeg eW) k) ≤ 7 := aCJ (C := fun k => k % 8 = 4) e9 (fun hk => by have e9 : v12.toNatClampNeg = (Int32.toInt v12).toNat := rfl; have hk : v12.toNatClampNeg % 8 = 4 := hk; omega)
          have e16 : ∀ k : Nat, k % 8 = 6 → 0 ≤ Int32.toInt ((upd (upd rQ v4.toNatClampNeg jE) v12.toNatClampNeg eW) k) ∧ Int32.toInt ((upd (upd rQ v4.toNatClampNeg jE) v12.toNatClampNeg eW) k) ≤ 9 := aCJ (C := fun k => k % 8 = 6) e11 (fun hk => by have e9 : v12.toNatClampNeg = (Int32.toInt v12).toNat := rfl; have hk : v12.toNatClampNeg % 8 = 6 := hk; omega)
          intro v17 ev17
          have f18 : Int32.toInt (v4 + 2) = Int32.toInt v4 + Int32.toInt (2 : Int32) := aAD _ _ (by omega)
          rw [← ev17] at f18
          refine And.intro (aBZ (by omega)) ?_
          have f20 := aAT eY
          have e19 : ∀ k : Nat, k % 8 = 4 → -1 ≤ Int32.toInt ((upd (upd (upd rQ v4.toNatClampNeg jE) v12.toNatClampNeg eW) v17.toNatClampNeg eY) k) ∧ Int32.toInt ((upd (upd (upd rQ v4.toNatClampNeg jE) v12.toNatClampNeg eW) v17.toNatClampNeg eY) k) ≤ 7 := aCJ (C := fun k => k % 8 = 4) e14 (fun hk => by have e9 : v17.toNatClampNeg = (Int32.toInt v17).toNat := rfl; have hk : v17.toNatClampNeg % 8 = 4 := hk; omega)
          have e21 : ∀ k : Nat, k % 8 = 6 → 0 ≤ Int32.toInt ((upd (upd (upd rQ v4.toNatClampNeg jE) v12.toNatClampNeg eW) v17.toNatClampNeg eY) k) ∧ Int32.toInt ((upd (upd (upd rQ v4.toNatClampNeg jE) v12.toNatClampNeg eW) v17.toNatClampNeg eY) k) ≤ 9 := aCJ (C := fun k => k % 8 = 6) e16 (fun hk => by have e9 : v17.toNatClampNeg = (Int32.toInt v17).toNat := rfl; have hk : v17.toNatClampNeg % 8 = 6 := hk; omega)
          intro v22 ev22
          have f23 : Int32.toInt (v4 + 3) = Int32.toInt v4 + Int32.toInt (3 : Int32) := aAD _ _ (by omega)
          rw [← ev22] at f23
          refine And.intro (aBZ (by omega)) ?_
          have f25 := aAT dU
          have e24 : ∀ k : Nat, k % 8 = 4 → -1 ≤ Int32.toInt ((upd (upd (upd (upd rQ v4.toNatClampNeg jE) v12.toNatClampNeg eW) v17.toNatClampNeg eY) v22.toNatClampNeg dU) k) ∧ Int32.toInt ((upd (upd (upd (upd rQ v4.toNatClampNeg jE) v12.toNatClampNeg eW) v17.toNatClampNeg eY) v22.toNatClampNeg dU) k) ≤ 7 := aCJ (C := fun k => k % 8 = 4) e19 (fun hk => by have e9 : v22.toNatClampNeg = (Int32.toInt v22).toNat := rfl; have hk : v22.toNatClampNeg % 8 = 4 := hk; omega)
          have e26 : ∀ k : Nat, k % 8 = 6 → 0 ≤ Int32.toInt ((upd (upd (upd (upd rQ v4.toNatClampNeg jE) v12.toNatClampNeg eW) v17.toNatClampNeg eY) v22.toNatClampNeg dU) k) ∧ Int32.toInt ((upd (upd (upd (upd rQ v4.toNatClampNeg jE) v12.toNatClampNeg eW) v17.toNatClampNeg eY) v22.toNatClampNeg dU) k) ≤ 9 := aCJ (C := fun k => k % 8 = 6) e21 (fun hk => by have e9 : v22.toNatClampNeg = (Int32.toInt v22).toNat := rfl; have hk : v22.toNatClampNeg % 8 = 6 := hk; omega)
          intro v27 ev27
          have f28 : Int32.toInt (v4 + 4) = Int32.toInt v4 + Int32.toInt (4 : Int32) := aAD _ _ (by omega)
          rw [← ev27] at f28
          refine And.intro (aBZ (by omega)) ?_
          have e29 : ∀ k : Nat, k % 8 = 4 → -1 ≤ Int32.toInt ((upd (upd (upd (upd (upd rQ v4.toNatClampNeg jE) v12.toNatClampNeg eW) v17.toNatClampNeg eY) v22.toNatClampNeg dU) v27.toNatClampNeg fY) k) ∧ Int32.toInt ((upd (upd (upd (upd (upd rQ v4.toNatClampNeg jE) v12.toNatClampNeg eW) v17.toNatClampNeg eY) v22.toNatClampNeg dU) v27.toNatClampNeg fY) k) ≤ 7 := aCJ (C := fun k => k % 8 = 4) e24 (fun hk => by have e9 : v27.toNatClampNeg = (Int32.toInt v27).toNat := rfl; have hk : v27.toNatClampNeg % 8 = 4 := hk; omega)
          have e30 : ∀ k : Nat, k % 8 = 6 → 0 ≤ Int32.toInt ((upd (upd (upd (upd (upd rQ v4.toNatClampNeg jE) v12.toNatClampNeg eW) v17.toNatClampNeg eY) v22.toNatClampNeg dU) v27.toNatClampNeg fY) k) ∧ Int32.toInt ((upd (upd (upd (upd (upd rQ v4.toNatClampNeg jE) v12.toNatClampNeg eW) v17.toNatClampNeg eY) v22.toNatClampNeg dU) v27.toNatClampNeg fY) k) ≤ 9 := aCJ (C := fun k => k % 8 = 6) e26 (fun hk => by have e9 : v27.toNatClampNeg = (Int32.toInt v27).toNat := rfl; have hk : v27.toNatClampNeg % 8 = 6 := hk; omega)
          intro v31 ev31
          have f32 : Int32.toInt (v4 + 5) = Int32.toInt v4 + Int32.toInt (5 : Int32) := aAD _ _ (by omega)
          rw [← ev31] at f32
          refine And.intro (aBZ (by omega)) ?_
          have f34 := aAT gJ
          have e33 : ∀ k : Nat, k % 8 = 4 → -1 ≤ Int32.toInt ((upd (upd (upd (upd (upd (upd rQ v4.toNatClampNeg jE) v12.toNatClampNeg eW) v17.toNatClampNeg eY) v22.toNatClampNeg dU) v27.toNatClampNeg fY) v31.toNatClampNeg gJ) k) ∧ Int32.toInt ((upd (upd (upd (upd (upd (upd rQ v4.toNatClampNeg jE) v12.toNatClampNeg eW) v17.toNatClampNeg eY) v22.toNatClampNeg dU) v27.toNatClampNeg fY) v31.toNatClampNeg gJ) k) ≤ 7 := aCJ (C := fun k => k % 8 = 4) e29 (fun hk => by have e9 : v31.toNatClampNeg = (Int32.toInt v31).toNat := rfl; have hk : v31.toNatClampNeg % 8 = 4 := hk; omega)
          have e35 : ∀ k : Nat, k % 8 = 6 → 0 ≤ Int32.toInt ((upd (upd (upd (upd (upd (upd rQ v4.toNatClampNeg jE) v12.toNatClampNeg eW) v17.toNatClampNeg eY) v22.toNatClampNeg dU) v27.toNatClampNeg fY) v31.toNatClampNeg gJ) k) ∧ Int32.toInt ((upd (upd (upd (upd (upd (upd rQ v4.toNatClampNeg jE) v12.toNatClampNeg eW) v17.toNatClampNeg eY) v22.toNatClampNeg dU) v27.toNatClampNeg fY) v31.toNatClampNeg gJ) k) ≤ 9 := aCJ (C := fun k => k % 8 = 6) e30 (fun hk => by have e9 : v31.toNatClampNeg = (Int32.toInt v31).toNat := rfl; have hk : v31.toNatClampNeg % 8 = 6 := hk; omega)
          intro v36 ev36
          have f37 : Int32.toInt (v4 + 6) = Int32.toInt v4 + Int32.toInt (6 : Int32) := aAD _ _ (by omega)
          rw [← ev36] at f37
          refine And.intro (aBZ (by omega)) ?_
          have e38 : ∀ k : Nat, k % 8 = 4 → -1 ≤ Int32.toInt ((upd (upd (upd (upd (upd (upd (upd rQ v4.toNatClampNeg jE) v12.toNatClampNeg eW) v17.toNatClampNeg eY) v22.toNatClampNeg dU) v27.toNatClampNeg fY) v31.toNatClampNeg gJ) v36.toNatClampNeg jG) k) ∧ Int32.toInt ((upd (upd (upd (upd (upd (upd (upd rQ v4.toNatClampNeg jE) v12.toNatClampNeg eW) v17.toNatClampNeg eY) v22.toNatClampNeg dU) v27.toNatClampNeg fY) v31.toNatClampNeg gJ) v36.toNatClampNeg jG) k) ≤ 7 := aCJ (C := fun k => k % 8 = 4) e33 (fun hk => by have e9 : v36.toNatClampNeg = (Int32.toInt v36).toNat := rfl; have hk : v36.toNatClampNeg % 8 = 4 := hk; omega)
          have e39 : ∀ k : Nat, k % 8 = 6 → 0 ≤ Int32.toInt ((upd (upd (upd (upd (upd (upd (upd rQ v4.toNatClampNeg jE) v12.toNatClampNeg eW) v17.toNatClampNeg eY) v22.toNatClampNeg dU) v27.toNatClampNeg fY) v31.toNatClampNeg gJ) v36.toNatClampNeg jG) k) ∧ Int32.toInt ((upd (upd (upd (upd (upd (upd (upd rQ v4.toNatClampNeg jE) v12.toNatClampNeg eW) v17.toNatClampNeg eY) v22.toNatClampNeg dU) v27.toNatClampNeg fY) v31.toNatClampNeg gJ) v36.toNatClampNeg jG) k) ≤ 9 := aCJ (C := fun k => k % 8 = 6) e35 (fun hk => by have e9 : v36.toNatClampNeg = (Int32.toInt v36).toNat := rfl; have hk : v36.toNatClampNeg % 8 = 6 := hk; omega)
          intro v40 ev40
          have f41 : Int32.toInt (v4 + 7) = Int32.toInt v4 + Int32.toInt (7 : Int32) := aAD _ _ (by omega)
          rw [← ev40] at f41
          refine And.intro (aBZ (by omega)) ?_
          have f43 := aAT nU
          have e42 : ∀ k : Nat, k % 8 = 4 → -1 ≤ Int32.toInt ((upd (upd (upd (upd (upd (upd (upd (upd rQ v4.toNatClampNeg jE) v12.toNatClampNeg eW) v17.toNatClampNeg eY) v22.toNatClampNeg dU) v27.toNatClampNeg fY) v31.toNatClampNeg gJ) v36.toNatClampNeg jG) v40.toNatClampNeg nU) k) ∧ Int32.toInt ((upd (upd (upd (upd (upd (upd (upd (upd rQ v4.toNatClampNeg jE) v12.toNatClampNeg eW) v17.toNatClampNeg eY) v22.toNatClampNeg dU) v27.toNatClampNeg fY) v31.toNatClampNeg gJ) v36.toNatClampNeg jG) v40.toNatClampNeg nU) k) ≤ 7 := aCJ (C := fun k => k % 8 = 4) e38 (fun hk => by have e9 : v40.toNatClampNeg = (Int32.toInt v40).toNat := rfl; have hk : v40.toNatClampNeg % 8 = 4 := hk; omega)
          have e44 : ∀ k : Nat, k % 8 = 6 → 0 ≤ Int32.toInt ((upd (upd (upd (upd (upd (upd (upd (upd rQ v4.toNatClampNeg jE) v12.toNatClampNeg eW) v17.toNatClampNeg eY) v22.toNatClampNeg dU) v27.toNatClampNeg fY) v31.toNatClampNeg gJ) v36.toNatClampNeg jG) v40.toNatClampNeg nU) k) ∧ Int32.toInt ((upd (upd (upd (upd (upd (upd (upd (upd rQ v4.toNatClampNeg jE) v12.toNatClampNeg eW) v17.toNatClampNeg eY) v22.toNatClampNeg dU) v27.toNatClampNeg fY) v31.toNatClampNeg gJ) v36.toNatClampNeg jG) v40.toNatClampNeg nU) k) ≤ 9 := aCJ (C := fun k => k % 8 = 6) e39 (fun hk => by have e9 : v40.toNatClampNeg = (Int32.toInt v40).toNat := rfl; have hk : v40.toNatClampNeg % 8 = 6 := hk; omega)
          refine And.intro (aBZ (by omega)) ?_
          have qa45 := ti_nar_boolean 1
          have a45 : ∀ k : Nat, 0 ≤ Int32.toInt ((upd uF p0.toNatClampNeg (vp_nar .boolean 1)) k) ∧ Int32.toInt ((upd uF p0.toNatClampNeg (vp_nar .boolean 1)) k) ≤ 1 := t_upd (fun k => by have q9 := aBU k; omega) (by omega)
          refine And.intro (aHE (by omega)) ?_
          exact hpost _ _ _ (by omega) e42 e44 (fun k => by have q9 := a45 k; omega) (by omega)
        · skip
          have c7 := mt (aAO _ _).mpr c7
          exfalso; omega
    · skip
      have c3 := mt (aAd _ _).mpr c3
      refine And.intro (aHE (by omega)) ?_
      exact hpost _ _ _ (by omega) aA9 aBA aBU (by omega)
