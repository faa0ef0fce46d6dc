set_option maxHeartbeats 8000000 in
set_option maxRecDepth 200000 in
theorem ts_X10_below_42 {post : Int32 → Prop} {K5 : Int32 → Int32 → Int32 → Int32 → Prop} {n5 : Int} (bT : Int32) (m_x gR : Nat → Int32) (xJ : 0 ≤ Int32.toInt bT ∧ Int32.toInt bT ≤ 16) (aAW : ∀ k : Nat, 0 ≤ Int32.toInt (m_x k) ∧ Int32.toInt (m_x k) ≤ 99) (xK : ∀ k : Nat, 0 ≤ Int32.toInt (gR k) ∧ Int32.toInt (gR k) ≤ 99) (hpost : ∀ (r : Int32) , (0 ≤ Int32.toInt r ∧ Int32.toInt r ≤ 65535) → post r) (hK5 : ∀ (x1 : Int32) (x2 : Int32) (x3 : Int32) (x4 : Int32), (0 ≤ Int32.toInt x1 ∧ Int32.toInt x1 ≤ 15) → (0 ≤ Int32.toInt x2 ∧ Int32.toInt x2 ≤ 65535) → (0 ≤ Int32.toInt x3 ∧ Int32.toInt x3 ≤ 65535) → (0 ≤ Int32.toInt x4 ∧ Int32.toInt x4 ≤ 16) → (16 - Int32.toInt x4 < n5) → K5 x1 x2 x3 x4) (x1 x2 x4 k0 k1 : Int32) (aBK : 0 ≤ Int32.toInt x1 ∧ Int32.toInt x1 ≤ 15) (aBN : 0 ≤ Int32.toInt x2 ∧ Int32.toInt x2 ≤ 65535) (aDO : 0 ≤ Int32.toInt x4 ∧ Int32.toInt x4 ≤ 15) (h_k0 : 0 ≤ Int32.toInt k0 ∧ Int32.toInt k0 ≤ 65535) (h_k1 : 0 ≤ Int32.toInt k1 ∧ Int32.toInt k1 ≤ 32768) (hn5 : 16 - Int32.toInt x4 ≤ n5) : ws_X10_below_42 post K5 bT m_x gR x1 x2 x4 k0 k1 := by
  have l0 := aEc
  intro v1 ev1
  have f2 := ti_or 16 65536 k0 k1 (by decide) (by omega) (by omega)
  have hv1 := congrArg Int32.toInt ev1
  intro v3 ev3
  have f4 : Int32.toInt (x4 + 1) = Int32.toInt x4 + Int32.toInt (1 : Int32) := aAD _ _ (by omega)
  rw [← ev3] at f4
  exact hK5 x1 x2 v1 v3 aBK aBN (by omega) (by omega) (by omega)
set_option maxHeartbeats 8000000 in
set_option maxRecDepth 200000 in
theorem ts_X10_below_41 {post : Int32 → Prop} {K5 : Int32 → Int32 → Int32 → Int32 → Prop} {n5 : Int} (bT : Int32) (m_x gR : Nat → Int32) (xJ : 0 ≤ Int32.toInt bT ∧ Int32.toInt bT ≤ 16) (aAW : ∀ k : Nat, 0 ≤ Int32.toInt (m_x k) ∧ Int32.toInt (m_x k) ≤ 99) (xK : ∀ k : Nat, 0 ≤ Int32.toInt (gR k) ∧ Int32.toInt (gR k) ≤ 99) (hpost : ∀ (r : Int32) , (0 ≤ Int32.toInt r ∧ Int32.toInt r ≤ 65535) → post r) (hK5 : ∀ (x1 : Int32) (x2 : Int32) (x3 : Int32) (x4 : Int32), (0 ≤ Int32.toInt x1 ∧ Int32.toInt x1 ≤ 15) → (0 ≤ Int32.toInt x2 ∧ Int32.toInt x2 ≤ 65535) → (0 ≤ Int32.toInt x3 ∧ Int32.toInt x3 ≤ 65535) → (0 ≤ Int32.toInt x4 ∧ Int32.toInt x4 ≤ 16) → (16 - Int32.toInt x4 < n5) → K5 x1 x2 x3 x4) (x1 x2 x4 k0 : Int32) (aBK : 0 ≤ Int32.toInt x1 ∧ Int32.toInt x1 ≤ 15) (aBN : 0 ≤ Int32.toInt x2 ∧ Int32.toInt x2 ≤ 65535) (aDO : 0 ≤ Int32.toInt x4 ∧ Int32.toInt x4 ≤ 15) (h_k0 : 0 ≤ Int32.toInt k0 ∧ Int32.toInt k0 ≤ 65535) (hn5 : 16 - Int32.toInt x4 ≤ n5) : ws_X10_below_41 post K5 bT m_x gR x1 x2 x4 k0 := by
  have l0 := aE0
  exact ts_X10_below_42 bT m_x gR xJ aAW xK hpost hK5 x1 x2 x4 k0 0 aBK aBN aDO h_k0 (by omega) hn5
set_option maxHeartbeats 8000000 in
set_option maxRecDepth 200000 in
theorem ts_X10_below_5 {post : Int32 → Prop} {next : Int32 → Int32 → Int32 → Int32 → Prop} {n5 : Int} (bT : Int32) (m_x gR : Nat → Int32) (xJ : 0 ≤ Int32.toInt bT ∧ Int32.toInt bT ≤ 16) (aAW : ∀ k : Nat, 0 ≤ Int32.toInt (m_x k) ∧ Int32.toInt (m_x k) ≤ 99) (xK : ∀ k : Nat, 0 ≤ Int32.toInt (gR k) ∧ Int32.toInt (gR k) ≤ 99) (hpost : ∀ (r : Int32) , (0 ≤ Int32.toInt r ∧ Int32.toInt r ≤ 65535) → post r) (hKn : ∀ (x1 : Int32) (x2 : Int32) (x3 : Int32) (x4 : Int32), (0 ≤ Int32.toInt x1 ∧ Int32.toInt x1 ≤ 15) → (0 ≤ Int32.toInt x2 ∧ Int32.toInt x2 ≤ 65535) → (0 ≤ Int32.toInt x3 ∧ Int32.toInt x3 ≤ 65535) → (0 ≤ Int32.toInt x4 ∧ Int32.toInt x4 ≤ 16) → (16 - Int32.toInt x4 < n5) → next x1 x2 x3 x4) (x1 x2 x3 x4 : Int32) (aBK : 0 ≤ Int32.toInt x1 ∧ Int32.toInt x1 ≤ 15) (aBN : 0 ≤ Int32.toInt x2 ∧ Int32.toInt x2 ≤ 65535) (aCH : 0 ≤ Int32.toInt x3 ∧ Int32.toInt x3 ≤ 65535) (aDO : 0 ≤ Int32.toInt x4 ∧ Int32.toInt x4 ≤ 16) (hn5 : 16 - Int32.toInt x4 ≤ n5) : ws_X10_below_5 post next bT m_x gR x1 x2 x3 x4 := by
  have l0 := aEc
  refine And.intro (fun c5 => ?_) (fun c5 => ?_)
  · skip
    have c5 := (aAO _ _).mp c5
    exact hpost _ aCH
  · skip
    have c5 := mt (aAO _ _).mpr c5
    intro v6 ev6
    have f7 := aRJ x2 x4 (by omega)
    have hv6 := congrArg Int32.toInt ev6
    intro v8 ev8
    have f9 := aAQ v6 1 (by omega)
    have f10 := aBx v6 1 (by omega)
    have hv8 := congrArg Int32.toInt ev8
    refine And.intro (fun c11 => ?_) (fun c11 => ?_)
    · skip
      have c11 := mt (zJ _ _).mpr c11
      refine And.intro (fun _ => ?_) (fun h9 => absurd h9 (by decide))
      exact ts_X10_below_41 bT m_x gR xJ aAW xK hpost hKn x1 x2 x4 x3 aBK aBN (by omega) aCH hn5
    · skip
      have c11 := (zJ _ _).mp c11
      refine And.intro (fun h9 => absurd h9 (by decide)) (fun _ => ?_)
      refine And.intro (aBZ (by omega)) ?_
      intro v12 ev12
      have f13 := aAW x1.toNatClampNeg
      have hv12 := congrArg Int32.toInt ev12
      refine And.intro (aBZ (by omega)) ?_
      intro v14 ev14
      have f16 := aAW x4.toNatClampNeg
      have f15 : Int32.toInt (v12 - (m_x x4.toNatClampNeg)) = Int32.toInt v12 - Int32.toInt (m_x x4.toNatClampNeg) := aCA _ _ (by omega)
      rw [← ev14] at f15
      intro v17 ev17
      have f18 := ti_abs v14 (by omega)
      have hv17 := congrArg Int32.toInt ev17
      refine And.intro (fun c19 => ?_) (fun c19 => ?_)
      · skip
        have c19 := (aAd _ _).mp c19
        refine And.intro (fun _ => ?_) (fun h9 => absurd h9 (by decide))
        exact ts_X10_below_41 bT m_x gR xJ aAW xK hpost hKn x1 x2 x4 x3 aBK aBN (by omega) aCH hn5
      · skip
        have c19 := mt (aAd _ _).mpr c19
        refine And.intro (aBZ (by omega)) ?_
        intro v20 ev20
        have f21 := xK x4.toNatClampNeg
        have hv20 := congrArg Int32.toInt ev20
        refine And.intro (aBZ (by omega)) ?_
        have f23 := xK x1.toNatClampNeg
        refine And.intro (fun c22 => ?_) (fun c22 => ?_)
        · skip
          have c22 := (aAO _ _).mp c22
          refine And.intro (fun _ => ?_) (fun h9 => absurd h9 (by decide))
          exact ts_X10_below_41 bT m_x gR xJ aAW xK hpost hKn x1 x2 x4 x3 aBK aBN (by omega) aCH hn5
        · skip
          have c22 := mt (aAO _ _).mpr c22
          refine And.intro (fun h9 => absurd h9 (by decide)) (fun _ => ?_)
          intro v24 ev24
          have f25 := aDv 15 32768 x4 (by decide) (by omega)
          have hv24 := congrArg Int32.toInt ev24
          exact ts_X10_below_42 bT m_x gR xJ aAW xK hpost hKn x1 x2 x4 x3 v24 aBK aBN (by omega) aCH (by omega) hn5
set_option maxHeartbeats 8000000 in
set_option maxRecDepth 200000 in
theorem tb_X10_below_5 {post : Int32 → Prop} (bT : Int32) (m_x gR : Nat → Int32) (xJ : 0 ≤ Int32.toInt bT ∧ Int32.toInt bT ≤ 16) (aAW : ∀ k : Nat, 0 ≤ Int32.toInt (m_x k) ∧ Int32.toInt (m_x k) ≤ 99) (xK : ∀ k : Nat, 0 ≤ Int32.toInt (gR k) ∧ Int32.toInt (gR k) ≤ 99) (hpost : ∀ (r : Int32) , (0 ≤ Int32.toInt r ∧ Int32.toInt r ≤ 65535) → post r) : ∀ (n : Nat) (x1 x2 x3 x4 : Int32), (0 ≤ Int32.toInt x1 ∧ Int32.toInt x1 ≤ 15) → (0 ≤ Int32.toInt x2 ∧ Int32.toInt x2 ≤ 65535) → (0 ≤ Int32.toInt x3 ∧ Int32.toInt x3 ≤ 65535) → (0 ≤ Int32.toInt x4 ∧ Int32.toInt x4 ≤ 16) → (16 - Int32.toInt x4 < (n : Int)) → wb_X10_below_5 post bT m_x gR n x1 x2 x3 x4 := by
  intro n
  induction n with
  | zero =>
    intro x1 x2 x3 x4 aBK aBN aCH aDO hm
    exfalso; omega
  | succ n ih =>
    intro x1 x2 x3 x4 aBK aBN aCH aDO hm
    exact ts_X10_below_5 bT m_x gR xJ aAW xK hpost ih x1 x2 x3 x4 aBK aBN aCH aDO (by omega)
set_option maxHeartbeats 8000000 in
set_option maxRecDepth 200000 in
theorem t_X10_below {post : Int32 → Prop} {p0 p1 bT : Int32} {m_x gR : Nat → Int32} (h_p0 : 0 ≤ Int32.toInt p0 ∧ Int32.toInt p0 ≤ 15) (h_p1 : 0 ≤ Int32.toInt p1 ∧ Int32.toInt p1 ≤ 65535) (xJ : 0 ≤ Int32.toInt bT ∧ Int32.toInt bT ≤ 16) (aAW : ∀ k : Nat, 0 ≤ Int32.toInt (m_x k) ∧ Int32.toInt (m_x k) ≤ 99) (xK : ∀ k : Nat, 0 ≤ Int32.toInt (gR k) ∧ Int32.toInt (gR k) ≤ 99) (hpost : ∀ (r : Int32) , (0 ≤ Int32.toInt r ∧ Int32.toInt r ≤ 65535) → post r) : wp_X10_below post p0 p1 bT m_x gR := by
  have l0 := aE0
  exact ⟨18, tb_X10_below_5 bT m_x gR xJ aAW xK hpost _ p0 p1 0 0 h_p0 h_p1 (by omega) (by omega) (by omega)⟩
set_option maxHeartbeats 8000000 in
set_option maxRecDepth 200000 in
theorem ts_X10_fruit_23 {post : Int32 → Int32 → Prop} {SB : Int} (bT : Int32) (qG m_x gR pW qR : Nat → Int32) (xJ : 0 ≤ Int32.toInt bT ∧ Int32.toInt bT ≤ 16) (xU : ∀ k : Nat, k = 17 → -1 ≤ Int32.toInt (qG k) ∧ Int32.toInt (qG k) ≤ SB) (xV : ∀ k : Nat, k = 19 → 0 ≤ Int32.toInt (qG k) ∧ Int32.toInt (qG k) ≤ 9) (aAW : ∀ k : Nat, 0 ≤ Int32.toInt (m_x k) ∧ Int32.toInt (m_x k) ≤ 99) (xK : ∀ k : Nat, 0 ≤ Int32.toInt (gR k) ∧ Int32.toInt (gR k) ≤ 99) (yR : ∀ k : Nat, 0 ≤ Int32.toInt (pW k) ∧ Int32.toInt (pW k) ≤ 9) (zM : ∀ k : Nat, 0 ≤ Int32.toInt (qR k) ∧ Int32.toInt (qR k) ≤ 9) (hc0 : -1 ≤ SB ∧ SB ≤ 7) (hpost : ∀ (r : Int32) (xG : Int32), (0 ≤ Int32.toInt xG ∧ Int32.toInt xG ≤ 1) → post r xG) (bY : Int32) (yG : 0 ≤ Int32.toInt bY ∧ Int32.toInt bY ≤ 0) : ws_X10_fruit_23 post bT qG m_x gR pW qR bY := by
  have l0 := aEc
  exact hpost _ _ (by omega)
set_option maxHeartbeats 8000000 in
set_option maxRecDepth 200000 in
theorem t_X10_fruit {post : Int32 → Int32 → Prop} {SB : Int} {p0 p1 bT bY : Int32} {qG m_x gR pW qR : Nat → Int32} (xJ : 0 ≤ Int32.toInt bT ∧ Int32.toInt bT ≤ 16) (yG : 0 ≤ Int32.toInt bY ∧ Int32.toInt bY ≤ 1) (xU : ∀ k : Nat, k = 17 → -1 ≤ Int32.toInt (qG k) ∧ Int32.toInt (qG k) ≤ SB) (xV : ∀ k : Nat, k = 19 → 0 ≤ Int32.toInt (qG k) ∧ Int32.toInt (qG k) ≤ 9) (aAW : ∀ k : Nat, 0 ≤ Int32.toInt (m_x k) ∧ Int32.toInt (m_x k) ≤ 99) (xK : ∀ k : Nat, 0 ≤ Int32.toInt (gR k) ∧ Int32.toInt (gR k) ≤ 99) (yR : ∀ k : Nat, 0 ≤ Int32.toInt (pW k) ∧ Int32.toInt (pW k) ≤ 9) (zM : ∀ k : Nat, 0 ≤ Int32.toInt (qR k) ∧ Int32.toInt (qR k) ≤ 9) (hc0 : -1 ≤ SB ∧ SB ≤ 7) (hpost : ∀ (r : Int32) (xG : Int32), (0 ≤ Int32.toInt xG ∧ Int32.toInt xG ≤ 1) → post r xG) : wp_X10_fruit post p0 p1 bT bY qG m_x gR pW qR := by
  have l0 := aE0
  have l1 := aEc
  have l2 := li_16
  have l3 := li_2
  have l4 := li_3
  have l5 := li_4
  have l6 := li_5
  have l7 := li_6
  intro v1 ev1
  have f2 : Int32.toInt (bT - 1) = Int32.toInt bT - Int32.toInt (1 : Int32) := aCA _ _ (by omega)
  rw [← ev1] at f2
  have f4 := aAT p0
  refine And.intro (fun c3 => ?_) (fun c3 => ?_)
  · skip
    have c3 := (aAd _ _).mp c3
    refine And.intro (aHE (by omega)) ?_
    refine And.intro (fun _ => ?_) (fun h9 => absurd h9 (by decide))
    exact ts_X10_fruit_23 bT qG m_x gR pW qR xJ xU xV aAW xK yR zM hc0 hpost 0 (by omega)
  · skip
    have c3 := mt (aAd _ _).mpr c3
    refine And.intro (fun c5 => ?_) (fun c5 => ?_)
    · skip
      have c5 := (aAd _ _).mp c5
      refine And.intro (aHE (by omega)) ?_
      refine And.intro (fun _ => ?_) (fun h9 => absurd h9 (by decide))
      exact ts_X10_fruit_23 bT qG m_x gR pW qR xJ xU xV aAW xK yR zM hc0 hpost 0 (by omega)
    · skip
      have c5 := mt (aAd _ _).mpr c5
      refine And.intro (aHE (by omega)) ?_
      refine And.intro (fun h9 => absurd h9 (by decide)) (fun _ => ?_)
      have f7 := aAT p1
      refine And.intro (fun c6 => ?_) (fun c6 => ?_)
      · skip
        have c6 := (aAd _ _).mp c6
        refine And.intro (fun h9 => absurd h9 (by decide)) (fun _ => ?_)
        exact ts_X10_fruit_23 bT qG m_x gR pW qR xJ xU xV aAW xK yR zM hc0 hpost 0 (by omega)
      · skip
        have c6 := mt (aAd _ _).mpr c6
        refine And.intro (fun c8 => ?_) (fun c8 => ?_)
        · skip
          have c8 := (aAd _ _).mp c8
          refine And.intro (fun h9 => absurd h9 (by decide)) (fun _ => ?_)
          exact ts_X10_fruit_23 bT qG m_x gR pW qR xJ xU xV aAW xK yR zM hc0 hpost 0 (by omega)
        · skip
          have c8 := mt (aAd _ _).mpr c8
          refine And.intro (fun _ => ?_) (fun h9 => absurd h9 (by decide))
          refine And.intro (fun c9 => ?_) ?_
          · skip
            have c9 := (zJ _ _).mp c9
            refine And.intro (aBZ (by omega)) ?_
            exact hpost _ _ (by omega)
          refine And.intro (fun c10 => ?_) ?_
          · skip
            have c10 := (zJ _ _).mp c10
            refine And.intro (aBZ (by omega)) ?_
            exact hpost _ _ (by omega)
          refine And.intro (fun c11 => ?_) ?_
          · skip
            have c11 := (zJ _ _).mp c11
            refine And.intro (aBZ (by omega)) ?_
            exact hpost _ _ (by omega)
          refine And.intro (fun c12 => ?_) ?_
          · skip
            have c12 := (zJ _ _).mp c12
            refine And.intro (aBZ (by omega)) ?_
            exact hpost _ _ (by omega)
          refine And.intro (fun c13 => ?_) ?_
          · skip
            have c13 := (zJ _ _).mp c13
            refine And.intro (aBZ (by omega)) ?_
            exact hpost _ _ (by omega)
          refine And.intro (fun c14 => ?_) ?_
          · skip
            have c14 := (zJ _ _).mp c14
            intro v15 ev15
            have hv15 := congrArg Int32.toInt ev15
            intro v17 ev17
            exact hpost _ _ (by omega)
          intro c18 c19 c20 c21 c22 c23
          have c18 := mt (zJ _ _).mpr c18
          have c19 := mt (zJ _ _).mpr c19
          have c20 := mt (zJ _ _).mpr c20
          have c21 := mt (zJ _ _).mpr c21
          have c22 := mt (zJ _ _).mpr c22
          have c23 := mt (zJ _ _).mpr c23
          refine And.intro (aBZ (by omega)) ?_
          refine And.intro (fun c24 => ?_) (fun c24 => ?_)
          · skip
            have c24 := mt (zJ _ _).mpr c24
            exact hpost _ _ (by omega)
          · skip
            have c24 := (zJ _ _).mp c24
            refine aKO (by omega) xJ xU xV (by omega) (fun r26 h_r26 ox27 => ?_)
            refine t_X10_below (by omega) h_r26 xJ aAW xK (fun r28 h_r28 => ?_)
            exact hpost _ _ (by omega)
set_option maxHeartbeats 8000000 in
set_option maxRecDepth 200000 in
theorem ts_X10_standing_22 {post : Int32 → Int32 → Prop} (aG : Int32) (nG oO : Nat → Int32) (vZ : 0 ≤ Int32.toInt aG ∧ Int32.toInt aG ≤ 8) (xT : ∀ k : Nat, 0 ≤ Int32.toInt (nG k) ∧ Int32.toInt (nG k) ≤ 99) (yF : ∀ k : Nat, 0 ≤ Int32.toInt (oO k) ∧ Int32.toInt (oO k) ≤ 99) (hpost : ∀ (r : Int32) (xG : Int32), (0 ≤ Int32.toInt r ∧ Int32.toInt r ≤ 99) → (0 ≤ Int32.toInt xG ∧ Int32.toInt xG ≤ 1) → post r xG) (bY : Int32) (yG : 0 ≤ Int32.toInt bY ∧ Int32.toInt bY ≤ 0) : ws_X10_standing_22 post aG nG oO bY := by
  have l0 := aE0
  have l1 := aEc
  exact hpost _ _ (by omega) (by omega)
set_option maxHeartbeats 8000000 in
set_option maxRecDepth 200000 in
theorem t_X10_standing {post : Int32 → Int32 → Prop} {p0 p1 aG bY : Int32} {nG oO : Nat → Int32} (vZ : 0 ≤ Int32.toInt aG ∧ Int32.toInt aG ≤ 8) (yG : 0 ≤ Int32.toInt bY ∧ Int32.toInt bY ≤ 1) (xT : ∀ k : Nat, 0 ≤ Int32.toInt (nG k) ∧ Int32.toInt (nG k) ≤ 99) (yF : ∀ k : Nat, 0 ≤ Int32.toInt (oO k) ∧ Int32.toInt (oO k) ≤ 99) (hpost : ∀ (r : Int32) (xG : Int32), (0 ≤ Int32.toInt r ∧ Int32.toInt r ≤ 99) → (0 ≤ Int32.toInt xG ∧ Int32.toInt xG ≤ 1) → post r xG) : bCK post p0 p1 aG bY nG oO := by
  have l0 := aE0
  have l1 := aEc
  have l2 := li_10
  have l3 := li_2
  have l4 := li_3
  have l5 := li_9
  intro v1 ev1
  have f2 : Int32.toInt (aG - 1) = Int32.toInt aG - Int32.toInt (1 : Int32) := aCA _ _ (by omega)
  rw [← ev1] at f2
  have f4 := aAT p0
  refine And.intro (fun c3 => ?_) (fun c3 => ?_)
  · skip
    have c3 := (aAd _ _).mp c3
    refine And.intro (aHE (by omega)) ?_
    refine And.intro (fun _ => ?_) (fun h9 => absurd h9 (by decide))
    exact ts_X10_standing_22 aG nG oO vZ xT yF hpost 0 (by omega)
  · skip
    have c3 := mt (aAd _ _).mpr c3
    refine And.intro (fun c5 => ?_) (fun c5 => ?_)
    · skip
      have c5 := (aAd _ _).mp c5
      refine And.intro (aHE (by omega)) ?_
      refine And.intro (fun _ => ?_) (fun h9 => absurd h9 (by decide))
      exact ts_X10_standing_22 aG nG oO vZ xT yF hpost 0 (by omega)
    · skip
      have c5 := mt (aAd _ _).mpr c5
      refine And.intro (aHE (by omega)) ?_
      refine And.intro (fun h9 => absurd h9 (by decide)) (fun _ => ?_)
      have f7 := aAT p1
      refine And.intro (fun c6 => ?_) (fun c6 => ?_)
      · skip
        have c6 := (aAd _ _).mp c6
        refine And.intro (fun h9 => absurd h9 (by decide)) (fun _ => ?_)
        exact ts_X10_standing_22 aG nG oO vZ xT yF hpost 0 (by omega)
      · skip
        have c6 := mt (aAd _ _).mpr c6
        refine And.intro (fun c8 => ?_) (fun c8 => ?_)
        · skip
          have c8 := (aAd _ _).mp c8
          refine And.intro (fun h9 => absurd h9 (by decide)) (fun _ => ?_)
          exact ts_X10_standing_22 aG nG oO vZ xT yF hpost 0 (by omega)
        · skip
          have c8 := mt (aAd _ _).mpr c8
          refine And.intro (fun _ => ?_) (fun h9 => absurd h9 (by decide))
          refine And.intro (fun c9 => ?_) (fun c9 => ?_)
          · skip
            have c9 := mt (zJ _ _).mpr c9
            refine And.intro (fun c10 => ?_) (fun c10 => ?_)
            · skip
              have c10 := mt (zJ _ _).mpr c10
              refine And.intro (aBZ (by omega)) ?_
              intro v11 ev11
              have f12 := yF p0.toNatClampNeg
              have hv11 := congrArg Int32.toInt ev11
              intro v13 ev13
              have f14 : Int32.toInt (v11 + 9) = Int32.toInt v11 + Int32.toInt (9 : Int32) := aAD _ _ (by omega)
              rw [← ev13] at f14
              have f16 : Int32.toInt (v13 / 10) = Int32.toInt v13 / 10 := ti_div _ _ (by decide) (by omega) (by decide)
              have f15 : Int32.toInt (3 + (v13 / 10)) = Int32.toInt (3 : Int32) + Int32.toInt (v13 / 10) := aAD _ _ (by omega)
              exact hpost _ _ (by omega) (by omega)
            · skip
              have c10 := (zJ _ _).mp c10
              refine And.intro (aBZ (by omega)) ?_
              intro v17 ev17
              have f18 := yF p0.toNatClampNeg
              have hv17 := congrArg Int32.toInt ev17
              exact hpost _ _ (by omega) (by omega)
          · skip
            have c9 := (zJ _ _).mp c9
            refine And.intro (aBZ (by omega)) ?_
            intro v19 ev19
            have f20 := xT p0.toNatClampNeg
            have hv19 := congrArg Int32.toInt ev19
            exact hpost _ _ (by omega) (by omega)
set_option maxHeartbeats 8000000 in
set_option maxRecDepth 200000 in
theorem ts_X10_set_47 {post : Int32 → Int32 → (Nat → Int32) → Prop} (hpost : ∀ (r : Int32) (xG : Int32) (m_told' : Nat → Int32), (0 ≤ Int32.toInt xG ∧ Int32.toInt xG ≤ 0) → (∀ k : Nat, k = 4 → 1 ≤ Int32.toInt (m_told' k) ∧ Int32.toInt (m_told' k) ≤ 30) → (∀ k : Nat, k = 3 → 0 ≤ Int32.toInt (m_told' k) ∧ Int32.toInt (m_told' k) ≤ 9) → post r xG m_told') (x1 x2 k0 k1 k2 bY : Int32) (pJ : Nat → Int32) (aBK : 0 ≤ Int32.toInt x1 ∧ Int32.toInt x1 ≤ 4) (h_k1 : 0 ≤ Int32.toInt k1 ∧ Int32.toInt k1 ≤ 1) (h_k2 : 9 ≤ Int32.toInt k2 ∧ Int32.toInt k2 ≤ 30) (yG : 0 ≤ Int32.toInt bY ∧ Int32.toInt bY ≤ 0) (yD : ∀ k : Nat, k = 4 → 1 ≤ Int32.toInt (pJ k) ∧ Int32.toInt (pJ k) ≤ 30) (xZ : ∀ k : Nat, k = 3 → 0 ≤ Int32.toInt (pJ k) ∧ Int32.toInt (pJ k) ≤ 9) (hx0 : Int32.toInt k0 = Int32.toInt x2) (hx1 : Int32.toInt x1 = 4 → Int32.toInt k1 = 1) (hx2 : Int32.toInt x1 = 3 → Int32.toInt k2 ≤ 9) : bCM post x1 x2 k0 k1 k2 bY pJ := by
  have f2 := aAT k0
  refine And.intro (fun c1 => ?_) (fun c1 => ?_)
  · skip
    have c1 := (aAd _ _).mp c1
    refine And.intro (fun h9 => absurd h9 (by decide)) (fun _ => ?_)
    exact hpost _ _ _ yG yD xZ
  · skip
    have c1 := mt (aAd _ _).mpr c1
    refine And.intro (fun c3 => ?_) (fun c3 => ?_)
    · skip
      have c3 := (aAd _ _).mp c3
      refine And.intro (fun h9 => absurd h9 (by decide)) (fun _ => ?_)
      exact hpost _ _ _ yG yD xZ
    · skip
      have c3 := mt (aAd _ _).mpr c3
      refine And.intro (fun _ => ?_) (fun h9 => absurd h9 (by decide))
      refine And.intro (aBZ (by omega)) ?_
      intro v4 ev4
      have hv4 := congrArg Int32.toInt ev4
      refine And.intro (aBZ (by omega)) ?_
      have f7 := aAT x2
      have e6 : ∀ k : Nat, k = 4 → 1 ≤ Int32.toInt ((upd pJ x1.toNatClampNeg x2) k) ∧ Int32.toInt ((upd pJ x1.toNatClampNeg x2) k) ≤ 30 := aCJ (C := fun k => k = 4) yD (fun hk => by have e9 : x1.toNatClampNeg = (Int32.toInt x1).toNat := rfl; have hk : x1.toNatClampNeg = 4 := hk; omega)
      have e8 : ∀ k : Nat, k = 3 → 0 ≤ Int32.toInt ((upd pJ x1.toNatClampNeg x2) k) ∧ Int32.toInt ((upd pJ x1.toNatClampNeg x2) k) ≤ 9 := aCJ (C := fun k => k = 3) xZ (fun hk => by have e9 : x1.toNatClampNeg = (Int32.toInt x1).toNat := rfl; have hk : x1.toNatClampNeg = 3 := hk; omega)
      exact hpost _ _ _ yG e6 e8
set_option maxHeartbeats 8000000 in
set_option maxRecDepth 200000 in
theorem ts_X10_set_25 {post : Int32 → Int32 → (Nat → Int32) → Prop} (hpost : ∀ (r : Int32) (xG : Int32) (m_told' : Nat → Int32), (0 ≤ Int32.toInt xG ∧ Int32.toInt xG ≤ 0) → (∀ k : Nat, k = 4 → 1 ≤ Int32.toInt (m_told' k) ∧ Int32.toInt (m_told' k) ≤ 30) → (∀ k : Nat, k = 3 → 0 ≤ Int32.toInt (m_told' k) ∧ Int32.toInt (m_told' k) ≤ 9) → post r xG m_told') (x1 x2 k0 k1 bY : Int32) (pJ : Nat → Int32) (aBK : 0 ≤ Int32.toInt x1 ∧ Int32.toInt x1 ≤ 4) (h_k1 : 0 ≤ Int32.toInt k1 ∧ Int32.toInt k1 ≤ 1) (yG : 0 ≤ Int32.toInt bY ∧ Int32.toInt bY ≤ 0) (yD : ∀ k : Nat, k = 4 → 1 ≤ Int32.toInt (pJ k) ∧ Int32.toInt (pJ k) ≤ 30) (xZ : ∀ k : Nat, k = 3 → 0 ≤ Int32.toInt (pJ k) ∧ Int32.toInt (pJ k) ≤ 9) (hx0 : Int32.toInt k0 = Int32.toInt x2) (hx1 : Int32.toInt x1 = 4 → Int32.toInt k1 = 1) : ws_X10_set_25 post x1 x2 k0 k1 bY pJ := by
  have l0 := li_16
  have l1 := li_3
  have l2 := li_30
  have l3 := li_4
  have l4 := li_9
  refine And.intro (fun c9 => ?_) (fun c9 => ?_)
  · skip
    have c9 := mt (zJ _ _).mpr c9
    refine And.intro (fun c10 => ?_) (fun c10 => ?_)
    · skip
      have c10 := mt (zJ _ _).mpr c10
      have f11 := aAT x2
      have f12 := aAT k0
      exact ts_X10_set_47 hpost x1 x2 k0 k1 30 bY pJ aBK h_k1 (by omega) yG yD xZ hx0 hx1 (by omega)
    · skip
      have c10 := (zJ _ _).mp c10
      have f13 := aAT x2
      have f14 := aAT k0
      exact ts_X10_set_47 hpost x1 x2 k0 k1 9 bY pJ aBK h_k1 (by omega) yG yD xZ hx0 hx1 (by omega)
  · skip
    have c9 := (zJ _ _).mp c9
    have f15 := aAT x2
    have f16 := aAT k0
    exact ts_X10_set_47 hpost x1 x2 k0 k1 16 bY pJ aBK h_k1 (by omega) yG yD xZ hx0 hx1 (by omega)
set_option maxHeartbeats 8000000 in
set_option maxRecDepth 200000 in
theorem t_X10_set {post : Int32 → Int32 → (Nat → Int32) → Prop} {p0 p1 bY : Int32} {pJ : Nat → Int32} (yG : 0 ≤ Int32.toInt bY ∧ Int32.toInt bY ≤ 1) (yD : ∀ k : Nat, k = 4 → 1 ≤ Int32.toInt (pJ k) ∧ Int32.toInt (pJ k) ≤ 30) (xZ : ∀ k : Nat, k = 3 → 0 ≤ Int32.toInt (pJ k) ∧ Int32.toInt (pJ k) ≤ 9) (hpost : ∀ (r : Int32) (xG : Int32) (m_told' : Nat → Int32), (0 ≤ Int32.toInt xG ∧ Int32.toInt xG ≤ 0) → (∀ k : Nat, k = 4 → 1 ≤ Int32.toInt (m_told' k) ∧ Int32.toInt (m_told' k) ≤ 30) → (∀ k : Nat, k = 3 → 0 ≤ Int32.toInt (m_told' k) ∧ Int32.toInt (m_told' k) ≤ 9) → post r xG m_told') : wp_X10_set post p0 p1 bY pJ := by
  have l0 := aE0
  have l1 := aEc
  have l2 := li_4
  have f18 := aAT p0
  refine And.intro (fun c17 => ?_) (fun c17 => ?_)
  · skip
    have c17 := (aAd _ _).mp c17
    refine And.intro (fun _ => ?_) (fun h9 => absurd h9 (by decide))
    exact hpost _ _ _ (by omega) yD xZ
  · skip
    have c17 := mt (aAd _ _).mpr c17
    refine And.intro (fun c19 => ?_) (fun c19 => ?_)
    · skip
      have c19 := (aAd _ _).mp c19
      refine And.intro (fun _ => ?_) (fun h9 => absurd h9 (by decide))
      exact hpost _ _ _ (by omega) yD xZ
    · skip
      have c19 := mt (aAd _ _).mpr c19
      refine And.intro (fun h9 => absurd h9 (by decide)) (fun _ => ?_)
      refine And.intro (fun c20 => ?_) (fun c20 => ?_)
      · skip
        have c20 := mt (zJ _ _).mpr c20
        have f21 := aAT p1
        exact ts_X10_set_25 hpost p0 p1 p1 0 0 pJ (by omega) (by omega) (by omega) yD xZ (by omega) (by omega)
      · skip
        have c20 := (zJ _ _).mp c20
        have f22 := aAT p1
        exact ts_X10_set_25 hpost p0 p1 p1 1 0 pJ (by omega) (by omega) (by omega) yD xZ (by omega) (by omega)
set_option maxHeartbeats 8000000 in
set_option maxRecDepth 200000 in
theorem ts_X10_sheet_109 {post : Int32 → Int32 → (Nat → Int32) → Prop} {K43 : Int32 → Int32 → Int32 → Int32 → Int32 → Int32 → Int32 → (Nat → Int32) → Prop} {n43 : Int} (bT : Int32) (xJ : 0 ≤ Int32.toInt bT ∧ Int32.toInt bT ≤ 16) (hpost : ∀ (r : Int32) (xG : Int32) (aF6 : Nat → Int32), (0 ≤ Int32.toInt xG ∧ Int32.toInt xG ≤ 0) → (∀ k : Nat, 0 ≤ Int32.toInt (aF6 k) ∧ Int32.toInt (aF6 k) ≤ 9) → post r xG aF6) (hK43 : ∀ (x1 : Int32) (x2 : Int32) (x4 : Int32) (x5 : Int32) (x6 : Int32) (x7 : Int32) (bY : Int32) (pW : Nat → Int32), (0 ≤ Int32.toInt x1 ∧ Int32.toInt x1 ≤ 3) → (-2147483648 ≤ Int32.toInt x2 ∧ Int32.toInt x2 ≤ 16) → (0 ≤ Int32.toInt x7 ∧ Int32.toInt x7 ≤ 16) → (0 ≤ Int32.toInt bY ∧ Int32.toInt bY ≤ 0) → (∀ k : Nat, 0 ≤ Int32.toInt (pW k) ∧ Int32.toInt (pW k) ≤ 9) → (16 - Int32.toInt x7 < n43) → K43 x1 x2 x4 x5 x6 x7 bY pW) (x1 x2 x4 x5 x6 x7 k1 k2 bY : Int32) (pW : Nat → Int32) (aBK : 0 ≤ Int32.toInt x1 ∧ Int32.toInt x1 ≤ 3) (aBN : -2147483648 ≤ Int32.toInt x2 ∧ Int32.toInt x2 ≤ 16) (h_x7 : 0 ≤ Int32.toInt x7 ∧ Int32.toInt x7 ≤ 15) (h_k1 : 0 ≤ Int32.toInt k1 ∧ Int32.toInt k1 ≤ 15) (h_k2 : 0 ≤ Int32.toInt k2 ∧ Int32.toInt k2 ≤ 9) (yG : 0 ≤ Int32.toInt bY ∧ Int32.toInt bY ≤ 0) (yR : ∀ k : Nat, 0 ≤ Int32.toInt (pW k) ∧ Int32.toInt (pW k) ≤ 9) (hn43 : 16 - Int32.toInt x7 ≤ n43) : aPF post K43 bT x1 x2 x4 x5 x6 x7 k1 k2 bY pW := by
  have l0 := aEc
  refine And.intro (aBZ (by omega)) ?_
  have a1 : ∀ k : Nat, 0 ≤ Int32.toInt ((upd pW k1.toNatClampNeg k2) k) ∧ Int32.toInt ((upd pW k1.toNatClampNeg k2) k) ≤ 9 := t_upd (fun k => by have q9 := yR k; omega) (by omega)
  refine And.intro (aBZ (by omega)) ?_
  intro v2 ev2
  have hv2 := congrArg Int32.toInt ev2
  intro v4 ev4
  have hv4 := congrArg Int32.toInt ev4
  intro v6 ev6
  have f7 : Int32.toInt (x7 + 1) = Int32.toInt x7 + Int32.toInt (1 : Int32) := aAD _ _ (by omega)
  rw [← ev6] at f7
  have f8 := aAT x2
  have f9 := aAT x4
  have f10 := aAT v2
  have f11 := aAT v4
  exact hK43 x1 x2 x4 v2 v4 v6 bY (upd pW k1.toNatClampNeg k2) aBK aBN (by omega) yG (fun k => by have q9 := a1 k; omega) (by omega)
set_option maxHeartbeats 8000000 in
set_option maxRecDepth 200000 in
theorem ts_X10_sheet_94 {post : Int32 → Int32 → (Nat → Int32) → Prop} {K43 : Int32 → Int32 → Int32 → Int32 → Int32 → Int32 → Int32 → (Nat → Int32) → Prop} {n43 : Int} (bT : Int32) (xJ : 0 ≤ Int32.toInt bT ∧ Int32.toInt bT ≤ 16) (hpost : ∀ (r : Int32) (xG : Int32) (aF6 : Nat → Int32), (0 ≤ Int32.toInt xG ∧ Int32.toInt xG ≤ 0) → (∀ k : Nat, 0 ≤ Int32.toInt (aF6 k) ∧ Int32.toInt (aF6 k) ≤ 9) → post r xG aF6) (hK43 : ∀ (x1 : Int32) (x2 : Int32) (x4 : Int32) (x5 : Int32) (x6 : Int32) (x7 : Int32) (bY : Int32) (pW : Nat → Int32), (0 ≤ Int32.toInt x1 ∧ Int32.toInt x1 ≤ 3) → (-2147483648 ≤ Int32.toInt x2 ∧ Int32.toInt x2 ≤ 16) → (0 ≤ Int32.toInt x7 ∧ Int32.toInt x7 ≤ 16) → (0 ≤ Int32.toInt bY ∧ Int32.toInt bY ≤ 0) → (∀ k : Nat, 0 ≤ Int32.toInt (pW k) ∧ Int32.toInt (pW k) ≤ 9) → (16 - Int32.toInt x7 < n43) → K43 x1 x2 x4 x5 x6 x7 bY pW) (x1 x2 x4 x5 x6 x7 k1 bY : Int32) (pW : Nat → Int32) (aBK : 0 ≤ Int32.toInt x1 ∧ Int32.toInt x1 ≤ 3) (aBN : -2147483648 ≤ Int32.toInt x2 ∧ Int32.toInt x2 ≤ 16) (h_x7 : 0 ≤ Int32.toInt x7 ∧ Int32.toInt x7 ≤ 15) (h_k1 : 0 ≤ Int32.toInt k1 ∧ Int32.toInt k1 ≤ 15) (yG : 0 ≤ Int32.toInt bY ∧ Int32.toInt bY ≤ 0) (yR : ∀ k : Nat, 0 ≤ Int32.toInt (pW k) ∧ Int32.toInt (pW k) ≤ 9) (hn43 : 16 - Int32.toInt x7 ≤ n43) : aZA post K43 bT x1 x2 x4 x5 x6 x7 k1 bY pW := by
  have l0 := aE0
  have f12 := aAT x2
  have f13 := aAT x4
  have f14 := aAT x5
  have f15 := aAT x6
  exact ts_X10_sheet_109 bT xJ hpost hK43 x1 x2 x4 x5 x6 x7 k1 0 bY pW aBK aBN h_x7 h_k1 (by omega) yG yR hn43
set_option maxHeartbeats 8000000 in
set_option maxRecDepth 200000 in
theorem ts_X10_sheet_75 {post : Int32 → Int32 → (Nat → Int32) → Prop} {K43 : Int32 → Int32 → Int32 → Int32 → Int32 → Int32 → Int32 → (Nat → Int32) → Prop} {n43 : Int} (bT : Int32) (xJ : 0 ≤ Int32.toInt bT ∧ Int32.toInt bT ≤ 16) (hpost : ∀ (r : Int32) (xG : Int32) (aF6 : Nat → Int32), (0 ≤ Int32.toInt xG ∧ Int32.toInt xG ≤ 0) → (∀ k : Nat, 0 ≤ Int32.toInt (aF6 k) ∧ Int32.toInt (aF6 k) ≤ 9) → post r xG aF6) (hK43 : ∀ (x1 : Int32) (x2 : Int32) (x4 : Int32) (x5 : Int32) (x6 : Int32) (x7 : Int32) (bY : Int32) (pW : Nat → Int32), (0 ≤ Int32.toInt x1 ∧ Int32.toInt x1 ≤ 3) → (-2147483648 ≤ Int32.toInt x2 ∧ Int32.toInt x2 ≤ 16) → (0 ≤ Int32.toInt x7 ∧ Int32.toInt x7 ≤ 16) → (0 ≤ Int32.toInt bY ∧ Int32.toInt bY ≤ 0) → (∀ k : Nat, 0 ≤ Int32.toInt (pW k) ∧ Int32.toInt (pW k) ≤ 9) → (16 - Int32.toInt x7 < n43) → K43 x1 x2 x4 x5 x6 x7 bY pW) (x1 x2 x4 x5 x6 x7 k0 bY : Int32) (pW : Nat → Int32) (aBK : 0 ≤ Int32.toInt x1 ∧ Int32.toInt x1 ≤ 3) (aBN : -2147483648 ≤ Int32.toInt x2 ∧ Int32.toInt x2 ≤ 16) (h_x7 : 0 ≤ Int32.toInt x7 ∧ Int32.toInt x7 ≤ 15) (yG : 0 ≤ Int32.toInt bY ∧ Int32.toInt bY ≤ 0) (yR : ∀ k : Nat, 0 ≤ Int32.toInt (pW k) ∧ Int32.toInt (pW k) ≤ 9) (hn43 : 16 - Int32.toInt x7 ≤ n43) : ws_X10_sheet_75 post K43 bT x1 x2 x4 x5 x6 x7 k0 bY pW := by
  have l0 := aE0
  have l1 := li_3
  have l2 := li_9
  refine And.intro (fun c16 => ?_) (fun c16 => ?_)
  · skip
    have c16 := (zJ _ _).mp c16
    have f17 := aAT x2
    have f18 := aAT x4
    have f19 := aAT x5
    have f20 := aAT x6
    exact ts_X10_sheet_94 bT xJ hpost hK43 x1 x2 x4 x5 x6 x7 x7 bY pW aBK aBN h_x7 h_x7 yG yR hn43
  · skip
    have c16 := mt (zJ _ _).mpr c16
    have f22 := aAT x2
    refine And.intro (fun c21 => ?_) (fun c21 => ?_)
    · skip
      have c21 := (aAd _ _).mp c21
      intro v23 ev23
      have f24 := aAT (if k0 < 9 then k0 else 9)
      have f26 := aAT k0
      have f25 := ti_min (9 : Int32) k0
      have hv23 := congrArg Int32.toInt ev23
      intro v27 ev27
      have f29 := aAT v23
      have f28 := ti_max (0 : Int32) v23
      have hv27 := congrArg Int32.toInt ev27
      have f30 := aAT x4
      have f31 := aAT x5
      have f32 := aAT x6
      exact ts_X10_sheet_109 bT xJ hpost hK43 x1 x2 x4 x5 x6 x7 x7 v27 bY pW aBK aBN h_x7 h_x7 (by omega) yG yR hn43
    · skip
      have c21 := mt (aAd _ _).mpr c21
      have f33 := aAT x4
      have f34 := aAT x5
      have f35 := aAT x6
      exact ts_X10_sheet_94 bT xJ hpost hK43 x1 x2 x4 x5 x6 x7 x7 bY pW aBK aBN h_x7 h_x7 yG yR hn43
set_option maxHeartbeats 8000000 in
set_option maxRecDepth 200000 in
theorem ts_X10_sheet_43 {post : Int32 → Int32 → (Nat → Int32) → Prop} {next : Int32 → Int32 → Int32 → Int32 → Int32 → Int32 → Int32 → (Nat → Int32) → Prop} {n43 : Int} (bT : Int32) (xJ : 0 ≤ Int32.toInt bT ∧ Int32.toInt bT ≤ 16) (hpost : ∀ (r : Int32) (xG : Int32) (aF6 : Nat → Int32), (0 ≤ Int32.toInt xG ∧ Int32.toInt xG ≤ 0) → (∀ k : Nat, 0 ≤ Int32.toInt (aF6 k) ∧ Int32.toInt (aF6 k) ≤ 9) → post r xG aF6) (hKn : ∀ (x1 : Int32) (x2 : Int32) (x4 : Int32) (x5 : Int32) (x6 : Int32) (x7 : Int32) (bY : Int32) (pW : Nat → Int32), (0 ≤ Int32.toInt x1 ∧ Int32.toInt x1 ≤ 3) → (-2147483648 ≤ Int32.toInt x2 ∧ Int32.toInt x2 ≤ 16) → (0 ≤ Int32.toInt x7 ∧ Int32.toInt x7 ≤ 16) → (0 ≤ Int32.toInt bY ∧ Int32.toInt bY ≤ 0) → (∀ k : Nat, 0 ≤ Int32.toInt (pW k) ∧ Int32.toInt (pW k) ≤ 9) → (16 - Int32.toInt x7 < n43) → next x1 x2 x4 x5 x6 x7 bY pW) (x1 x2 x4 x5 x6 x7 bY : Int32) (pW : Nat → Int32) (aBK : 0 ≤ Int32.toInt x1 ∧ Int32.toInt x1 ≤ 3) (aBN : -2147483648 ≤ Int32.toInt x2 ∧ Int32.toInt x2 ≤ 16) (h_x7 : 0 ≤ Int32.toInt x7 ∧ Int32.toInt x7 ≤ 16) (yG : 0 ≤ Int32.toInt bY ∧ Int32.toInt bY ≤ 0) (yR : ∀ k : Nat, 0 ≤ Int32.toInt (pW k) ∧ Int32.toInt (pW k) ≤ 9) (hn43 : 16 - Int32.toInt x7 ≤ n43) : ws_X10_sheet_43 post next bT x1 x2 x4 x5 x6 x7 bY pW := by
  have l0 := aE0
  have l1 := aEc
  have l2 := li_3
  refine And.intro (fun c36 => ?_) (fun c36 => ?_)
  · skip
    have c36 := (aAO _ _).mp c36
    refine And.intro (fun c37 => ?_) (fun c37 => ?_)
    · skip
      have c37 := mt (zJ _ _).mpr c37
      exact hpost _ _ _ yG yR
    · skip
      have c37 := (zJ _ _).mp c37
      exact hpost _ _ _ yG yR
  · skip
    have c36 := mt (aAO _ _).mpr c36
    refine And.intro (fun c38 => ?_) (fun c38 => ?_)
    · skip
      have c38 := mt (zJ _ _).mpr c38
      refine And.intro (fun c39 => ?_) (fun c39 => ?_)
      · skip
        have c39 := mt (zJ _ _).mpr c39
        have f40 := aAT x2
        have f41 := aAT x4
        have f42 := aAT x5
        have f43 := aAT x6
        exact ts_X10_sheet_75 bT xJ hpost hKn x1 x2 x4 x5 x6 x7 x6 bY pW aBK aBN (by omega) yG yR hn43
      · skip
        have c39 := (zJ _ _).mp c39
        intro v44 ev44
        have hv44 := ti_i2s x6
        rw [← ev44] at hv44
        have f45 := aAT x2
        have f46 := aAT x4
        have f47 := aAT x5
        have f48 := aAT x6
        exact ts_X10_sheet_75 bT xJ hpost hKn x1 x2 x4 x5 x6 x7 v44 bY pW aBK aBN (by omega) yG yR hn43
    · skip
      have c38 := (zJ _ _).mp c38
      intro v49 ev49
      have hv49 := ti_i2b x6
      rw [← ev49] at hv49
      have f50 := aAT x2
      have f51 := aAT x4
      have f52 := aAT x5
      have f53 := aAT x6
      exact ts_X10_sheet_75 bT xJ hpost hKn x1 x2 x4 x5 x6 x7 v49 bY pW aBK aBN (by omega) yG yR hn43
set_option maxHeartbeats 8000000 in
set_option maxRecDepth 200000 in
theorem tb_X10_sheet_43 {post : Int32 → Int32 → (Nat → Int32) → Prop} (bT : Int32) (xJ : 0 ≤ Int32.toInt bT ∧ Int32.toInt bT ≤ 16) (hpost : ∀ (r : Int32) (xG : Int32) (aF6 : Nat → Int32), (0 ≤ Int32.toInt xG ∧ Int32.toInt xG ≤ 0) → (∀ k : Nat, 0 ≤ Int32.toInt (aF6 k) ∧ Int32.toInt (aF6 k) ≤ 9) → post r xG aF6) : ∀ (n : Nat) (x1 x2 x4 x5 x6 x7 bY : Int32) (pW : Nat → Int32), (0 ≤ Int32.toInt x1 ∧ Int32.toInt x1 ≤ 3) → (-2147483648 ≤ Int32.toInt x2 ∧ Int32.toInt x2 ≤ 16) → (0 ≤ Int32.toInt x7 ∧ Int32.toInt x7 ≤ 16) → (0 ≤ Int32.toInt bY ∧ Int32.toInt bY ≤ 0) → (∀ k : Nat, 0 ≤ Int32.toInt (pW k) ∧ Int32.toInt (pW k) ≤ 9) → (16 - Int32.toInt x7 < (n : Int)) → wb_X10_sheet_43 post bT n x1 x2 x4 x5 x6 x7 bY pW := by
  intro n
  induction n with
  | zero =>
    intro x1 x2 x4 x5 x6 x7 bY pW aBK aBN h_x7 yG yR hm
    exfalso; omega
  | succ n ih =>
    intro x1 x2 x4 x5 x6 x7 bY pW aBK aBN h_x7 yG yR hm
    exact ts_X10_sheet_43 bT xJ hpost ih x1 x2 x4 x5 x6 x7 bY pW aBK aBN h_x7 yG yR (by omega)
set_option maxHeartbeats 8000000 in
set_option maxRecDepth 200000 in
theorem ts_X10_sheet_34 {post : Int32 → Int32 → (Nat → Int32) → Prop} (bT : Int32) (xJ : 0 ≤ Int32.toInt bT ∧ Int32.toInt bT ≤ 16) (hpost : ∀ (r : Int32) (xG : Int32) (aF6 : Nat → Int32), (0 ≤ Int32.toInt xG ∧ Int32.toInt xG ≤ 0) → (∀ k : Nat, 0 ≤ Int32.toInt (aF6 k) ∧ Int32.toInt (aF6 k) ≤ 9) → post r xG aF6) (x1 x2 x3 x4 bY : Int32) (pW : Nat → Int32) (aBK : 0 ≤ Int32.toInt x1 ∧ Int32.toInt x1 ≤ 3) (aBN : -2147483648 ≤ Int32.toInt x2 ∧ Int32.toInt x2 ≤ 16) (yG : 0 ≤ Int32.toInt bY ∧ Int32.toInt bY ≤ 0) (yR : ∀ k : Nat, 0 ≤ Int32.toInt (pW k) ∧ Int32.toInt (pW k) ≤ 9) : ws_X10_sheet_34 post bT x1 x2 x3 x4 bY pW := by
  have l0 := aE0
  have f54 := aAT x2
  have f55 := aAT x4
  have f56 := aAT x3
  exact ⟨18, tb_X10_sheet_43 bT xJ hpost _ x1 x2 x4 0 x3 0 bY pW aBK aBN (by omega) yG yR (by omega)⟩
set_option maxHeartbeats 8000000 in
set_option maxRecDepth 200000 in
theorem t_X10_sheet {post : Int32 → Int32 → (Nat → Int32) → Prop} {p0 p1 p2 p3 bT bY : Int32} {pW : Nat → Int32} (xJ : 0 ≤ Int32.toInt bT ∧ Int32.toInt bT ≤ 16) (yG : 0 ≤ Int32.toInt bY ∧ Int32.toInt bY ≤ 1) (yR : ∀ k : Nat, 0 ≤ Int32.toInt (pW k) ∧ Int32.toInt (pW k) ≤ 9) (hpost : ∀ (r : Int32) (xG : Int32) (aF6 : Nat → Int32), (0 ≤ Int32.toInt xG ∧ Int32.toInt xG ≤ 0) → (∀ k : Nat, 0 ≤ Int32.toInt (aF6 k) ∧ Int32.toInt (aF6 k) ≤ 9) → post r xG aF6) : wp_X10_sheet post p0 p1 p2 p3 bT bY pW := by
  have l0 := aE0
  have l1 := li_16
  have l2 := li_3
  have f58 := aAT p0
  refine And.intro (fun c57 => ?_) (fun c57 => ?_)
  · skip
    have c57 := (aAd _ _).mp c57
    refine And.intro (fun _ => ?_) (fun h9 => absurd h9 (by decide))
    exact hpost _ _ _ (by omega) yR
  · skip
    have c57 := mt (aAd _ _).mpr c57
    refine And.intro (fun c59 => ?_) (fun c59 => ?_)
    · skip
      have c59 := (aAd _ _).mp c59
      refine And.intro (fun _ => ?_) (fun h9 => absurd h9 (by decide))
      exact hpost _ _ _ (by omega) yR
    · skip
      have c59 := mt (aAd _ _).mpr c59
      refine And.intro (fun h9 => absurd h9 (by decide)) (fun _ => ?_)
      have f61 := aAT p1
      refine And.intro (fun c60 => ?_) (fun c60 => ?_)
      · skip
        have c60 := (aAO _ _).mp c60
        refine And.intro (fun c62 => ?_) (fun c62 => ?_)
        · skip
          have c62 := (aAO _ _).mp c62
          have f63 := aAT p2
          have f64 := aAT p3
          exact ts_X10_sheet_34 bT xJ hpost p0 p1 p2 p3 0 pW (by omega) (by omega) (by omega) yR
        · skip
          have c62 := mt (aAO _ _).mpr c62
          refine And.intro (fun c65 => ?_) (fun c65 => ?_)
          · skip
            have c65 := (aAO _ _).mp c65
            have f66 := aAT p2
            have f67 := aAT p3
            exact ts_X10_sheet_34 bT xJ hpost p0 p1 p2 p3 0 pW (by omega) (by omega) (by omega) yR
          · skip
            have c65 := mt (aAO _ _).mpr c65
            exact hpost _ _ _ (by omega) yR
      · skip
        have c60 := mt (aAO _ _).mpr c60
        exact hpost _ _ _ (by omega) yR
