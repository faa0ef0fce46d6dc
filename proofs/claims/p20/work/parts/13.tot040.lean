set_option maxHeartbeats 8000000 in
set_option maxRecDepth 200000 in
theorem t_X10_both {post : Int32 → Int32 → Int32 → Int32 → (Nat → Int32) → (Nat → Int32) → Prop} {SB : Int} {p0 p1 bT aG bL bY dO : Int32} {qG m_x gR qR nG oO pJ sW sH : Nat → Int32} (xJ : 0 ≤ Int32.toInt bT ∧ Int32.toInt bT ≤ 16) (vZ : 0 ≤ Int32.toInt aG ∧ Int32.toInt aG ≤ 8) (yJ : 0 ≤ Int32.toInt bL ∧ Int32.toInt bL ≤ 16) (yG : 0 ≤ Int32.toInt bY ∧ Int32.toInt bY ≤ 1) (aAH : 0 ≤ Int32.toInt dO ∧ Int32.toInt dO ≤ 65535) (xU : ∀ k : Nat, k = 17 → -1 ≤ Int32.toInt (qG k) ∧ Int32.toInt (qG k) ≤ SB) (xV : ∀ k : Nat, k = 19 → 0 ≤ Int32.toInt (qG k) ∧ Int32.toInt (qG k) ≤ 9) (aAW : ∀ k : Nat, 0 ≤ Int32.toInt (m_x k) ∧ Int32.toInt (m_x k) ≤ 99) (xK : ∀ k : Nat, 0 ≤ Int32.toInt (gR k) ∧ Int32.toInt (gR k) ≤ 99) (zM : ∀ k : Nat, 0 ≤ Int32.toInt (qR k) ∧ Int32.toInt (qR k) ≤ 9) (xT : ∀ k : Nat, 0 ≤ Int32.toInt (nG k) ∧ Int32.toInt (nG k) ≤ 99) (yF : ∀ k : Nat, 0 ≤ Int32.toInt (oO k) ∧ Int32.toInt (oO k) ≤ 99) (yD : ∀ k : Nat, k = 4 → 1 ≤ Int32.toInt (pJ k) ∧ Int32.toInt (pJ k) ≤ 30) (xZ : ∀ k : Nat, k = 3 → 0 ≤ Int32.toInt (pJ k) ∧ Int32.toInt (pJ k) ≤ 9) (zY : ∀ k : Nat, 0 ≤ Int32.toInt (sH k) ∧ Int32.toInt (sH k) ≤ 65535) (hc0 : -1 ≤ SB ∧ SB ≤ 7) (hc1 : (Int32.toInt aG ≤ 0 ∧ SB = 0) ∨ (1 ≤ Int32.toInt aG ∧ SB = Int32.toInt aG - 1)) (hpost : ∀ (r : Int32) (xM : Int32) (xG : Int32) (aAS : Int32) (aBX : Nat → Int32) (aA5 : Nat → Int32), (-1 ≤ Int32.toInt r ∧ Int32.toInt r ≤ 65535) → (0 ≤ Int32.toInt xM ∧ Int32.toInt xM ≤ 16) → (0 ≤ Int32.toInt xG ∧ Int32.toInt xG ≤ 0) → (0 ≤ Int32.toInt aAS ∧ Int32.toInt aAS ≤ 65535) → (∀ k : Nat, 0 ≤ Int32.toInt (aA5 k) ∧ Int32.toInt (aA5 k) ≤ 65535) → post r xM xG aAS aBX aA5) : wp_X10_both post p0 p1 bT aG bL bY dO qG m_x gR qR nG oO pJ sW sH := by
  have l0 := aI2
  have l1 := aE0
  have l2 := aEc
  have l3 := li_18
  intro v1 ev1
  have f2 : Int32.toInt (aG - 1) = Int32.toInt aG - Int32.toInt (1 : Int32) := aCA _ _ (by omega)
  rw [← ev1] at f2
  have f4 := aAT p0
  refine And.intro (fun c3 => ?_) (fun c3 => ?_)
  · skip
    have c3 := (aAd _ _).mp c3
    refine And.intro (aHE (by omega)) ?_
    refine And.intro (fun _ => ?_) (fun h9 => absurd h9 (by decide))
    exact hpost _ _ _ _ _ _ (by omega) yJ (by omega) aAH zY
  · skip
    have c3 := mt (aAd _ _).mpr c3
    refine And.intro (fun c5 => ?_) (fun c5 => ?_)
    · skip
      have c5 := (aAd _ _).mp c5
      refine And.intro (aHE (by omega)) ?_
      refine And.intro (fun _ => ?_) (fun h9 => absurd h9 (by decide))
      exact hpost _ _ _ _ _ _ (by omega) yJ (by omega) aAH zY
    · skip
      have c5 := mt (aAd _ _).mpr c5
      refine And.intro (aHE (by omega)) ?_
      refine And.intro (fun h9 => absurd h9 (by decide)) (fun _ => ?_)
      intro v6 ev6
      have hv6 := congrArg Int32.toInt (ev6.trans ev1.symm)
      have f8 := aAT p1
      refine And.intro (fun c7 => ?_) (fun c7 => ?_)
      · skip
        have c7 := (aAd _ _).mp c7
        refine And.intro (aHE (by omega)) ?_
        refine And.intro (fun _ => ?_) (fun h9 => absurd h9 (by decide))
        exact hpost _ _ _ _ _ _ (by omega) yJ (by omega) aAH zY
      · skip
        have c7 := mt (aAd _ _).mpr c7
        refine And.intro (fun c9 => ?_) (fun c9 => ?_)
        · skip
          have c9 := (aAd _ _).mp c9
          refine And.intro (aHE (by omega)) ?_
          refine And.intro (fun _ => ?_) (fun h9 => absurd h9 (by decide))
          exact hpost _ _ _ _ _ _ (by omega) yJ (by omega) aAH zY
        · skip
          have c9 := mt (aAd _ _).mpr c9
          refine And.intro (aHE (by omega)) ?_
          refine And.intro (fun h9 => absurd h9 (by decide)) (fun _ => ?_)
          refine And.intro (fun c10 => ?_) (fun c10 => ?_)
          · skip
            have c10 := mt (zJ _ _).mpr c10
            intro v11 ev11
            have hv11 := congrArg Int32.toInt ev11
            refine aLb xJ vZ aAH xU xV aAW xK zM xT yF yD xZ zY (by omega) (by omega) (fun m_wanted_13 m_hand_14 h_m_wanted_13 h_m_hand_14 => ?_)
            refine And.intro (aBZ (by omega)) ?_
            intro v15 ev15
            have f17 := h_m_hand_14 p0.toNatClampNeg
            have f16 := aAQ m_wanted_13 (m_hand_14 p0.toNatClampNeg) (by omega)
            have f18 := aBx m_wanted_13 (m_hand_14 p0.toNatClampNeg) (by omega)
            have hv15 := congrArg Int32.toInt ev15
            refine And.intro (aBZ (by omega)) ?_
            intro v19 ev19
            have f20 := h_m_hand_14 p1.toNatClampNeg
            have hv19 := congrArg Int32.toInt ev19
            intro v21 ev21
            have f23 := aBx v15 (v19 ^^^ (-1)) (by omega)
            have hv21 := congrArg Int32.toInt ev21
            refine And.intro (aBZ (by omega)) ?_
            intro v24 ev24
            have f25 : Int32.toInt (0 + 1) = Int32.toInt (0 : Int32) + Int32.toInt (1 : Int32) := aAD _ _ (by omega)
            rw [← ev24] at f25
            refine And.intro (aBZ (by omega)) ?_
            intro v26 ev26
            have f27 := aAQ m_wanted_13 (m_hand_14 p1.toNatClampNeg) (by omega)
            have f28 := aBx m_wanted_13 (m_hand_14 p1.toNatClampNeg) (by omega)
            have hv26 := congrArg Int32.toInt ev26
            refine And.intro (aBZ (by omega)) ?_
            intro v29 ev29
            have hv29 := congrArg Int32.toInt ev29
            intro v30 ev30
            have f32 := aBx v26 (v29 ^^^ (-1)) (by omega)
            have hv30 := congrArg Int32.toInt ev30
            refine And.intro (aBZ (by omega)) ?_
            intro v33 ev33
            have f34 : Int32.toInt (v24 + 1) = Int32.toInt v24 + Int32.toInt (1 : Int32) := aAD _ _ (by omega)
            rw [← ev33] at f34
            refine And.intro (aBZ (by omega)) ?_
            intro v35 ev35
            have hv35 := congrArg Int32.toInt ev35
            refine And.intro (aBZ (by omega)) ?_
            have f36 := aAQ v35 (m_hand_14 p1.toNatClampNeg) (by omega)
            have f37 := aBx v35 (m_hand_14 p1.toNatClampNeg) (by omega)
            exact hpost _ _ _ _ _ _ (by omega) (by omega) (by omega) h_m_wanted_13 h_m_hand_14
          · skip
            have c10 := (zJ _ _).mp c10
            exact hpost _ _ _ _ _ _ (by omega) yJ (by omega) aAH zY
set_option maxHeartbeats 8000000 in
set_option maxRecDepth 200000 in
theorem ts_X10_leanOf_2 {post : Int32 → Prop} {next : Int32 → Int32 → Int32 → Prop} {n2 : Int} (m_x gR nG oO pJ : Nat → Int32) (aAW : ∀ k : Nat, 0 ≤ Int32.toInt (m_x k) ∧ Int32.toInt (m_x k) ≤ 99) (xK : ∀ k : Nat, 0 ≤ Int32.toInt (gR k) ∧ Int32.toInt (gR k) ≤ 99) (xT : ∀ k : Nat, 0 ≤ Int32.toInt (nG k) ∧ Int32.toInt (nG k) ≤ 99) (yF : ∀ k : Nat, 0 ≤ Int32.toInt (oO k) ∧ Int32.toInt (oO k) ≤ 99) (yD : ∀ k : Nat, k = 4 → 1 ≤ Int32.toInt (pJ k) ∧ Int32.toInt (pJ k) ≤ 30) (xZ : ∀ k : Nat, k = 3 → 0 ≤ Int32.toInt (pJ k) ∧ Int32.toInt (pJ k) ≤ 9) (hpost : ∀ (r : Int32) , (0 ≤ Int32.toInt r ∧ Int32.toInt r ≤ 31) → post r) (hKn : ∀ (x1 : Int32) (x2 : Int32) (x3 : Int32), (0 ≤ Int32.toInt x1 ∧ Int32.toInt x1 ≤ 15) → (0 ≤ Int32.toInt x2 ∧ Int32.toInt x2 ≤ 7) → (0 ≤ Int32.toInt x3 ∧ Int32.toInt x3 ≤ 31) → (31 - Int32.toInt x3 < n2) → next x1 x2 x3) (x1 x2 x3 : Int32) (aBK : 0 ≤ Int32.toInt x1 ∧ Int32.toInt x1 ≤ 15) (aBN : 0 ≤ Int32.toInt x2 ∧ Int32.toInt x2 ≤ 7) (aCH : 0 ≤ Int32.toInt x3 ∧ Int32.toInt x3 ≤ 31) (hn2 : 31 - Int32.toInt x3 ≤ n2) : ws_X10_leanOf_2 post next m_x gR nG oO pJ x1 x2 x3 := by
  have l0 := aE0
  have l1 := aEc
  have l2 := li_30
  refine And.intro (fun c1 => ?_) (fun c1 => ?_)
  · skip
    have c1 := (aAd _ _).mp c1
    exact hpost _ aCH
  · skip
    have c1 := mt (aAd _ _).mpr c1
    intro v2 ev2
    have hv2 := congrArg Int32.toInt ev2
    intro v4 ev4
    have hv4 := congrArg Int32.toInt ev4
    refine And.intro (aBZ (by omega)) ?_
    intro v6 ev6
    have f7 := aAW x1.toNatClampNeg
    have hv6 := congrArg Int32.toInt ev6
    refine And.intro (aBZ (by omega)) ?_
    intro v8 ev8
    have f10 := xT x2.toNatClampNeg
    have f9 : Int32.toInt (v6 - (nG x2.toNatClampNeg)) = Int32.toInt v6 - Int32.toInt (nG x2.toNatClampNeg) := aCA _ _ (by omega)
    rw [← ev8] at f9
    intro v11 ev11
    have f12 := ti_abs v8 (by omega)
    have hv11 := congrArg Int32.toInt ev11
    refine And.intro (aBZ (by omega)) ?_
    intro v13 ev13
    have hv13 := congrArg Int32.toInt ev13
    refine And.intro (aBZ (by omega)) ?_
    intro v14 ev14
    have f15 : Int32.toInt (v13 - (nG x2.toNatClampNeg)) = Int32.toInt v13 - Int32.toInt (nG x2.toNatClampNeg) := aCA _ _ (by omega)
    rw [← ev14] at f15
    intro v16 ev16
    have f17 := ti_abs v14 (by omega)
    have hv16 := congrArg Int32.toInt ev16
    intro v18 ev18
    have hv18 := congrArg Int32.toInt ev18
    refine And.intro (aBZ (by omega)) ?_
    intro v20 ev20
    have f21 := xK x1.toNatClampNeg
    have hv20 := congrArg Int32.toInt ev20
    refine And.intro (aBZ (by omega)) ?_
    intro v22 ev22
    have f24 := yF x2.toNatClampNeg
    have f23 : Int32.toInt (v20 - (oO x2.toNatClampNeg)) = Int32.toInt v20 - Int32.toInt (oO x2.toNatClampNeg) := aCA _ _ (by omega)
    rw [← ev22] at f23
    intro v25 ev25
    have f26 := ti_max (0 : Int32) v22
    have hv25 := congrArg Int32.toInt ev25
    refine And.intro (aBZ (by omega)) ?_
    intro v27 ev27
    have hv27 := congrArg Int32.toInt ev27
    refine And.intro (aBZ (by omega)) ?_
    intro v28 ev28
    have f29 : Int32.toInt (v27 - (oO x2.toNatClampNeg)) = Int32.toInt v27 - Int32.toInt (oO x2.toNatClampNeg) := aCA _ _ (by omega)
    rw [← ev28] at f29
    intro v30 ev30
    have f31 := ti_max (0 : Int32) v28
    have hv30 := congrArg Int32.toInt ev30
    intro v32 ev32
    have hv32 := congrArg Int32.toInt ev32
    have f35 := aAT v32
    refine And.intro (fun c34 => ?_) (fun c34 => ?_)
    · skip
      have c34 := (aAd _ _).mp c34
      refine And.intro (fun h9 => absurd h9 (by decide)) (fun _ => ?_)
      intro v37 ev37
      have f38 : Int32.toInt (x3 + 1) = Int32.toInt x3 + Int32.toInt (1 : Int32) := aAD _ _ (by omega)
      rw [← ev37] at f38
      exact hKn x1 x2 v37 aBK aBN (by omega) (by omega)
    · skip
      have c34 := mt (aAd _ _).mpr c34
      refine And.intro (fun _ => ?_) (fun h9 => absurd h9 (by decide))
      exact hpost _ aCH
set_option maxHeartbeats 8000000 in
set_option maxRecDepth 200000 in
theorem tb_X10_leanOf_2 {post : Int32 → Prop} (m_x gR nG oO pJ : Nat → Int32) (aAW : ∀ k : Nat, 0 ≤ Int32.toInt (m_x k) ∧ Int32.toInt (m_x k) ≤ 99) (xK : ∀ k : Nat, 0 ≤ Int32.toInt (gR k) ∧ Int32.toInt (gR k) ≤ 99) (xT : ∀ k : Nat, 0 ≤ Int32.toInt (nG k) ∧ Int32.toInt (nG k) ≤ 99) (yF : ∀ k : Nat, 0 ≤ Int32.toInt (oO k) ∧ Int32.toInt (oO k) ≤ 99) (yD : ∀ k : Nat, k = 4 → 1 ≤ Int32.toInt (pJ k) ∧ Int32.toInt (pJ k) ≤ 30) (xZ : ∀ k : Nat, k = 3 → 0 ≤ Int32.toInt (pJ k) ∧ Int32.toInt (pJ k) ≤ 9) (hpost : ∀ (r : Int32) , (0 ≤ Int32.toInt r ∧ Int32.toInt r ≤ 31) → post r) : ∀ (n : Nat) (x1 x2 x3 : Int32), (0 ≤ Int32.toInt x1 ∧ Int32.toInt x1 ≤ 15) → (0 ≤ Int32.toInt x2 ∧ Int32.toInt x2 ≤ 7) → (0 ≤ Int32.toInt x3 ∧ Int32.toInt x3 ≤ 31) → (31 - Int32.toInt x3 < (n : Int)) → wb_X10_leanOf_2 post m_x gR nG oO pJ n x1 x2 x3 := by
  intro n
  induction n with
  | zero =>
    intro x1 x2 x3 aBK aBN aCH hm
    exfalso; omega
  | succ n ih =>
    intro x1 x2 x3 aBK aBN aCH hm
    exact ts_X10_leanOf_2 m_x gR nG oO pJ aAW xK xT yF yD xZ hpost ih x1 x2 x3 aBK aBN aCH (by omega)
set_option maxHeartbeats 8000000 in
set_option maxRecDepth 200000 in
theorem t_X10_leanOf {post : Int32 → Prop} {p0 p1 : Int32} {m_x gR nG oO pJ : Nat → Int32} (h_p0 : 0 ≤ Int32.toInt p0 ∧ Int32.toInt p0 ≤ 15) (h_p1 : 0 ≤ Int32.toInt p1 ∧ Int32.toInt p1 ≤ 7) (aAW : ∀ k : Nat, 0 ≤ Int32.toInt (m_x k) ∧ Int32.toInt (m_x k) ≤ 99) (xK : ∀ k : Nat, 0 ≤ Int32.toInt (gR k) ∧ Int32.toInt (gR k) ≤ 99) (xT : ∀ k : Nat, 0 ≤ Int32.toInt (nG k) ∧ Int32.toInt (nG k) ≤ 99) (yF : ∀ k : Nat, 0 ≤ Int32.toInt (oO k) ∧ Int32.toInt (oO k) ≤ 99) (yD : ∀ k : Nat, k = 4 → 1 ≤ Int32.toInt (pJ k) ∧ Int32.toInt (pJ k) ≤ 30) (xZ : ∀ k : Nat, k = 3 → 0 ≤ Int32.toInt (pJ k) ∧ Int32.toInt (pJ k) ≤ 9) (hpost : ∀ (r : Int32) , (0 ≤ Int32.toInt r ∧ Int32.toInt r ≤ 31) → post r) : aUA post p0 p1 m_x gR nG oO pJ := by
  have l0 := aE0
  exact ⟨33, tb_X10_leanOf_2 m_x gR nG oO pJ aAW xK xT yF yD xZ hpost _ p0 p1 0 h_p0 h_p1 (by omega) (by omega)⟩
set_option maxHeartbeats 8000000 in
set_option maxRecDepth 200000 in
theorem ts_X10_nearest_60 {post : Int32 → Int32 → Int32 → (Nat → Int32) → Prop} {K20 : Int32 → Int32 → Int32 → Int32 → Int32 → (Nat → Int32) → Prop} {n20 : Int} (bT aG : Int32) (m_x gR nG oO pJ : Nat → Int32) (xJ : 0 ≤ Int32.toInt bT ∧ Int32.toInt bT ≤ 16) (vZ : 0 ≤ Int32.toInt aG ∧ Int32.toInt aG ≤ 8) (aAW : ∀ k : Nat, 0 ≤ Int32.toInt (m_x k) ∧ Int32.toInt (m_x k) ≤ 99) (xK : ∀ k : Nat, 0 ≤ Int32.toInt (gR k) ∧ Int32.toInt (gR k) ≤ 99) (xT : ∀ k : Nat, 0 ≤ Int32.toInt (nG k) ∧ Int32.toInt (nG k) ≤ 99) (yF : ∀ k : Nat, 0 ≤ Int32.toInt (oO k) ∧ Int32.toInt (oO k) ≤ 99) (yD : ∀ k : Nat, k = 4 → 1 ≤ Int32.toInt (pJ k) ∧ Int32.toInt (pJ k) ≤ 30) (xZ : ∀ k : Nat, k = 3 → 0 ≤ Int32.toInt (pJ k) ∧ Int32.toInt (pJ k) ≤ 9) (hpost : ∀ (r : Int32) (xM : Int32) (xG : Int32) (aBX : Nat → Int32), (-2 ≤ Int32.toInt r ∧ Int32.toInt r ≤ 7) → (0 ≤ Int32.toInt xM ∧ Int32.toInt xM ≤ 16) → (0 ≤ Int32.toInt xG ∧ Int32.toInt xG ≤ 0) → post r xM xG aBX) (hK20 : ∀ (x1 : Int32) (x2 : Int32) (x3 : Int32) (bL : Int32) (bY : Int32) (sW : Nat → Int32), (0 ≤ Int32.toInt x1 ∧ Int32.toInt x1 ≤ 15) → (-2 ≤ Int32.toInt x2 ∧ Int32.toInt x2 ≤ 7) → (0 ≤ Int32.toInt x3 ∧ Int32.toInt x3 ≤ 8) → (0 ≤ Int32.toInt bL ∧ Int32.toInt bL ≤ 16) → (0 ≤ Int32.toInt bY ∧ Int32.toInt bY ≤ 0) → (8 - Int32.toInt x3 < n20) → K20 x1 x2 x3 bL bY sW) (x1 x2 x3 bL bY : Int32) (sW : Nat → Int32) (aBK : 0 ≤ Int32.toInt x1 ∧ Int32.toInt x1 ≤ 15) (aBN : -2 ≤ Int32.toInt x2 ∧ Int32.toInt x2 ≤ 7) (aCH : 0 ≤ Int32.toInt x3 ∧ Int32.toInt x3 ≤ 7) (yJ : 0 ≤ Int32.toInt bL ∧ Int32.toInt bL ≤ 16) (yG : 0 ≤ Int32.toInt bY ∧ Int32.toInt bY ≤ 0) (hn20 : 8 - Int32.toInt x3 ≤ n20) : aYH post K20 bT aG m_x gR nG oO pJ x1 x2 x3 bL bY sW := by
  have l0 := aEc
  intro v1 ev1
  have f2 : Int32.toInt (x3 + 1) = Int32.toInt x3 + Int32.toInt (1 : Int32) := aAD _ _ (by omega)
  rw [← ev1] at f2
  exact hK20 x1 x2 v1 bL bY sW aBK aBN (by omega) yJ yG (by omega)
set_option maxHeartbeats 8000000 in
set_option maxRecDepth 200000 in
theorem ts_X10_nearest_58 {post : Int32 → Int32 → Int32 → (Nat → Int32) → Prop} {K20 : Int32 → Int32 → Int32 → Int32 → Int32 → (Nat → Int32) → Prop} {n20 : Int} (bT aG : Int32) (m_x gR nG oO pJ : Nat → Int32) (xJ : 0 ≤ Int32.toInt bT ∧ Int32.toInt bT ≤ 16) (vZ : 0 ≤ Int32.toInt aG ∧ Int32.toInt aG ≤ 8) (aAW : ∀ k : Nat, 0 ≤ Int32.toInt (m_x k) ∧ Int32.toInt (m_x k) ≤ 99) (xK : ∀ k : Nat, 0 ≤ Int32.toInt (gR k) ∧ Int32.toInt (gR k) ≤ 99) (xT : ∀ k : Nat, 0 ≤ Int32.toInt (nG k) ∧ Int32.toInt (nG k) ≤ 99) (yF : ∀ k : Nat, 0 ≤ Int32.toInt (oO k) ∧ Int32.toInt (oO k) ≤ 99) (yD : ∀ k : Nat, k = 4 → 1 ≤ Int32.toInt (pJ k) ∧ Int32.toInt (pJ k) ≤ 30) (xZ : ∀ k : Nat, k = 3 → 0 ≤ Int32.toInt (pJ k) ∧ Int32.toInt (pJ k) ≤ 9) (hpost : ∀ (r : Int32) (xM : Int32) (xG : Int32) (aBX : Nat → Int32), (-2 ≤ Int32.toInt r ∧ Int32.toInt r ≤ 7) → (0 ≤ Int32.toInt xM ∧ Int32.toInt xM ≤ 16) → (0 ≤ Int32.toInt xG ∧ Int32.toInt xG ≤ 0) → post r xM xG aBX) (hK20 : ∀ (x1 : Int32) (x2 : Int32) (x3 : Int32) (bL : Int32) (bY : Int32) (sW : Nat → Int32), (0 ≤ Int32.toInt x1 ∧ Int32.toInt x1 ≤ 15) → (-2 ≤ Int32.toInt x2 ∧ Int32.toInt x2 ≤ 7) → (0 ≤ Int32.toInt x3 ∧ Int32.toInt x3 ≤ 8) → (0 ≤ Int32.toInt bL ∧ Int32.toInt bL ≤ 16) → (0 ≤ Int32.toInt bY ∧ Int32.toInt bY ≤ 0) → (8 - Int32.toInt x3 < n20) → K20 x1 x2 x3 bL bY sW) (x1 x3 bL bY : Int32) (sW : Nat → Int32) (aBK : 0 ≤ Int32.toInt x1 ∧ Int32.toInt x1 ≤ 15) (aCH : 0 ≤ Int32.toInt x3 ∧ Int32.toInt x3 ≤ 7) (yJ : 0 ≤ Int32.toInt bL ∧ Int32.toInt bL ≤ 16) (yG : 0 ≤ Int32.toInt bY ∧ Int32.toInt bY ≤ 0) (hn20 : 8 - Int32.toInt x3 ≤ n20) : ws_X10_nearest_58 post K20 bT aG m_x gR nG oO pJ x1 x3 bL bY sW := by
  exact ts_X10_nearest_60 bT aG m_x gR nG oO pJ xJ vZ aAW xK xT yF yD xZ hpost hK20 x1 x3 x3 bL bY sW aBK (by omega) aCH yJ yG hn20
set_option maxHeartbeats 8000000 in
set_option maxRecDepth 200000 in
theorem ts_X10_nearest_20 {post : Int32 → Int32 → Int32 → (Nat → Int32) → Prop} {next : Int32 → Int32 → Int32 → Int32 → Int32 → (Nat → Int32) → Prop} {n20 : Int} (bT aG : Int32) (m_x gR nG oO pJ : Nat → Int32) (xJ : 0 ≤ Int32.toInt bT ∧ Int32.toInt bT ≤ 16) (vZ : 0 ≤ Int32.toInt aG ∧ Int32.toInt aG ≤ 8) (aAW : ∀ k : Nat, 0 ≤ Int32.toInt (m_x k) ∧ Int32.toInt (m_x k) ≤ 99) (xK : ∀ k : Nat, 0 ≤ Int32.toInt (gR k) ∧ Int32.toInt (gR k) ≤ 99) (xT : ∀ k : Nat, 0 ≤ Int32.toInt (nG k) ∧ Int32.toInt (nG k) ≤ 99) (yF : ∀ k : Nat, 0 ≤ Int32.toInt (oO k) ∧ Int32.toInt (oO k) ≤ 99) (yD : ∀ k : Nat, k = 4 → 1 ≤ Int32.toInt (pJ k) ∧ Int32.toInt (pJ k) ≤ 30) (xZ : ∀ k : Nat, k = 3 → 0 ≤ Int32.toInt (pJ k) ∧ Int32.toInt (pJ k) ≤ 9) (hpost : ∀ (r : Int32) (xM : Int32) (xG : Int32) (aBX : Nat → Int32), (-2 ≤ Int32.toInt r ∧ Int32.toInt r ≤ 7) → (0 ≤ Int32.toInt xM ∧ Int32.toInt xM ≤ 16) → (0 ≤ Int32.toInt xG ∧ Int32.toInt xG ≤ 0) → post r xM xG aBX) (hKn : ∀ (x1 : Int32) (x2 : Int32) (x3 : Int32) (bL : Int32) (bY : Int32) (sW : Nat → Int32), (0 ≤ Int32.toInt x1 ∧ Int32.toInt x1 ≤ 15) → (-2 ≤ Int32.toInt x2 ∧ Int32.toInt x2 ≤ 7) → (0 ≤ Int32.toInt x3 ∧ Int32.toInt x3 ≤ 8) → (0 ≤ Int32.toInt bL ∧ Int32.toInt bL ≤ 16) → (0 ≤ Int32.toInt bY ∧ Int32.toInt bY ≤ 0) → (8 - Int32.toInt x3 < n20) → next x1 x2 x3 bL bY sW) (x1 x2 x3 bL bY : Int32) (sW : Nat → Int32) (aBK : 0 ≤ Int32.toInt x1 ∧ Int32.toInt x1 ≤ 15) (aBN : -2 ≤ Int32.toInt x2 ∧ Int32.toInt x2 ≤ 7) (aCH : 0 ≤ Int32.toInt x3 ∧ Int32.toInt x3 ≤ 8) (yJ : 0 ≤ Int32.toInt bL ∧ Int32.toInt bL ≤ 16) (yG : 0 ≤ Int32.toInt bY ∧ Int32.toInt bY ≤ 0) (hn20 : 8 - Int32.toInt x3 ≤ n20) : ws_X10_nearest_20 post next bT aG m_x gR nG oO pJ x1 x2 x3 bL bY sW := by
  have l0 := li_m2
  have l1 := aE0
  have l2 := aEc
  have l3 := li_30
  refine And.intro (fun c3 => ?_) (fun c3 => ?_)
  · skip
    have c3 := (aAO _ _).mp c3
    refine And.intro (fun c4 => ?_) (fun c4 => ?_)
    · skip
      have c4 := (aAO _ _).mp c4
      refine t_X10_leanOf aBK (by omega) aAW xK xT yF yD xZ (fun r5 h_r5 => ?_)
      refine And.intro (aBZ (by omega)) ?_
      intro v6 ev6
      have f7 : Int32.toInt (0 + 1) = Int32.toInt (0 : Int32) + Int32.toInt (1 : Int32) := aAD _ _ (by omega)
      rw [← ev6] at f7
      exact hpost _ _ _ _ aBN (by omega) yG
    · skip
      have c4 := mt (aAO _ _).mpr c4
      exact hpost _ _ _ _ (by omega) yJ yG
  · skip
    have c3 := mt (aAO _ _).mpr c3
    refine t_X10_leanOf aBK (by omega) aAW xK xT yF yD xZ (fun r8 h_r8 => ?_)
    refine And.intro (fun c9 => ?_) (fun c9 => ?_)
    · skip
      have c9 := (aAd _ _).mp c9
      exact ts_X10_nearest_60 bT aG m_x gR nG oO pJ xJ vZ aAW xK xT yF yD xZ hpost hKn x1 x2 x3 bL bY sW aBK aBN (by omega) yJ yG hn20
    · skip
      have c9 := mt (aAd _ _).mpr c9
      refine And.intro (fun c10 => ?_) (fun c10 => ?_)
      · skip
        have c10 := (aAd _ _).mp c10
        exact ts_X10_nearest_58 bT aG m_x gR nG oO pJ xJ vZ aAW xK xT yF yD xZ hpost hKn x1 x3 bL bY sW aBK (by omega) yJ yG hn20
      · skip
        have c10 := mt (aAd _ _).mpr c10
        refine t_X10_leanOf aBK (by omega) aAW xK xT yF yD xZ (fun r11 h_r11 => ?_)
        refine t_X10_leanOf aBK (by omega) aAW xK xT yF yD xZ (fun r12 h_r12 => ?_)
        refine And.intro (fun c13 => ?_) (fun c13 => ?_)
        · skip
          have c13 := (aAO _ _).mp c13
          exact ts_X10_nearest_60 bT aG m_x gR nG oO pJ xJ vZ aAW xK xT yF yD xZ hpost hKn x1 x2 x3 bL bY sW aBK aBN (by omega) yJ yG hn20
        · skip
          have c13 := mt (aAO _ _).mpr c13
          exact ts_X10_nearest_58 bT aG m_x gR nG oO pJ xJ vZ aAW xK xT yF yD xZ hpost hKn x1 x3 bL bY sW aBK (by omega) yJ yG hn20
set_option maxHeartbeats 8000000 in
set_option maxRecDepth 200000 in
theorem tb_X10_nearest_20 {post : Int32 → Int32 → Int32 → (Nat → Int32) → Prop} (bT aG : Int32) (m_x gR nG oO pJ : Nat → Int32) (xJ : 0 ≤ Int32.toInt bT ∧ Int32.toInt bT ≤ 16) (vZ : 0 ≤ Int32.toInt aG ∧ Int32.toInt aG ≤ 8) (aAW : ∀ k : Nat, 0 ≤ Int32.toInt (m_x k) ∧ Int32.toInt (m_x k) ≤ 99) (xK : ∀ k : Nat, 0 ≤ Int32.toInt (gR k) ∧ Int32.toInt (gR k) ≤ 99) (xT : ∀ k : Nat, 0 ≤ Int32.toInt (nG k) ∧ Int32.toInt (nG k) ≤ 99) (yF : ∀ k : Nat, 0 ≤ Int32.toInt (oO k) ∧ Int32.toInt (oO k) ≤ 99) (yD : ∀ k : Nat, k = 4 → 1 ≤ Int32.toInt (pJ k) ∧ Int32.toInt (pJ k) ≤ 30) (xZ : ∀ k : Nat, k = 3 → 0 ≤ Int32.toInt (pJ k) ∧ Int32.toInt (pJ k) ≤ 9) (hpost : ∀ (r : Int32) (xM : Int32) (xG : Int32) (aBX : Nat → Int32), (-2 ≤ Int32.toInt r ∧ Int32.toInt r ≤ 7) → (0 ≤ Int32.toInt xM ∧ Int32.toInt xM ≤ 16) → (0 ≤ Int32.toInt xG ∧ Int32.toInt xG ≤ 0) → post r xM xG aBX) : ∀ (n : Nat) (x1 x2 x3 bL bY : Int32) (sW : Nat → Int32), (0 ≤ Int32.toInt x1 ∧ Int32.toInt x1 ≤ 15) → (-2 ≤ Int32.toInt x2 ∧ Int32.toInt x2 ≤ 7) → (0 ≤ Int32.toInt x3 ∧ Int32.toInt x3 ≤ 8) → (0 ≤ Int32.toInt bL ∧ Int32.toInt bL ≤ 16) → (0 ≤ Int32.toInt bY ∧ Int32.toInt bY ≤ 0) → (8 - Int32.toInt x3 < (n : Int)) → wb_X10_nearest_20 post bT aG m_x gR nG oO pJ n x1 x2 x3 bL bY sW := by
  intro n
  induction n with
  | zero =>
    intro x1 x2 x3 bL bY sW aBK aBN aCH yJ yG hm
    exfalso; omega
  | succ n ih =>
    intro x1 x2 x3 bL bY sW aBK aBN aCH yJ yG hm
    exact ts_X10_nearest_20 bT aG m_x gR nG oO pJ xJ vZ aAW xK xT yF yD xZ hpost ih x1 x2 x3 bL bY sW aBK aBN aCH yJ yG (by omega)
set_option maxHeartbeats 8000000 in
set_option maxRecDepth 200000 in
theorem t_X10_nearest {post : Int32 → Int32 → Int32 → (Nat → Int32) → Prop} {p0 bT aG bL bY : Int32} {m_x gR nG oO pJ sW : Nat → Int32} (xJ : 0 ≤ Int32.toInt bT ∧ Int32.toInt bT ≤ 16) (vZ : 0 ≤ Int32.toInt aG ∧ Int32.toInt aG ≤ 8) (yJ : 0 ≤ Int32.toInt bL ∧ Int32.toInt bL ≤ 16) (yG : 0 ≤ Int32.toInt bY ∧ Int32.toInt bY ≤ 1) (aAW : ∀ k : Nat, 0 ≤ Int32.toInt (m_x k) ∧ Int32.toInt (m_x k) ≤ 99) (xK : ∀ k : Nat, 0 ≤ Int32.toInt (gR k) ∧ Int32.toInt (gR k) ≤ 99) (xT : ∀ k : Nat, 0 ≤ Int32.toInt (nG k) ∧ Int32.toInt (nG k) ≤ 99) (yF : ∀ k : Nat, 0 ≤ Int32.toInt (oO k) ∧ Int32.toInt (oO k) ≤ 99) (yD : ∀ k : Nat, k = 4 → 1 ≤ Int32.toInt (pJ k) ∧ Int32.toInt (pJ k) ≤ 30) (xZ : ∀ k : Nat, k = 3 → 0 ≤ Int32.toInt (pJ k) ∧ Int32.toInt (pJ k) ≤ 9) (hpost : ∀ (r : Int32) (xM : Int32) (xG : Int32) (aBX : Nat → Int32), (-2 ≤ Int32.toInt r ∧ Int32.toInt r ≤ 7) → (0 ≤ Int32.toInt xM ∧ Int32.toInt xM ≤ 16) → (0 ≤ Int32.toInt xG ∧ Int32.toInt xG ≤ 0) → post r xM xG aBX) : wp_X10_nearest post p0 bT aG bL bY m_x gR nG oO pJ sW := by
  have l0 := aI2
  have l1 := li_m2
  have l2 := aE0
  have l3 := aEc
  intro v14 ev14
  have f15 : Int32.toInt (bT - 1) = Int32.toInt bT - Int32.toInt (1 : Int32) := aCA _ _ (by omega)
  rw [← ev14] at f15
  have f17 := aAT p0
  refine And.intro (fun c16 => ?_) (fun c16 => ?_)
  · skip
    have c16 := (aAd _ _).mp c16
    refine And.intro (aHE (by omega)) ?_
    refine And.intro (fun h9 => absurd h9 (by decide)) (fun _ => ?_)
    exact hpost _ _ _ _ (by omega) yJ (by omega)
  · skip
    have c16 := mt (aAd _ _).mpr c16
    refine And.intro (fun c18 => ?_) (fun c18 => ?_)
    · skip
      have c18 := (aAd _ _).mp c18
      refine And.intro (aHE (by omega)) ?_
      refine And.intro (fun h9 => absurd h9 (by decide)) (fun _ => ?_)
      exact hpost _ _ _ _ (by omega) yJ (by omega)
    · skip
      have c18 := mt (aAd _ _).mpr c18
      refine And.intro (aHE (by omega)) ?_
      refine And.intro (fun _ => ?_) (fun h9 => absurd h9 (by decide))
      exact ⟨10, tb_X10_nearest_20 bT aG m_x gR nG oO pJ xJ vZ aAW xK xT yF yD xZ hpost _ p0 (-2) 0 bL 0 sW (by omega) (by omega) (by omega) yJ (by omega) (by omega)⟩
theorem t_J6_numberOfTrailingZeros_0f7a4 {post : Int32 → Prop} {p0 : Int32} (hpost : ∀ (r : Int32) , ((1 ≤ Int32.toInt p0 ∧ Int32.toInt p0 ≤ 65535) → (0 ≤ Int32.toInt r ∧ Int32.toInt r ≤ 15)) → post r) : aOk post p0 := by
  exact f_ntz hpost
