set_option maxHeartbeats 8000000 in
set_option maxRecDepth 200000 in
theorem ts_X10_marks_66 {post : Int32 → Int32 → Prop} {K32 : Int32 → Int32 → Int32 → Int32 → Int32 → Prop} {n32 : Int} (aG : Int32) (nG : Nat → Int32) (vZ : 0 ≤ Int32.toInt aG ∧ Int32.toInt aG ≤ 8) (xT : ∀ k : Nat, 0 ≤ Int32.toInt (nG k) ∧ Int32.toInt (nG k) ≤ 99) (hpost : ∀ (r : Int32) (xG : Int32), (-1 ≤ Int32.toInt r ∧ Int32.toInt r ≤ 255) → (0 ≤ Int32.toInt xG ∧ Int32.toInt xG ≤ 0) → post r xG) (hK32 : ∀ (x1 : Int32) (x2 : Int32) (x3 : Int32) (x4 : Int32) (bY : Int32), (0 ≤ Int32.toInt x1 ∧ Int32.toInt x1 ≤ 99) → (0 ≤ Int32.toInt x2 ∧ Int32.toInt x2 ≤ 99) → (0 ≤ Int32.toInt x3 ∧ Int32.toInt x3 ≤ 255) → (0 ≤ Int32.toInt x4 ∧ Int32.toInt x4 ≤ 8) → (0 ≤ Int32.toInt bY ∧ Int32.toInt bY ≤ 0) → (8 - Int32.toInt x4 < n32) → K32 x1 x2 x3 x4 bY) (x1 x2 x4 k0 k1 bY : Int32) (aBK : 0 ≤ Int32.toInt x1 ∧ Int32.toInt x1 ≤ 99) (aBN : 0 ≤ Int32.toInt x2 ∧ Int32.toInt x2 ≤ 99) (aDO : 0 ≤ Int32.toInt x4 ∧ Int32.toInt x4 ≤ 7) (h_k0 : 0 ≤ Int32.toInt k0 ∧ Int32.toInt k0 ≤ 255) (h_k1 : 0 ≤ Int32.toInt k1 ∧ Int32.toInt k1 ≤ 128) (yG : 0 ≤ Int32.toInt bY ∧ Int32.toInt bY ≤ 0) (hn32 : 8 - Int32.toInt x4 ≤ n32) : ws_X10_marks_66 post K32 aG nG x1 x2 x4 k0 k1 bY := by
  have l0 := aEc
  intro v1 ev1
  have f2 := ti_or 8 256 k0 k1 (by decide) ⟨by omega, by omega⟩ ⟨by omega, by omega⟩
  have hv1 := congrArg Int32.toInt ev1
  intro v3 ev3
  have f4 : Int32.toInt (x4 + 1) = Int32.toInt x4 + Int32.toInt (1 : Int32) := aAD _ _ ⟨by omega, by omega⟩
  rw [← ev3] at f4
  exact hK32 x1 x2 v1 v3 bY aBK aBN ⟨by omega, by omega⟩ ⟨by omega, by omega⟩ yG (by omega)
set_option maxHeartbeats 8000000 in
set_option maxRecDepth 200000 in
theorem ts_X10_marks_32 {post : Int32 → Int32 → Prop} {next : Int32 → Int32 → Int32 → Int32 → Int32 → Prop} {n32 : Int} (aG : Int32) (nG : Nat → Int32) (vZ : 0 ≤ Int32.toInt aG ∧ Int32.toInt aG ≤ 8) (xT : ∀ k : Nat, 0 ≤ Int32.toInt (nG k) ∧ Int32.toInt (nG k) ≤ 99) (hpost : ∀ (r : Int32) (xG : Int32), (-1 ≤ Int32.toInt r ∧ Int32.toInt r ≤ 255) → (0 ≤ Int32.toInt xG ∧ Int32.toInt xG ≤ 0) → post r xG) (hKn : ∀ (x1 : Int32) (x2 : Int32) (x3 : Int32) (x4 : Int32) (bY : Int32), (0 ≤ Int32.toInt x1 ∧ Int32.toInt x1 ≤ 99) → (0 ≤ Int32.toInt x2 ∧ Int32.toInt x2 ≤ 99) → (0 ≤ Int32.toInt x3 ∧ Int32.toInt x3 ≤ 255) → (0 ≤ Int32.toInt x4 ∧ Int32.toInt x4 ≤ 8) → (0 ≤ Int32.toInt bY ∧ Int32.toInt bY ≤ 0) → (8 - Int32.toInt x4 < n32) → next x1 x2 x3 x4 bY) (x1 x2 x3 x4 bY : Int32) (aBK : 0 ≤ Int32.toInt x1 ∧ Int32.toInt x1 ≤ 99) (aBN : 0 ≤ Int32.toInt x2 ∧ Int32.toInt x2 ≤ 99) (aCH : 0 ≤ Int32.toInt x3 ∧ Int32.toInt x3 ≤ 255) (aDO : 0 ≤ Int32.toInt x4 ∧ Int32.toInt x4 ≤ 8) (yG : 0 ≤ Int32.toInt bY ∧ Int32.toInt bY ≤ 0) (hn32 : 8 - Int32.toInt x4 ≤ n32) : ws_X10_marks_32 post next aG nG x1 x2 x3 x4 bY := by
  have l0 := aE0
  refine And.intro (fun c5 => ?_) (fun c5 => ?_)
  · skip
    have c5 := (aAO _ _).mp c5
    exact hpost _ _ ⟨by omega, by omega⟩ yG
  · skip
    have c5 := mt (aAO _ _).mpr c5
    refine And.intro (aBZ ⟨by omega, by omega⟩) ?_
    intro v6 ev6
    have f7 := xT x4.toNatClampNeg
    have hv6 := congrArg Int32.toInt ev6
    intro v8 ev8
    have f9 : Int32.toInt (v6 - x1) = Int32.toInt v6 - Int32.toInt x1 := aCA _ _ ⟨by omega, by omega⟩
    rw [← ev8] at f9
    intro v10 ev10
    have f11 := ti_abs v8 (by omega)
    have hv10 := congrArg Int32.toInt ev10
    refine And.intro (fun c12 => ?_) (fun c12 => ?_)
    · skip
      have c12 := (aAd _ _).mp c12
      exact ts_X10_marks_66 aG nG vZ xT hpost hKn x1 x2 x4 x3 0 bY aBK aBN ⟨by omega, by omega⟩ aCH ⟨by omega, by omega⟩ yG hn32
    · skip
      have c12 := mt (aAd _ _).mpr c12
      intro v13 ev13
      have f14 := aDv 7 128 x4 (by decide) ⟨by omega, by omega⟩
      have hv13 := congrArg Int32.toInt ev13
      exact ts_X10_marks_66 aG nG vZ xT hpost hKn x1 x2 x4 x3 v13 bY aBK aBN ⟨by omega, by omega⟩ aCH ⟨by omega, by omega⟩ yG hn32
set_option maxHeartbeats 8000000 in
set_option maxRecDepth 200000 in
theorem tb_X10_marks_32 {post : Int32 → Int32 → Prop} (aG : Int32) (nG : Nat → Int32) (vZ : 0 ≤ Int32.toInt aG ∧ Int32.toInt aG ≤ 8) (xT : ∀ k : Nat, 0 ≤ Int32.toInt (nG k) ∧ Int32.toInt (nG k) ≤ 99) (hpost : ∀ (r : Int32) (xG : Int32), (-1 ≤ Int32.toInt r ∧ Int32.toInt r ≤ 255) → (0 ≤ Int32.toInt xG ∧ Int32.toInt xG ≤ 0) → post r xG) : ∀ (n : Nat) (x1 x2 x3 x4 bY : Int32), (0 ≤ Int32.toInt x1 ∧ Int32.toInt x1 ≤ 99) → (0 ≤ Int32.toInt x2 ∧ Int32.toInt x2 ≤ 99) → (0 ≤ Int32.toInt x3 ∧ Int32.toInt x3 ≤ 255) → (0 ≤ Int32.toInt x4 ∧ Int32.toInt x4 ≤ 8) → (0 ≤ Int32.toInt bY ∧ Int32.toInt bY ≤ 0) → (8 - Int32.toInt x4 < (n : Int)) → wb_X10_marks_32 post aG nG n x1 x2 x3 x4 bY := by
  intro n
  induction n with
  | zero =>
    intro x1 x2 x3 x4 bY aBK aBN aCH aDO yG hm
    exfalso; omega
  | succ n ih =>
    intro x1 x2 x3 x4 bY aBK aBN aCH aDO yG hm
    exact ts_X10_marks_32 aG nG vZ xT hpost ih x1 x2 x3 x4 bY aBK aBN aCH aDO yG (by omega)
set_option maxHeartbeats 8000000 in
set_option maxRecDepth 200000 in
theorem t_X10_marks {post : Int32 → Int32 → Prop} {p0 p1 aG bY : Int32} {nG : Nat → Int32} (vZ : 0 ≤ Int32.toInt aG ∧ Int32.toInt aG ≤ 8) (yG : 0 ≤ Int32.toInt bY ∧ Int32.toInt bY ≤ 1) (xT : ∀ k : Nat, 0 ≤ Int32.toInt (nG k) ∧ Int32.toInt (nG k) ≤ 99) (hpost : ∀ (r : Int32) (xG : Int32), (-1 ≤ Int32.toInt r ∧ Int32.toInt r ≤ 255) → (0 ≤ Int32.toInt xG ∧ Int32.toInt xG ≤ 0) → post r xG) : wp_X10_marks post p0 p1 aG bY nG := by
  have l0 := aI2
  have l1 := aE0
  have l2 := li_99
  have f16 := aAT p0
  refine And.intro (fun c15 => ?_) (fun c15 => ?_)
  · skip
    have c15 := (aAd _ _).mp c15
    refine And.intro (fun _ => ?_) (fun h9 => absurd h9 (by decide))
    exact hpost _ _ ⟨by omega, by omega⟩ ⟨by omega, by omega⟩
  · skip
    have c15 := mt (aAd _ _).mpr c15
    refine And.intro (fun c17 => ?_) (fun c17 => ?_)
    · skip
      have c17 := (aAd _ _).mp c17
      refine And.intro (fun _ => ?_) (fun h9 => absurd h9 (by decide))
      exact hpost _ _ ⟨by omega, by omega⟩ ⟨by omega, by omega⟩
    · skip
      have c17 := mt (aAd _ _).mpr c17
      refine And.intro (fun h9 => absurd h9 (by decide)) (fun _ => ?_)
      have f19 := aAT p1
      refine And.intro (fun c18 => ?_) (fun c18 => ?_)
      · skip
        have c18 := (aAd _ _).mp c18
        refine And.intro (fun h9 => absurd h9 (by decide)) (fun _ => ?_)
        exact hpost _ _ ⟨by omega, by omega⟩ ⟨by omega, by omega⟩
      · skip
        have c18 := mt (aAd _ _).mpr c18
        refine And.intro (fun c20 => ?_) (fun c20 => ?_)
        · skip
          have c20 := (aAd _ _).mp c20
          refine And.intro (fun h9 => absurd h9 (by decide)) (fun _ => ?_)
          exact hpost _ _ ⟨by omega, by omega⟩ ⟨by omega, by omega⟩
        · skip
          have c20 := mt (aAd _ _).mpr c20
          refine And.intro (fun _ => ?_) (fun h9 => absurd h9 (by decide))
          exact ⟨10, tb_X10_marks_32 aG nG vZ xT hpost _ p0 p1 0 0 0 ⟨by omega, by omega⟩ ⟨by omega, by omega⟩ ⟨by omega, by omega⟩ ⟨by omega, by omega⟩ ⟨by omega, by omega⟩ (by omega)⟩
set_option maxHeartbeats 8000000 in
set_option maxRecDepth 200000 in
theorem ts_X10_fits_156 {post : Int32 → Int32 → Int32 → Int32 → (Nat → Int32) → (Nat → Int32) → Prop} {SB : Int} {K73 : Int32 → Int32 → Int32 → Int32 → Int32 → Int32 → Int32 → Int32 → Int32 → (Nat → Int32) → (Nat → Int32) → Prop} {n73 : Int} (bT aG : Int32) (qG m_x gR qR nG oO pJ : Nat → Int32) (xJ : 0 ≤ Int32.toInt bT ∧ Int32.toInt bT ≤ 16) (vZ : 0 ≤ Int32.toInt aG ∧ Int32.toInt aG ≤ 8) (xU : ∀ k : Nat, k = 17 → -1 ≤ Int32.toInt (qG k) ∧ Int32.toInt (qG k) ≤ SB) (xV : ∀ k : Nat, k = 19 → 0 ≤ Int32.toInt (qG k) ∧ Int32.toInt (qG k) ≤ 9) (aAW : ∀ k : Nat, 0 ≤ Int32.toInt (m_x k) ∧ Int32.toInt (m_x k) ≤ 99) (xK : ∀ k : Nat, 0 ≤ Int32.toInt (gR k) ∧ Int32.toInt (gR k) ≤ 99) (zM : ∀ k : Nat, 0 ≤ Int32.toInt (qR k) ∧ Int32.toInt (qR k) ≤ 9) (xT : ∀ k : Nat, 0 ≤ Int32.toInt (nG k) ∧ Int32.toInt (nG k) ≤ 99) (yF : ∀ k : Nat, 0 ≤ Int32.toInt (oO k) ∧ Int32.toInt (oO k) ≤ 99) (yD : ∀ k : Nat, k = 4 → 1 ≤ Int32.toInt (pJ k) ∧ Int32.toInt (pJ k) ≤ 30) (xZ : ∀ k : Nat, k = 3 → 0 ≤ Int32.toInt (pJ k) ∧ Int32.toInt (pJ k) ≤ 9) (hc0 : -1 ≤ SB ∧ SB ≤ 7) (hc1 : (Int32.toInt aG ≤ 0 ∧ SB = 0) ∨ (1 ≤ Int32.toInt aG ∧ SB = Int32.toInt aG - 1)) (hpost : ∀ (r : Int32) (xM : Int32) (xG : Int32) (aAS : Int32) (aBX : Nat → Int32) (aA5 : Nat → Int32), (0 ≤ Int32.toInt xM ∧ Int32.toInt xM ≤ 16) → (0 ≤ Int32.toInt xG ∧ Int32.toInt xG ≤ 0) → (0 ≤ Int32.toInt aAS ∧ Int32.toInt aAS ≤ 65535) → (∀ k : Nat, 0 ≤ Int32.toInt (aA5 k) ∧ Int32.toInt (aA5 k) ≤ 65535) → post r xM xG aAS aBX aA5) (hK73 : ∀ (x1 : Int32) (x2 : Int32) (x3 : Int32) (x4 : Int32) (x5 : Int32) (x6 : Int32) (bL : Int32) (bY : Int32) (dO : Int32) (sW : Nat → Int32) (sH : Nat → Int32), (0 ≤ Int32.toInt x1 ∧ Int32.toInt x1 ≤ 65535) → (0 ≤ Int32.toInt x2 ∧ Int32.toInt x2 ≤ 255) → (-1 ≤ Int32.toInt x4 ∧ Int32.toInt x4 ≤ 255) → (-1 ≤ Int32.toInt x5 ∧ Int32.toInt x5 ≤ 255) → (0 ≤ Int32.toInt x6 ∧ Int32.toInt x6 ≤ 256) → (0 ≤ Int32.toInt bL ∧ Int32.toInt bL ≤ 16) → (0 ≤ Int32.toInt bY ∧ Int32.toInt bY ≤ 0) → (0 ≤ Int32.toInt dO ∧ Int32.toInt dO ≤ 65535) → (∀ k : Nat, 0 ≤ Int32.toInt (sH k) ∧ Int32.toInt (sH k) ≤ 65535) → (256 - Int32.toInt x6 < n73) → K73 x1 x2 x3 x4 x5 x6 bL bY dO sW sH) (x1 x2 x3 x4 x5 x6 bL bY dO : Int32) (sW sH : Nat → Int32) (aBK : 0 ≤ Int32.toInt x1 ∧ Int32.toInt x1 ≤ 65535) (aBN : 0 ≤ Int32.toInt x2 ∧ Int32.toInt x2 ≤ 255) (aDO : -1 ≤ Int32.toInt x4 ∧ Int32.toInt x4 ≤ 255) (aF7 : -1 ≤ Int32.toInt x5 ∧ Int32.toInt x5 ≤ 255) (h_x6 : 0 ≤ Int32.toInt x6 ∧ Int32.toInt x6 ≤ 255) (yJ : 0 ≤ Int32.toInt bL ∧ Int32.toInt bL ≤ 16) (yG : 0 ≤ Int32.toInt bY ∧ Int32.toInt bY ≤ 0) (aAH : 0 ≤ Int32.toInt dO ∧ Int32.toInt dO ≤ 65535) (zY : ∀ k : Nat, 0 ≤ Int32.toInt (sH k) ∧ Int32.toInt (sH k) ≤ 65535) (hn73 : 256 - Int32.toInt x6 ≤ n73) : ws_X10_fits_156 post K73 bT aG qG m_x gR qR nG oO pJ x1 x2 x3 x4 x5 x6 bL bY dO sW sH := by
  have l0 := aEc
  intro v1 ev1
  have f2 : Int32.toInt (x6 + 1) = Int32.toInt x6 + Int32.toInt (1 : Int32) := aAD _ _ ⟨by omega, by omega⟩
  rw [← ev1] at f2
  have f3 := aAT x3
  exact hK73 x1 x2 x3 x4 x5 v1 bL bY dO sW sH aBK aBN aDO aF7 ⟨by omega, by omega⟩ yJ yG aAH zY (by omega)
set_option maxHeartbeats 8000000 in
set_option maxRecDepth 200000 in
theorem ts_X10_fits_152 {post : Int32 → Int32 → Int32 → Int32 → (Nat → Int32) → (Nat → Int32) → Prop} {SB : Int} {K73 : Int32 → Int32 → Int32 → Int32 → Int32 → Int32 → Int32 → Int32 → Int32 → (Nat → Int32) → (Nat → Int32) → Prop} {n73 : Int} (bT aG : Int32) (qG m_x gR qR nG oO pJ : Nat → Int32) (xJ : 0 ≤ Int32.toInt bT ∧ Int32.toInt bT ≤ 16) (vZ : 0 ≤ Int32.toInt aG ∧ Int32.toInt aG ≤ 8) (xU : ∀ k : Nat, k = 17 → -1 ≤ Int32.toInt (qG k) ∧ Int32.toInt (qG k) ≤ SB) (xV : ∀ k : Nat, k = 19 → 0 ≤ Int32.toInt (qG k) ∧ Int32.toInt (qG k) ≤ 9) (aAW : ∀ k : Nat, 0 ≤ Int32.toInt (m_x k) ∧ Int32.toInt (m_x k) ≤ 99) (xK : ∀ k : Nat, 0 ≤ Int32.toInt (gR k) ∧ Int32.toInt (gR k) ≤ 99) (zM : ∀ k : Nat, 0 ≤ Int32.toInt (qR k) ∧ Int32.toInt (qR k) ≤ 9) (xT : ∀ k : Nat, 0 ≤ Int32.toInt (nG k) ∧ Int32.toInt (nG k) ≤ 99) (yF : ∀ k : Nat, 0 ≤ Int32.toInt (oO k) ∧ Int32.toInt (oO k) ≤ 99) (yD : ∀ k : Nat, k = 4 → 1 ≤ Int32.toInt (pJ k) ∧ Int32.toInt (pJ k) ≤ 30) (xZ : ∀ k : Nat, k = 3 → 0 ≤ Int32.toInt (pJ k) ∧ Int32.toInt (pJ k) ≤ 9) (hc0 : -1 ≤ SB ∧ SB ≤ 7) (hc1 : (Int32.toInt aG ≤ 0 ∧ SB = 0) ∨ (1 ≤ Int32.toInt aG ∧ SB = Int32.toInt aG - 1)) (hpost : ∀ (r : Int32) (xM : Int32) (xG : Int32) (aAS : Int32) (aBX : Nat → Int32) (aA5 : Nat → Int32), (0 ≤ Int32.toInt xM ∧ Int32.toInt xM ≤ 16) → (0 ≤ Int32.toInt xG ∧ Int32.toInt xG ≤ 0) → (0 ≤ Int32.toInt aAS ∧ Int32.toInt aAS ≤ 65535) → (∀ k : Nat, 0 ≤ Int32.toInt (aA5 k) ∧ Int32.toInt (aA5 k) ≤ 65535) → post r xM xG aAS aBX aA5) (hK73 : ∀ (x1 : Int32) (x2 : Int32) (x3 : Int32) (x4 : Int32) (x5 : Int32) (x6 : Int32) (bL : Int32) (bY : Int32) (dO : Int32) (sW : Nat → Int32) (sH : Nat → Int32), (0 ≤ Int32.toInt x1 ∧ Int32.toInt x1 ≤ 65535) → (0 ≤ Int32.toInt x2 ∧ Int32.toInt x2 ≤ 255) → (-1 ≤ Int32.toInt x4 ∧ Int32.toInt x4 ≤ 255) → (-1 ≤ Int32.toInt x5 ∧ Int32.toInt x5 ≤ 255) → (0 ≤ Int32.toInt x6 ∧ Int32.toInt x6 ≤ 256) → (0 ≤ Int32.toInt bL ∧ Int32.toInt bL ≤ 16) → (0 ≤ Int32.toInt bY ∧ Int32.toInt bY ≤ 0) → (0 ≤ Int32.toInt dO ∧ Int32.toInt dO ≤ 65535) → (∀ k : Nat, 0 ≤ Int32.toInt (sH k) ∧ Int32.toInt (sH k) ≤ 65535) → (256 - Int32.toInt x6 < n73) → K73 x1 x2 x3 x4 x5 x6 bL bY dO sW sH) (x1 x2 x3 x4 x6 bL bY dO : Int32) (sW sH : Nat → Int32) (aBK : 0 ≤ Int32.toInt x1 ∧ Int32.toInt x1 ≤ 65535) (aBN : 0 ≤ Int32.toInt x2 ∧ Int32.toInt x2 ≤ 255) (aDO : 0 ≤ Int32.toInt x4 ∧ Int32.toInt x4 ≤ 255) (h_x6 : 0 ≤ Int32.toInt x6 ∧ Int32.toInt x6 ≤ 255) (yJ : 0 ≤ Int32.toInt bL ∧ Int32.toInt bL ≤ 16) (yG : 0 ≤ Int32.toInt bY ∧ Int32.toInt bY ≤ 0) (aAH : 0 ≤ Int32.toInt dO ∧ Int32.toInt dO ≤ 65535) (zY : ∀ k : Nat, 0 ≤ Int32.toInt (sH k) ∧ Int32.toInt (sH k) ≤ 65535) (hn73 : 256 - Int32.toInt x6 ≤ n73) : ws_X10_fits_152 post K73 bT aG qG m_x gR qR nG oO pJ x1 x2 x3 x4 x6 bL bY dO sW sH := by
  have f4 := aAT x3
  exact ts_X10_fits_156 bT aG qG m_x gR qR nG oO pJ xJ vZ xU xV aAW xK zM xT yF yD xZ hc0 hc1 hpost hK73 x1 x2 x3 x4 x6 x6 bL bY dO sW sH aBK aBN ⟨by omega, by omega⟩ ⟨by omega, by omega⟩ h_x6 yJ yG aAH zY hn73
set_option maxHeartbeats 8000000 in
set_option maxRecDepth 200000 in
theorem ts_X10_fits_133 {post : Int32 → Int32 → Int32 → Int32 → (Nat → Int32) → (Nat → Int32) → Prop} {SB : Int} {K73 : Int32 → Int32 → Int32 → Int32 → Int32 → Int32 → Int32 → Int32 → Int32 → (Nat → Int32) → (Nat → Int32) → Prop} {n73 : Int} (bT aG : Int32) (qG m_x gR qR nG oO pJ : Nat → Int32) (xJ : 0 ≤ Int32.toInt bT ∧ Int32.toInt bT ≤ 16) (vZ : 0 ≤ Int32.toInt aG ∧ Int32.toInt aG ≤ 8) (xU : ∀ k : Nat, k = 17 → -1 ≤ Int32.toInt (qG k) ∧ Int32.toInt (qG k) ≤ SB) (xV : ∀ k : Nat, k = 19 → 0 ≤ Int32.toInt (qG k) ∧ Int32.toInt (qG k) ≤ 9) (aAW : ∀ k : Nat, 0 ≤ Int32.toInt (m_x k) ∧ Int32.toInt (m_x k) ≤ 99) (xK : ∀ k : Nat, 0 ≤ Int32.toInt (gR k) ∧ Int32.toInt (gR k) ≤ 99) (zM : ∀ k : Nat, 0 ≤ Int32.toInt (qR k) ∧ Int32.toInt (qR k) ≤ 9) (xT : ∀ k : Nat, 0 ≤ Int32.toInt (nG k) ∧ Int32.toInt (nG k) ≤ 99) (yF : ∀ k : Nat, 0 ≤ Int32.toInt (oO k) ∧ Int32.toInt (oO k) ≤ 99) (yD : ∀ k : Nat, k = 4 → 1 ≤ Int32.toInt (pJ k) ∧ Int32.toInt (pJ k) ≤ 30) (xZ : ∀ k : Nat, k = 3 → 0 ≤ Int32.toInt (pJ k) ∧ Int32.toInt (pJ k) ≤ 9) (hc0 : -1 ≤ SB ∧ SB ≤ 7) (hc1 : (Int32.toInt aG ≤ 0 ∧ SB = 0) ∨ (1 ≤ Int32.toInt aG ∧ SB = Int32.toInt aG - 1)) (hpost : ∀ (r : Int32) (xM : Int32) (xG : Int32) (aAS : Int32) (aBX : Nat → Int32) (aA5 : Nat → Int32), (0 ≤ Int32.toInt xM ∧ Int32.toInt xM ≤ 16) → (0 ≤ Int32.toInt xG ∧ Int32.toInt xG ≤ 0) → (0 ≤ Int32.toInt aAS ∧ Int32.toInt aAS ≤ 65535) → (∀ k : Nat, 0 ≤ Int32.toInt (aA5 k) ∧ Int32.toInt (aA5 k) ≤ 65535) → post r xM xG aAS aBX aA5) (hK73 : ∀ (x1 : Int32) (x2 : Int32) (x3 : Int32) (x4 : Int32) (x5 : Int32) (x6 : Int32) (bL : Int32) (bY : Int32) (dO : Int32) (sW : Nat → Int32) (sH : Nat → Int32), (0 ≤ Int32.toInt x1 ∧ Int32.toInt x1 ≤ 65535) → (0 ≤ Int32.toInt x2 ∧ Int32.toInt x2 ≤ 255) → (-1 ≤ Int32.toInt x4 ∧ Int32.toInt x4 ≤ 255) → (-1 ≤ Int32.toInt x5 ∧ Int32.toInt x5 ≤ 255) → (0 ≤ Int32.toInt x6 ∧ Int32.toInt x6 ≤ 256) → (0 ≤ Int32.toInt bL ∧ Int32.toInt bL ≤ 16) → (0 ≤ Int32.toInt bY ∧ Int32.toInt bY ≤ 0) → (0 ≤ Int32.toInt dO ∧ Int32.toInt dO ≤ 65535) → (∀ k : Nat, 0 ≤ Int32.toInt (sH k) ∧ Int32.toInt (sH k) ≤ 65535) → (256 - Int32.toInt x6 < n73) → K73 x1 x2 x3 x4 x5 x6 bL bY dO sW sH) (x1 x2 x3 x4 x5 x6 bL bY dO : Int32) (sW sH : Nat → Int32) (aBK : 0 ≤ Int32.toInt x1 ∧ Int32.toInt x1 ≤ 65535) (aBN : 0 ≤ Int32.toInt x2 ∧ Int32.toInt x2 ≤ 255) (aDO : 0 ≤ Int32.toInt x4 ∧ Int32.toInt x4 ≤ 255) (aF7 : -1 ≤ Int32.toInt x5 ∧ Int32.toInt x5 ≤ 255) (h_x6 : 0 ≤ Int32.toInt x6 ∧ Int32.toInt x6 ≤ 255) (yJ : 0 ≤ Int32.toInt bL ∧ Int32.toInt bL ≤ 16) (yG : 0 ≤ Int32.toInt bY ∧ Int32.toInt bY ≤ 0) (aAH : 0 ≤ Int32.toInt dO ∧ Int32.toInt dO ≤ 65535) (zY : ∀ k : Nat, 0 ≤ Int32.toInt (sH k) ∧ Int32.toInt (sH k) ≤ 65535) (hn73 : 256 - Int32.toInt x6 ≤ n73) : ws_X10_fits_133 post K73 bT aG qG m_x gR qR nG oO pJ x1 x2 x3 x4 x5 x6 bL bY dO sW sH := by
  have l0 := aI2
  have l1 := aKH
  have l2 := aJ8
  have l3 := li_63
  have l4 := aJ9
  refine And.intro (fun c5 => ?_) (fun c5 => ?_)
  · skip
    have c5 := (zJ _ _).mp c5
    have f6 := aAT x3
    exact ts_X10_fits_152 bT aG qG m_x gR qR nG oO pJ xJ vZ xU xV aAW xK zM xT yF yD xZ hc0 hc1 hpost hK73 x1 x2 x3 x4 x6 bL bY dO sW sH aBK aBN aDO h_x6 yJ yG aAH zY hn73
  · skip
    have c5 := mt (zJ _ _).mpr c5
    intro v7 ev7
    intro v8 ev8
    have f10 := aAQ v7 1431655765 (by omega)
    have f9 : Int32.toInt (x6 - (v7 &&& 1431655765)) = Int32.toInt x6 - Int32.toInt (v7 &&& 1431655765) := aCA _ _ ⟨by omega, by omega⟩
    rw [← ev8] at f9
    intro v11 ev11
    have f12 := aAQ v8 858993459 (by omega)
    have hv11 := congrArg Int32.toInt ev11
    intro v13 ev13
    intro v14 ev14
    have f16 := aAQ v13 858993459 (by omega)
    have f15 : Int32.toInt (v11 + (v13 &&& 858993459)) = Int32.toInt v11 + Int32.toInt (v13 &&& 858993459) := aAD _ _ ⟨by omega, by omega⟩
    rw [← ev14] at f15
    intro v17 ev17
    have hv17 := congrArg Int32.toInt ev17
    intro v19 ev19
    have f20 := aAQ v17 252645135 (by omega)
    have hv19 := congrArg Int32.toInt ev19
    intro v21 ev21
    have hv21 := congrArg Int32.toInt ev21
    intro v23 ev23
    have hv23 := congrArg Int32.toInt ev23
    intro v25 ev25
    intro v26 ev26
    have f28 := aAQ v25 1431655765 (by omega)
    have f27 : Int32.toInt (x5 - (v25 &&& 1431655765)) = Int32.toInt x5 - Int32.toInt (v25 &&& 1431655765) := aCA _ _ ⟨by omega, by omega⟩
    rw [← ev26] at f27
    intro v29 ev29
    have f30 := aAQ v26 858993459 (by omega)
    have hv29 := congrArg Int32.toInt ev29
    intro v31 ev31
    intro v32 ev32
    have f34 := aAQ v31 858993459 (by omega)
    have f33 : Int32.toInt (v29 + (v31 &&& 858993459)) = Int32.toInt v29 + Int32.toInt (v31 &&& 858993459) := aAD _ _ ⟨by omega, by omega⟩
    rw [← ev32] at f33
    intro v35 ev35
    have hv35 := congrArg Int32.toInt ev35
    intro v37 ev37
    have f38 := aAQ v35 252645135 (by omega)
    have hv37 := congrArg Int32.toInt ev37
    intro v39 ev39
    have hv39 := congrArg Int32.toInt ev39
    intro v41 ev41
    have hv41 := congrArg Int32.toInt ev41
    have f44 := aAQ v23 63 (by omega)
    have f45 := aAQ v41 63 (by omega)
    refine And.intro (fun c43 => ?_) (fun c43 => ?_)
    · skip
      have c43 := (aAO _ _).mp c43
      have f46 := aAT x3
      exact ts_X10_fits_156 bT aG qG m_x gR qR nG oO pJ xJ vZ xU xV aAW xK zM xT yF yD xZ hc0 hc1 hpost hK73 x1 x2 x3 x4 x5 x6 bL bY dO sW sH aBK aBN ⟨by omega, by omega⟩ aF7 h_x6 yJ yG aAH zY hn73
    · skip
      have c43 := mt (aAO _ _).mpr c43
      have f47 := aAT x3
      exact ts_X10_fits_152 bT aG qG m_x gR qR nG oO pJ xJ vZ xU xV aAW xK zM xT yF yD xZ hc0 hc1 hpost hK73 x1 x2 x3 x4 x6 bL bY dO sW sH aBK aBN aDO h_x6 yJ yG aAH zY hn73
set_option maxHeartbeats 8000000 in
set_option maxRecDepth 200000 in
theorem ts_X10_fits_129 {post : Int32 → Int32 → Int32 → Int32 → (Nat → Int32) → (Nat → Int32) → Prop} {SB : Int} {K73 : Int32 → Int32 → Int32 → Int32 → Int32 → Int32 → Int32 → Int32 → Int32 → (Nat → Int32) → (Nat → Int32) → Prop} {n73 : Int} (bT aG : Int32) (qG m_x gR qR nG oO pJ : Nat → Int32) (xJ : 0 ≤ Int32.toInt bT ∧ Int32.toInt bT ≤ 16) (vZ : 0 ≤ Int32.toInt aG ∧ Int32.toInt aG ≤ 8) (xU : ∀ k : Nat, k = 17 → -1 ≤ Int32.toInt (qG k) ∧ Int32.toInt (qG k) ≤ SB) (xV : ∀ k : Nat, k = 19 → 0 ≤ Int32.toInt (qG k) ∧ Int32.toInt (qG k) ≤ 9) (aAW : ∀ k : Nat, 0 ≤ Int32.toInt (m_x k) ∧ Int32.toInt (m_x k) ≤ 99) (xK : ∀ k : Nat, 0 ≤ Int32.toInt (gR k) ∧ Int32.toInt (gR k) ≤ 99) (zM : ∀ k : Nat, 0 ≤ Int32.toInt (qR k) ∧ Int32.toInt (qR k) ≤ 9) (xT : ∀ k : Nat, 0 ≤ Int32.toInt (nG k) ∧ Int32.toInt (nG k) ≤ 99) (yF : ∀ k : Nat, 0 ≤ Int32.toInt (oO k) ∧ Int32.toInt (oO k) ≤ 99) (yD : ∀ k : Nat, k = 4 → 1 ≤ Int32.toInt (pJ k) ∧ Int32.toInt (pJ k) ≤ 30) (xZ : ∀ k : Nat, k = 3 → 0 ≤ Int32.toInt (pJ k) ∧ Int32.toInt (pJ k) ≤ 9) (hc0 : -1 ≤ SB ∧ SB ≤ 7) (hc1 : (Int32.toInt aG ≤ 0 ∧ SB = 0) ∨ (1 ≤ Int32.toInt aG ∧ SB = Int32.toInt aG - 1)) (hpost : ∀ (r : Int32) (xM : Int32) (xG : Int32) (aAS : Int32) (aBX : Nat → Int32) (aA5 : Nat → Int32), (0 ≤ Int32.toInt xM ∧ Int32.toInt xM ≤ 16) → (0 ≤ Int32.toInt xG ∧ Int32.toInt xG ≤ 0) → (0 ≤ Int32.toInt aAS ∧ Int32.toInt aAS ≤ 65535) → (∀ k : Nat, 0 ≤ Int32.toInt (aA5 k) ∧ Int32.toInt (aA5 k) ≤ 65535) → post r xM xG aAS aBX aA5) (hK73 : ∀ (x1 : Int32) (x2 : Int32) (x3 : Int32) (x4 : Int32) (x5 : Int32) (x6 : Int32) (bL : Int32) (bY : Int32) (dO : Int32) (sW : Nat → Int32) (sH : Nat → Int32), (0 ≤ Int32.toInt x1 ∧ Int32.toInt x1 ≤ 65535) → (0 ≤ Int32.toInt x2 ∧ Int32.toInt x2 ≤ 255) → (-1 ≤ Int32.toInt x4 ∧ Int32.toInt x4 ≤ 255) → (-1 ≤ Int32.toInt x5 ∧ Int32.toInt x5 ≤ 255) → (0 ≤ Int32.toInt x6 ∧ Int32.toInt x6 ≤ 256) → (0 ≤ Int32.toInt bL ∧ Int32.toInt bL ≤ 16) → (0 ≤ Int32.toInt bY ∧ Int32.toInt bY ≤ 0) → (0 ≤ Int32.toInt dO ∧ Int32.toInt dO ≤ 65535) → (∀ k : Nat, 0 ≤ Int32.toInt (sH k) ∧ Int32.toInt (sH k) ≤ 65535) → (256 - Int32.toInt x6 < n73) → K73 x1 x2 x3 x4 x5 x6 bL bY dO sW sH) (x1 x2 x3 x5 x6 bL bY dO : Int32) (sW sH : Nat → Int32) (aBK : 0 ≤ Int32.toInt x1 ∧ Int32.toInt x1 ≤ 65535) (aBN : 0 ≤ Int32.toInt x2 ∧ Int32.toInt x2 ≤ 255) (aF7 : -1 ≤ Int32.toInt x5 ∧ Int32.toInt x5 ≤ 255) (h_x6 : 0 ≤ Int32.toInt x6 ∧ Int32.toInt x6 ≤ 255) (yJ : 0 ≤ Int32.toInt bL ∧ Int32.toInt bL ≤ 16) (yG : 0 ≤ Int32.toInt bY ∧ Int32.toInt bY ≤ 0) (aAH : 0 ≤ Int32.toInt dO ∧ Int32.toInt dO ≤ 65535) (zY : ∀ k : Nat, 0 ≤ Int32.toInt (sH k) ∧ Int32.toInt (sH k) ≤ 65535) (hn73 : 256 - Int32.toInt x6 ≤ n73) : ws_X10_fits_129 post K73 bT aG qG m_x gR qR nG oO pJ x1 x2 x3 x5 x6 bL bY dO sW sH := by
  have f48 := aAT x3
  exact ts_X10_fits_133 bT aG qG m_x gR qR nG oO pJ xJ vZ xU xV aAW xK zM xT yF yD xZ hc0 hc1 hpost hK73 x1 x2 x3 x6 x5 x6 bL bY dO sW sH aBK aBN h_x6 aF7 h_x6 yJ yG aAH zY hn73
set_option maxHeartbeats 8000000 in
set_option maxRecDepth 200000 in
theorem ts_X10_fits_73 {post : Int32 → Int32 → Int32 → Int32 → (Nat → Int32) → (Nat → Int32) → Prop} {SB : Int} {next : Int32 → Int32 → Int32 → Int32 → Int32 → Int32 → Int32 → Int32 → Int32 → (Nat → Int32) → (Nat → Int32) → Prop} {n73 : Int} (bT aG : Int32) (qG m_x gR qR nG oO pJ : Nat → Int32) (xJ : 0 ≤ Int32.toInt bT ∧ Int32.toInt bT ≤ 16) (vZ : 0 ≤ Int32.toInt aG ∧ Int32.toInt aG ≤ 8) (xU : ∀ k : Nat, k = 17 → -1 ≤ Int32.toInt (qG k) ∧ Int32.toInt (qG k) ≤ SB) (xV : ∀ k : Nat, k = 19 → 0 ≤ Int32.toInt (qG k) ∧ Int32.toInt (qG k) ≤ 9) (aAW : ∀ k : Nat, 0 ≤ Int32.toInt (m_x k) ∧ Int32.toInt (m_x k) ≤ 99) (xK : ∀ k : Nat, 0 ≤ Int32.toInt (gR k) ∧ Int32.toInt (gR k) ≤ 99) (zM : ∀ k : Nat, 0 ≤ Int32.toInt (qR k) ∧ Int32.toInt (qR k) ≤ 9) (xT : ∀ k : Nat, 0 ≤ Int32.toInt (nG k) ∧ Int32.toInt (nG k) ≤ 99) (yF : ∀ k : Nat, 0 ≤ Int32.toInt (oO k) ∧ Int32.toInt (oO k) ≤ 99) (yD : ∀ k : Nat, k = 4 → 1 ≤ Int32.toInt (pJ k) ∧ Int32.toInt (pJ k) ≤ 30) (xZ : ∀ k : Nat, k = 3 → 0 ≤ Int32.toInt (pJ k) ∧ Int32.toInt (pJ k) ≤ 9) (hc0 : -1 ≤ SB ∧ SB ≤ 7) (hc1 : (Int32.toInt aG ≤ 0 ∧ SB = 0) ∨ (1 ≤ Int32.toInt aG ∧ SB = Int32.toInt aG - 1)) (hpost : ∀ (r : Int32) (xM : Int32) (xG : Int32) (aAS : Int32) (aBX : Nat → Int32) (aA5 : Nat → Int32), (0 ≤ Int32.toInt xM ∧ Int32.toInt xM ≤ 16) → (0 ≤ Int32.toInt xG ∧ Int32.toInt xG ≤ 0) → (0 ≤ Int32.toInt aAS ∧ Int32.toInt aAS ≤ 65535) → (∀ k : Nat, 0 ≤ Int32.toInt (aA5 k) ∧ Int32.toInt (aA5 k) ≤ 65535) → post r xM xG aAS aBX aA5) (hKn : ∀ (x1 : Int32) (x2 : Int32) (x3 : Int32) (x4 : Int32) (x5 : Int32) (x6 : Int32) (bL : Int32) (bY : Int32) (dO : Int32) (sW : Nat → Int32) (sH : Nat → Int32), (0 ≤ Int32.toInt x1 ∧ Int32.toInt x1 ≤ 65535) → (0 ≤ Int32.toInt x2 ∧ Int32.toInt x2 ≤ 255) → (-1 ≤ Int32.toInt x4 ∧ Int32.toInt x4 ≤ 255) → (-1 ≤ Int32.toInt x5 ∧ Int32.toInt x5 ≤ 255) → (0 ≤ Int32.toInt x6 ∧ Int32.toInt x6 ≤ 256) → (0 ≤ Int32.toInt bL ∧ Int32.toInt bL ≤ 16) → (0 ≤ Int32.toInt bY ∧ Int32.toInt bY ≤ 0) → (0 ≤ Int32.toInt dO ∧ Int32.toInt dO ≤ 65535) → (∀ k : Nat, 0 ≤ Int32.toInt (sH k) ∧ Int32.toInt (sH k) ≤ 65535) → (256 - Int32.toInt x6 < n73) → next x1 x2 x3 x4 x5 x6 bL bY dO sW sH) (x1 x2 x3 x4 x5 x6 bL bY dO : Int32) (sW sH : Nat → Int32) (aBK : 0 ≤ Int32.toInt x1 ∧ Int32.toInt x1 ≤ 65535) (aBN : 0 ≤ Int32.toInt x2 ∧ Int32.toInt x2 ≤ 255) (aDO : -1 ≤ Int32.toInt x4 ∧ Int32.toInt x4 ≤ 255) (aF7 : -1 ≤ Int32.toInt x5 ∧ Int32.toInt x5 ≤ 255) (h_x6 : 0 ≤ Int32.toInt x6 ∧ Int32.toInt x6 ≤ 256) (yJ : 0 ≤ Int32.toInt bL ∧ Int32.toInt bL ≤ 16) (yG : 0 ≤ Int32.toInt bY ∧ Int32.toInt bY ≤ 0) (aAH : 0 ≤ Int32.toInt dO ∧ Int32.toInt dO ≤ 65535) (zY : ∀ k : Nat, 0 ≤ Int32.toInt (sH k) ∧ Int32.toInt (sH k) ≤ 65535) (hn73 : 256 - Int32.toInt x6 ≤ n73) : ws_X10_fits_73 post next bT aG qG m_x gR qR nG oO pJ x1 x2 x3 x4 x5 x6 bL bY dO sW sH := by
  have l0 := aI2
  have l1 := aE0
  have l2 := aEc
  have l3 := aKH
  have l4 := aJ8
  have l5 := li_63
  have l6 := aJ9
  intro v49 ev49
  have f50 := aDv 8 256 aG (by decide) ⟨by omega, by omega⟩
  have hv49 := congrArg Int32.toInt ev49
  have f52 : Int32.toInt (v49 - 1) = Int32.toInt v49 - Int32.toInt (1 : Int32) := aCA _ _ ⟨by omega, by omega⟩
  refine And.intro (fun c51 => ?_) (fun c51 => ?_)
  · skip
    have c51 := (aAd _ _).mp c51
    refine And.intro (aBZ ⟨by omega, by omega⟩) ?_
    intro v53 ev53
    have f54 : Int32.toInt (0 + 1) = Int32.toInt (0 : Int32) + Int32.toInt (1 : Int32) := aAD _ _ ⟨by omega, by omega⟩
    rw [← ev53] at f54
    refine And.intro (aBZ ⟨by omega, by omega⟩) ?_
    intro v55 ev55
    have f56 : Int32.toInt (v53 + 1) = Int32.toInt v53 + Int32.toInt (1 : Int32) := aAD _ _ ⟨by omega, by omega⟩
    rw [← ev55] at f56
    exact hpost _ _ _ _ _ _ ⟨by omega, by omega⟩ yG aAH zY
  · skip
    have c51 := mt (aAd _ _).mpr c51
    have f59 := aBx x6 (x2 ^^^ (-1)) (by omega)
    refine And.intro (fun c57 => ?_) (fun c57 => ?_)
    · skip
      have c57 := mt (zJ _ _).mpr c57
      have f60 := aAT x3
      exact ts_X10_fits_156 bT aG qG m_x gR qR nG oO pJ xJ vZ xU xV aAW xK zM xT yF yD xZ hc0 hc1 hpost hKn x1 x2 x3 x4 x5 x6 bL bY dO sW sH aBK aBN aDO aF7 ⟨by omega, by omega⟩ yJ yG aAH zY hn73
    · skip
      have c57Z := c57
      have c57 := (zJ _ _).mp c57
      have s61 := ti_subset x6 x2 (c57Z) (by omega)
      refine aSL ⟨by omega, by omega⟩ vZ zY (fun r62 h_r62 => ?_)
      have f65 := aBx x1 (r62 ^^^ (-1)) (by omega)
      refine And.intro (fun c63 => ?_) (fun c63 => ?_)
      · skip
        have c63Z := c63
        have c63 := (zJ _ _).mp c63
        have s66 := ti_subset x1 r62 (c63Z) (by omega)
        intro v67 ev67
        have hv67 := congrArg Int32.toInt ev67
        refine And.intro (fun c69 => ?_) (fun c69 => ?_)
        · skip
          have c69 := (zJ _ _).mp c69
          have f70 := aAT v67
          exact ts_X10_fits_129 bT aG qG m_x gR qR nG oO pJ xJ vZ xU xV aAW xK zM xT yF yD xZ hc0 hc1 hpost hKn x1 x2 v67 x5 x6 bL bY dO sW sH aBK aBN aF7 ⟨by omega, by omega⟩ yJ yG aAH zY hn73
        · skip
          have c69 := mt (zJ _ _).mpr c69
          intro v71 ev71
          intro v72 ev72
          have f74 := aAQ v71 1431655765 (by omega)
          have f73 : Int32.toInt (x6 - (v71 &&& 1431655765)) = Int32.toInt x6 - Int32.toInt (v71 &&& 1431655765) := aCA _ _ ⟨by omega, by omega⟩
          rw [← ev72] at f73
          intro v75 ev75
          have f76 := aAQ v72 858993459 (by omega)
          have hv75 := congrArg Int32.toInt ev75
          intro v77 ev77
          intro v78 ev78
          have f80 := aAQ v77 858993459 (by omega)
          have f79 : Int32.toInt (v75 + (v77 &&& 858993459)) = Int32.toInt v75 + Int32.toInt (v77 &&& 858993459) := aAD _ _ ⟨by omega, by omega⟩
          rw [← ev78] at f79
          intro v81 ev81
          have hv81 := congrArg Int32.toInt ev81
          intro v83 ev83
          have f84 := aAQ v81 252645135 (by omega)
          have hv83 := congrArg Int32.toInt ev83
          intro v85 ev85
          have hv85 := congrArg Int32.toInt ev85
          intro v87 ev87
          have hv87 := congrArg Int32.toInt ev87
          intro v89 ev89
          intro v90 ev90
          have f92 := aAQ v89 1431655765 (by omega)
          have f91 : Int32.toInt (x4 - (v89 &&& 1431655765)) = Int32.toInt x4 - Int32.toInt (v89 &&& 1431655765) := aCA _ _ ⟨by omega, by omega⟩
          rw [← ev90] at f91
          intro v93 ev93
          have f94 := aAQ v90 858993459 (by omega)
          have hv93 := congrArg Int32.toInt ev93
          intro v95 ev95
          intro v96 ev96
          have f98 := aAQ v95 858993459 (by omega)
          have f97 : Int32.toInt (v93 + (v95 &&& 858993459)) = Int32.toInt v93 + Int32.toInt (v95 &&& 858993459) := aAD _ _ ⟨by omega, by omega⟩
          rw [← ev96] at f97
          intro v99 ev99
          have hv99 := congrArg Int32.toInt ev99
          intro v101 ev101
          have f102 := aAQ v99 252645135 (by omega)
          have hv101 := congrArg Int32.toInt ev101
          intro v103 ev103
          have hv103 := congrArg Int32.toInt ev103
          intro v105 ev105
          have hv105 := congrArg Int32.toInt ev105
          have f108 := aAQ v87 63 (by omega)
          have f109 := aAQ v105 63 (by omega)
          refine And.intro (fun c107 => ?_) (fun c107 => ?_)
          · skip
            have c107 := (aAO _ _).mp c107
            have f110 := aAT v67
            exact ts_X10_fits_133 bT aG qG m_x gR qR nG oO pJ xJ vZ xU xV aAW xK zM xT yF yD xZ hc0 hc1 hpost hKn x1 x2 v67 x4 x5 x6 bL bY dO sW sH aBK aBN ⟨by omega, by omega⟩ aF7 ⟨by omega, by omega⟩ yJ yG aAH zY hn73
          · skip
            have c107 := mt (aAO _ _).mpr c107
            have f111 := aAT v67
            exact ts_X10_fits_129 bT aG qG m_x gR qR nG oO pJ xJ vZ xU xV aAW xK zM xT yF yD xZ hc0 hc1 hpost hKn x1 x2 v67 x5 x6 bL bY dO sW sH aBK aBN aF7 ⟨by omega, by omega⟩ yJ yG aAH zY hn73
      · skip
        have c63 := mt (zJ _ _).mpr c63
        have f112 := aAT x3
        exact ts_X10_fits_156 bT aG qG m_x gR qR nG oO pJ xJ vZ xU xV aAW xK zM xT yF yD xZ hc0 hc1 hpost hKn x1 x2 x3 x4 x5 x6 bL bY dO sW sH aBK aBN aDO aF7 ⟨by omega, by omega⟩ yJ yG aAH zY hn73
set_option maxHeartbeats 8000000 in
set_option maxRecDepth 200000 in
theorem tb_X10_fits_73 {post : Int32 → Int32 → Int32 → Int32 → (Nat → Int32) → (Nat → Int32) → Prop} {SB : Int} (bT aG : Int32) (qG m_x gR qR nG oO pJ : Nat → Int32) (xJ : 0 ≤ Int32.toInt bT ∧ Int32.toInt bT ≤ 16) (vZ : 0 ≤ Int32.toInt aG ∧ Int32.toInt aG ≤ 8) (xU : ∀ k : Nat, k = 17 → -1 ≤ Int32.toInt (qG k) ∧ Int32.toInt (qG k) ≤ SB) (xV : ∀ k : Nat, k = 19 → 0 ≤ Int32.toInt (qG k) ∧ Int32.toInt (qG k) ≤ 9) (aAW : ∀ k : Nat, 0 ≤ Int32.toInt (m_x k) ∧ Int32.toInt (m_x k) ≤ 99) (xK : ∀ k : Nat, 0 ≤ Int32.toInt (gR k) ∧ Int32.toInt (gR k) ≤ 99) (zM : ∀ k : Nat, 0 ≤ Int32.toInt (qR k) ∧ Int32.toInt (qR k) ≤ 9) (xT : ∀ k : Nat, 0 ≤ Int32.toInt (nG k) ∧ Int32.toInt (nG k) ≤ 99) (yF : ∀ k : Nat, 0 ≤ Int32.toInt (oO k) ∧ Int32.toInt (oO k) ≤ 99) (yD : ∀ k : Nat, k = 4 → 1 ≤ Int32.toInt (pJ k) ∧ Int32.toInt (pJ k) ≤ 30) (xZ : ∀ k : Nat, k = 3 → 0 ≤ Int32.toInt (pJ k) ∧ Int32.toInt (pJ k) ≤ 9) (hc0 : -1 ≤ SB ∧ SB ≤ 7) (hc1 : (Int32.toInt aG ≤ 0 ∧ SB = 0) ∨ (1 ≤ Int32.toInt aG ∧ SB = Int32.toInt aG - 1)) (hpost : ∀ (r : Int32) (xM : Int32) (xG : Int32) (aAS : Int32) (aBX : Nat → Int32) (aA5 : Nat → Int32), (0 ≤ Int32.toInt xM ∧ Int32.toInt xM ≤ 16) → (0 ≤ Int32.toInt xG ∧ Int32.toInt xG ≤ 0) → (0 ≤ Int32.toInt aAS ∧ Int32.toInt aAS ≤ 65535) → (∀ k : Nat, 0 ≤ Int32.toInt (aA5 k) ∧ Int32.toInt (aA5 k) ≤ 65535) → post r xM xG aAS aBX aA5) : ∀ (n : Nat) (x1 x2 x3 x4 x5 x6 bL bY dO : Int32) (sW sH : Nat → Int32), (0 ≤ Int32.toInt x1 ∧ Int32.toInt x1 ≤ 65535) → (0 ≤ Int32.toInt x2 ∧ Int32.toInt x2 ≤ 255) → (-1 ≤ Int32.toInt x4 ∧ Int32.toInt x4 ≤ 255) → (-1 ≤ Int32.toInt x5 ∧ Int32.toInt x5 ≤ 255) → (0 ≤ Int32.toInt x6 ∧ Int32.toInt x6 ≤ 256) → (0 ≤ Int32.toInt bL ∧ Int32.toInt bL ≤ 16) → (0 ≤ Int32.toInt bY ∧ Int32.toInt bY ≤ 0) → (0 ≤ Int32.toInt dO ∧ Int32.toInt dO ≤ 65535) → (∀ k : Nat, 0 ≤ Int32.toInt (sH k) ∧ Int32.toInt (sH k) ≤ 65535) → (256 - Int32.toInt x6 < (n : Int)) → wb_X10_fits_73 post bT aG qG m_x gR qR nG oO pJ n x1 x2 x3 x4 x5 x6 bL bY dO sW sH := by
  intro n
  induction n with
  | zero =>
    intro x1 x2 x3 x4 x5 x6 bL bY dO sW sH aBK aBN aDO aF7 h_x6 yJ yG aAH zY hm
    exfalso; omega
  | succ n ih =>
    intro x1 x2 x3 x4 x5 x6 bL bY dO sW sH aBK aBN aDO aF7 h_x6 yJ yG aAH zY hm
    exact ts_X10_fits_73 bT aG qG m_x gR qR nG oO pJ xJ vZ xU xV aAW xK zM xT yF yD xZ hc0 hc1 hpost ih x1 x2 x3 x4 x5 x6 bL bY dO sW sH aBK aBN aDO aF7 h_x6 yJ yG aAH zY (by omega)
set_option maxHeartbeats 8000000 in
set_option maxRecDepth 200000 in
theorem ts_X10_fits_54 {post : Int32 → Int32 → Int32 → Int32 → (Nat → Int32) → (Nat → Int32) → Prop} {SB : Int} {K27 : Int32 → Int32 → Int32 → Int32 → Int32 → Int32 → (Nat → Int32) → (Nat → Int32) → Prop} {n27 : Int} (bT aG : Int32) (qG m_x gR qR nG oO pJ : Nat → Int32) (xJ : 0 ≤ Int32.toInt bT ∧ Int32.toInt bT ≤ 16) (vZ : 0 ≤ Int32.toInt aG ∧ Int32.toInt aG ≤ 8) (xU : ∀ k : Nat, k = 17 → -1 ≤ Int32.toInt (qG k) ∧ Int32.toInt (qG k) ≤ SB) (xV : ∀ k : Nat, k = 19 → 0 ≤ Int32.toInt (qG k) ∧ Int32.toInt (qG k) ≤ 9) (aAW : ∀ k : Nat, 0 ≤ Int32.toInt (m_x k) ∧ Int32.toInt (m_x k) ≤ 99) (xK : ∀ k : Nat, 0 ≤ Int32.toInt (gR k) ∧ Int32.toInt (gR k) ≤ 99) (zM : ∀ k : Nat, 0 ≤ Int32.toInt (qR k) ∧ Int32.toInt (qR k) ≤ 9) (xT : ∀ k : Nat, 0 ≤ Int32.toInt (nG k) ∧ Int32.toInt (nG k) ≤ 99) (yF : ∀ k : Nat, 0 ≤ Int32.toInt (oO k) ∧ Int32.toInt (oO k) ≤ 99) (yD : ∀ k : Nat, k = 4 → 1 ≤ Int32.toInt (pJ k) ∧ Int32.toInt (pJ k) ≤ 30) (xZ : ∀ k : Nat, k = 3 → 0 ≤ Int32.toInt (pJ k) ∧ Int32.toInt (pJ k) ≤ 9) (hc0 : -1 ≤ SB ∧ SB ≤ 7) (hc1 : (Int32.toInt aG ≤ 0 ∧ SB = 0) ∨ (1 ≤ Int32.toInt aG ∧ SB = Int32.toInt aG - 1)) (hpost : ∀ (r : Int32) (xM : Int32) (xG : Int32) (aAS : Int32) (aBX : Nat → Int32) (aA5 : Nat → Int32), (0 ≤ Int32.toInt xM ∧ Int32.toInt xM ≤ 16) → (0 ≤ Int32.toInt xG ∧ Int32.toInt xG ≤ 0) → (0 ≤ Int32.toInt aAS ∧ Int32.toInt aAS ≤ 65535) → (∀ k : Nat, 0 ≤ Int32.toInt (aA5 k) ∧ Int32.toInt (aA5 k) ≤ 65535) → post r xM xG aAS aBX aA5) (hK27 : ∀ (x1 : Int32) (x2 : Int32) (x3 : Int32) (bL : Int32) (bY : Int32) (dO : Int32) (sW : Nat → Int32) (sH : Nat → Int32), (0 ≤ Int32.toInt x1 ∧ Int32.toInt x1 ≤ 65535) → (0 ≤ Int32.toInt x2 ∧ Int32.toInt x2 ≤ 255) → (0 ≤ Int32.toInt x3 ∧ Int32.toInt x3 ≤ 8) → (0 ≤ Int32.toInt bL ∧ Int32.toInt bL ≤ 16) → (0 ≤ Int32.toInt bY ∧ Int32.toInt bY ≤ 0) → (0 ≤ Int32.toInt dO ∧ Int32.toInt dO ≤ 65535) → (∀ k : Nat, 0 ≤ Int32.toInt (sH k) ∧ Int32.toInt (sH k) ≤ 65535) → (8 - Int32.toInt x3 < n27) → K27 x1 x2 x3 bL bY dO sW sH) (x1 x3 k0 k1 bL bY dO : Int32) (sW sH : Nat → Int32) (aBK : 0 ≤ Int32.toInt x1 ∧ Int32.toInt x1 ≤ 65535) (aCH : 0 ≤ Int32.toInt x3 ∧ Int32.toInt x3 ≤ 7) (h_k0 : 0 ≤ Int32.toInt k0 ∧ Int32.toInt k0 ≤ 255) (h_k1 : 0 ≤ Int32.toInt k1 ∧ Int32.toInt k1 ≤ 128) (yJ : 0 ≤ Int32.toInt bL ∧ Int32.toInt bL ≤ 16) (yG : 0 ≤ Int32.toInt bY ∧ Int32.toInt bY ≤ 0) (aAH : 0 ≤ Int32.toInt dO ∧ Int32.toInt dO ≤ 65535) (zY : ∀ k : Nat, 0 ≤ Int32.toInt (sH k) ∧ Int32.toInt (sH k) ≤ 65535) (hn27 : 8 - Int32.toInt x3 ≤ n27) : ws_X10_fits_54 post K27 bT aG qG m_x gR qR nG oO pJ x1 x3 k0 k1 bL bY dO sW sH := by
  have l0 := aEc
  intro v113 ev113
  have f114 := ti_or 8 256 k0 k1 (by decide) ⟨by omega, by omega⟩ ⟨by omega, by omega⟩
  have hv113 := congrArg Int32.toInt ev113
  intro v115 ev115
  have f116 : Int32.toInt (x3 + 1) = Int32.toInt x3 + Int32.toInt (1 : Int32) := aAD _ _ ⟨by omega, by omega⟩
  rw [← ev115] at f116
  exact hK27 x1 v113 v115 bL bY dO sW sH aBK ⟨by omega, by omega⟩ ⟨by omega, by omega⟩ yJ yG aAH zY (by omega)
set_option maxHeartbeats 8000000 in
set_option maxRecDepth 200000 in
theorem ts_X10_fits_27 {post : Int32 → Int32 → Int32 → Int32 → (Nat → Int32) → (Nat → Int32) → Prop} {SB : Int} {next : Int32 → Int32 → Int32 → Int32 → Int32 → Int32 → (Nat → Int32) → (Nat → Int32) → Prop} {n27 : Int} (bT aG : Int32) (qG m_x gR qR nG oO pJ : Nat → Int32) (xJ : 0 ≤ Int32.toInt bT ∧ Int32.toInt bT ≤ 16) (vZ : 0 ≤ Int32.toInt aG ∧ Int32.toInt aG ≤ 8) (xU : ∀ k : Nat, k = 17 → -1 ≤ Int32.toInt (qG k) ∧ Int32.toInt (qG k) ≤ SB) (xV : ∀ k : Nat, k = 19 → 0 ≤ Int32.toInt (qG k) ∧ Int32.toInt (qG k) ≤ 9) (aAW : ∀ k : Nat, 0 ≤ Int32.toInt (m_x k) ∧ Int32.toInt (m_x k) ≤ 99) (xK : ∀ k : Nat, 0 ≤ Int32.toInt (gR k) ∧ Int32.toInt (gR k) ≤ 99) (zM : ∀ k : Nat, 0 ≤ Int32.toInt (qR k) ∧ Int32.toInt (qR k) ≤ 9) (xT : ∀ k : Nat, 0 ≤ Int32.toInt (nG k) ∧ Int32.toInt (nG k) ≤ 99) (yF : ∀ k : Nat, 0 ≤ Int32.toInt (oO k) ∧ Int32.toInt (oO k) ≤ 99) (yD : ∀ k : Nat, k = 4 → 1 ≤ Int32.toInt (pJ k) ∧ Int32.toInt (pJ k) ≤ 30) (xZ : ∀ k : Nat, k = 3 → 0 ≤ Int32.toInt (pJ k) ∧ Int32.toInt (pJ k) ≤ 9) (hc0 : -1 ≤ SB ∧ SB ≤ 7) (hc1 : (Int32.toInt aG ≤ 0 ∧ SB = 0) ∨ (1 ≤ Int32.toInt aG ∧ SB = Int32.toInt aG - 1)) (hpost : ∀ (r : Int32) (xM : Int32) (xG : Int32) (aAS : Int32) (aBX : Nat → Int32) (aA5 : Nat → Int32), (0 ≤ Int32.toInt xM ∧ Int32.toInt xM ≤ 16) → (0 ≤ Int32.toInt xG ∧ Int32.toInt xG ≤ 0) → (0 ≤ Int32.toInt aAS ∧ Int32.toInt aAS ≤ 65535) → (∀ k : Nat, 0 ≤ Int32.toInt (aA5 k) ∧ Int32.toInt (aA5 k) ≤ 65535) → post r xM xG aAS aBX aA5) (hKn : ∀ (x1 : Int32) (x2 : Int32) (x3 : Int32) (bL : Int32) (bY : Int32) (dO : Int32) (sW : Nat → Int32) (sH : Nat → Int32), (0 ≤ Int32.toInt x1 ∧ Int32.toInt x1 ≤ 65535) → (0 ≤ Int32.toInt x2 ∧ Int32.toInt x2 ≤ 255) → (0 ≤ Int32.toInt x3 ∧ Int32.toInt x3 ≤ 8) → (0 ≤ Int32.toInt bL ∧ Int32.toInt bL ≤ 16) → (0 ≤ Int32.toInt bY ∧ Int32.toInt bY ≤ 0) → (0 ≤ Int32.toInt dO ∧ Int32.toInt dO ≤ 65535) → (∀ k : Nat, 0 ≤ Int32.toInt (sH k) ∧ Int32.toInt (sH k) ≤ 65535) → (8 - Int32.toInt x3 < n27) → next x1 x2 x3 bL bY dO sW sH) (x1 x2 x3 bL bY dO : Int32) (sW sH : Nat → Int32) (aBK : 0 ≤ Int32.toInt x1 ∧ Int32.toInt x1 ≤ 65535) (aBN : 0 ≤ Int32.toInt x2 ∧ Int32.toInt x2 ≤ 255) (aCH : 0 ≤ Int32.toInt x3 ∧ Int32.toInt x3 ≤ 8) (yJ : 0 ≤ Int32.toInt bL ∧ Int32.toInt bL ≤ 16) (yG : 0 ≤ Int32.toInt bY ∧ Int32.toInt bY ≤ 0) (aAH : 0 ≤ Int32.toInt dO ∧ Int32.toInt dO ≤ 65535) (zY : ∀ k : Nat, 0 ≤ Int32.toInt (sH k) ∧ Int32.toInt (sH k) ≤ 65535) (hn27 : 8 - Int32.toInt x3 ≤ n27) : ws_X10_fits_27 post next bT aG qG m_x gR qR nG oO pJ x1 x2 x3 bL bY dO sW sH := by
  have l0 := aI2
  have l1 := aE0
  refine And.intro (fun c117 => ?_) (fun c117 => ?_)
  · skip
    have c117 := (aAO _ _).mp c117
    exact ⟨258, tb_X10_fits_73 bT aG qG m_x gR qR nG oO pJ xJ vZ xU xV aAW xK zM xT yF yD xZ hc0 hc1 hpost _ x1 x2 0 (-1) (-1) 0 bL bY dO sW sH aBK aBN ⟨by omega, by omega⟩ ⟨by omega, by omega⟩ ⟨by omega, by omega⟩ yJ yG aAH zY (by omega)⟩
  · skip
    have c117 := mt (aAO _ _).mpr c117
    refine And.intro (aBZ ⟨by omega, by omega⟩) ?_
    intro v118 ev118
    have f119 := zY x3.toNatClampNeg
    have hv118 := congrArg Int32.toInt ev118
    have f121 := aAQ v118 x1 (by omega)
    have f122 := aBx v118 x1 (by omega)
    refine And.intro (fun c120 => ?_) (fun c120 => ?_)
    · skip
      have c120 := (zJ _ _).mp c120
      exact ts_X10_fits_54 bT aG qG m_x gR qR nG oO pJ xJ vZ xU xV aAW xK zM xT yF yD xZ hc0 hc1 hpost hKn x1 x3 x2 0 bL bY dO sW sH aBK ⟨by omega, by omega⟩ aBN ⟨by omega, by omega⟩ yJ yG aAH zY hn27
    · skip
      have c120 := mt (zJ _ _).mpr c120
      intro v123 ev123
      have f124 := aDv 7 128 x3 (by decide) ⟨by omega, by omega⟩
      have hv123 := congrArg Int32.toInt ev123
      exact ts_X10_fits_54 bT aG qG m_x gR qR nG oO pJ xJ vZ xU xV aAW xK zM xT yF yD xZ hc0 hc1 hpost hKn x1 x3 x2 v123 bL bY dO sW sH aBK ⟨by omega, by omega⟩ aBN ⟨by omega, by omega⟩ yJ yG aAH zY hn27
set_option maxHeartbeats 8000000 in
set_option maxRecDepth 200000 in
theorem tb_X10_fits_27 {post : Int32 → Int32 → Int32 → Int32 → (Nat → Int32) → (Nat → Int32) → Prop} {SB : Int} (bT aG : Int32) (qG m_x gR qR nG oO pJ : Nat → Int32) (xJ : 0 ≤ Int32.toInt bT ∧ Int32.toInt bT ≤ 16) (vZ : 0 ≤ Int32.toInt aG ∧ Int32.toInt aG ≤ 8) (xU : ∀ k : Nat, k = 17 → -1 ≤ Int32.toInt (qG k) ∧ Int32.toInt (qG k) ≤ SB) (xV : ∀ k : Nat, k = 19 → 0 ≤ Int32.toInt (qG k) ∧ Int32.toInt (qG k) ≤ 9) (aAW : ∀ k : Nat, 0 ≤ Int32.toInt (m_x k) ∧ Int32.toInt (m_x k) ≤ 99) (xK : ∀ k : Nat, 0 ≤ Int32.toInt (gR k) ∧ Int32.toInt (gR k) ≤ 99) (zM : ∀ k : Nat, 0 ≤ Int32.toInt (qR k) ∧ Int32.toInt (qR k) ≤ 9) (xT : ∀ k : Nat, 0 ≤ Int32.toInt (nG k) ∧ Int32.toInt (nG k) ≤ 99) (yF : ∀ k : Nat, 0 ≤ Int32.toInt (oO k) ∧ Int32.toInt (oO k) ≤ 99) (yD : ∀ k : Nat, k = 4 → 1 ≤ Int32.toInt (pJ k) ∧ Int32.toInt (pJ k) ≤ 30) (xZ : ∀ k : Nat, k = 3 → 0 ≤ Int32.toInt (pJ k) ∧ Int32.toInt (pJ k) ≤ 9) (hc0 : -1 ≤ SB ∧ SB ≤ 7) (hc1 : (Int32.toInt aG ≤ 0 ∧ SB = 0) ∨ (1 ≤ Int32.toInt aG ∧ SB = Int32.toInt aG - 1)) (hpost : ∀ (r : Int32) (xM : Int32) (xG : Int32) (aAS : Int32) (aBX : Nat → Int32) (aA5 : Nat → Int32), (0 ≤ Int32.toInt xM ∧ Int32.toInt xM ≤ 16) → (0 ≤ Int32.toInt xG ∧ Int32.toInt xG ≤ 0) → (0 ≤ Int32.toInt aAS ∧ Int32.toInt aAS ≤ 65535) → (∀ k : Nat, 0 ≤ Int32.toInt (aA5 k) ∧ Int32.toInt (aA5 k) ≤ 65535) → post r xM xG aAS aBX aA5) : ∀ (n : Nat) (x1 x2 x3 bL bY dO : Int32) (sW sH : Nat → Int32), (0 ≤ Int32.toInt x1 ∧ Int32.toInt x1 ≤ 65535) → (0 ≤ Int32.toInt x2 ∧ Int32.toInt x2 ≤ 255) → (0 ≤ Int32.toInt x3 ∧ Int32.toInt x3 ≤ 8) → (0 ≤ Int32.toInt bL ∧ Int32.toInt bL ≤ 16) → (0 ≤ Int32.toInt bY ∧ Int32.toInt bY ≤ 0) → (0 ≤ Int32.toInt dO ∧ Int32.toInt dO ≤ 65535) → (∀ k : Nat, 0 ≤ Int32.toInt (sH k) ∧ Int32.toInt (sH k) ≤ 65535) → (8 - Int32.toInt x3 < (n : Int)) → wb_X10_fits_27 post bT aG qG m_x gR qR nG oO pJ n x1 x2 x3 bL bY dO sW sH := by
  intro n
  induction n with
  | zero =>
    intro x1 x2 x3 bL bY dO sW sH aBK aBN aCH yJ yG aAH zY hm
    exfalso; omega
  | succ n ih =>
    intro x1 x2 x3 bL bY dO sW sH aBK aBN aCH yJ yG aAH zY hm
    exact ts_X10_fits_27 bT aG qG m_x gR qR nG oO pJ xJ vZ xU xV aAW xK zM xT yF yD xZ hc0 hc1 hpost ih x1 x2 x3 bL bY dO sW sH aBK aBN aCH yJ yG aAH zY (by omega)
set_option maxHeartbeats 8000000 in
set_option maxRecDepth 200000 in
theorem t_X10_fits {post : Int32 → Int32 → Int32 → Int32 → (Nat → Int32) → (Nat → Int32) → Prop} {SB : Int} {p0 bT aG bL bY dO : Int32} {qG m_x gR qR nG oO pJ sW sH : Nat → Int32} (xJ : 0 ≤ Int32.toInt bT ∧ Int32.toInt bT ≤ 16) (vZ : 0 ≤ Int32.toInt aG ∧ Int32.toInt aG ≤ 8) (yJ : 0 ≤ Int32.toInt bL ∧ Int32.toInt bL ≤ 16) (yG : 0 ≤ Int32.toInt bY ∧ Int32.toInt bY ≤ 1) (aAH : 0 ≤ Int32.toInt dO ∧ Int32.toInt dO ≤ 65535) (xU : ∀ k : Nat, k = 17 → -1 ≤ Int32.toInt (qG k) ∧ Int32.toInt (qG k) ≤ SB) (xV : ∀ k : Nat, k = 19 → 0 ≤ Int32.toInt (qG k) ∧ Int32.toInt (qG k) ≤ 9) (aAW : ∀ k : Nat, 0 ≤ Int32.toInt (m_x k) ∧ Int32.toInt (m_x k) ≤ 99) (xK : ∀ k : Nat, 0 ≤ Int32.toInt (gR k) ∧ Int32.toInt (gR k) ≤ 99) (zM : ∀ k : Nat, 0 ≤ Int32.toInt (qR k) ∧ Int32.toInt (qR k) ≤ 9) (xT : ∀ k : Nat, 0 ≤ Int32.toInt (nG k) ∧ Int32.toInt (nG k) ≤ 99) (yF : ∀ k : Nat, 0 ≤ Int32.toInt (oO k) ∧ Int32.toInt (oO k) ≤ 99) (yD : ∀ k : Nat, k = 4 → 1 ≤ Int32.toInt (pJ k) ∧ Int32.toInt (pJ k) ≤ 30) (xZ : ∀ k : Nat, k = 3 → 0 ≤ Int32.toInt (pJ k) ∧ Int32.toInt (pJ k) ≤ 9) (zY : ∀ k : Nat, 0 ≤ Int32.toInt (sH k) ∧ Int32.toInt (sH k) ≤ 65535) (hc0 : -1 ≤ SB ∧ SB ≤ 7) (hc1 : (Int32.toInt aG ≤ 0 ∧ SB = 0) ∨ (1 ≤ Int32.toInt aG ∧ SB = Int32.toInt aG - 1)) (hpost : ∀ (r : Int32) (xM : Int32) (xG : Int32) (aAS : Int32) (aBX : Nat → Int32) (aA5 : Nat → Int32), (0 ≤ Int32.toInt xM ∧ Int32.toInt xM ≤ 16) → (0 ≤ Int32.toInt xG ∧ Int32.toInt xG ≤ 0) → (0 ≤ Int32.toInt aAS ∧ Int32.toInt aAS ≤ 65535) → (∀ k : Nat, 0 ≤ Int32.toInt (aA5 k) ∧ Int32.toInt (aA5 k) ≤ 65535) → post r xM xG aAS aBX aA5) : wp_X10_fits post p0 bT aG bL bY dO qG m_x gR qR nG oO pJ sW sH := by
  have l0 := aE0
  have l1 := aEc
  have l2 := li_18
  intro v125 ev125
  have f126 := aDv 16 65536 bT (by decide) ⟨by omega, by omega⟩
  have hv125 := congrArg Int32.toInt ev125
  have f128 := aAT p0
  refine And.intro (fun c127 => ?_) (fun c127 => ?_)
  · skip
    have c127 := (aAd _ _).mp c127
    refine And.intro (fun h9 => absurd h9 (by decide)) (fun _ => ?_)
    exact hpost _ _ _ _ _ _ yJ ⟨by omega, by omega⟩ aAH zY
  · skip
    have c127 := mt (aAd _ _).mpr c127
    have f130 : Int32.toInt (v125 - 1) = Int32.toInt v125 - Int32.toInt (1 : Int32) := aCA _ _ ⟨by omega, by omega⟩
    refine And.intro (fun c129 => ?_) (fun c129 => ?_)
    · skip
      have c129 := (aAd _ _).mp c129
      refine And.intro (fun h9 => absurd h9 (by decide)) (fun _ => ?_)
      exact hpost _ _ _ _ _ _ yJ ⟨by omega, by omega⟩ aAH zY
    · skip
      have c129 := mt (aAd _ _).mpr c129
      refine And.intro (fun _ => ?_) (fun h9 => absurd h9 (by decide))
      intro v131 ev131
      have hv131 := congrArg Int32.toInt ev131
      refine aLb xJ vZ aAH xU xV aAW xK zM xT yF yD xZ zY (by omega) (by omega) (fun m_wanted_133 m_hand_134 h_m_wanted_133 h_m_hand_134 => ?_)
      exact ⟨10, tb_X10_fits_27 bT aG qG m_x gR qR nG oO pJ xJ vZ xU xV aAW xK zM xT yF yD xZ hc0 hc1 hpost _ p0 0 0 bL 0 m_wanted_133 sW m_hand_134 ⟨by omega, by omega⟩ ⟨by omega, by omega⟩ ⟨by omega, by omega⟩ yJ ⟨by omega, by omega⟩ h_m_wanted_133 h_m_hand_134 (by omega)⟩
set_option maxHeartbeats 8000000 in
set_option maxRecDepth 200000 in
theorem t_X10_leaned {post : Int32 → Int32 → Prop} {p0 p1 bT aG bY : Int32} {m_x gR nG oO pJ : Nat → Int32} (xJ : 0 ≤ Int32.toInt bT ∧ Int32.toInt bT ≤ 16) (vZ : 0 ≤ Int32.toInt aG ∧ Int32.toInt aG ≤ 8) (yG : 0 ≤ Int32.toInt bY ∧ Int32.toInt bY ≤ 1) (aAW : ∀ k : Nat, 0 ≤ Int32.toInt (m_x k) ∧ Int32.toInt (m_x k) ≤ 99) (xK : ∀ k : Nat, 0 ≤ Int32.toInt (gR k) ∧ Int32.toInt (gR k) ≤ 99) (xT : ∀ k : Nat, 0 ≤ Int32.toInt (nG k) ∧ Int32.toInt (nG k) ≤ 99) (yF : ∀ k : Nat, 0 ≤ Int32.toInt (oO k) ∧ Int32.toInt (oO k) ≤ 99) (yD : ∀ k : Nat, k = 4 → 1 ≤ Int32.toInt (pJ k) ∧ Int32.toInt (pJ k) ≤ 30) (xZ : ∀ k : Nat, k = 3 → 0 ≤ Int32.toInt (pJ k) ∧ Int32.toInt (pJ k) ≤ 9) (hpost : ∀ (r : Int32) (xG : Int32), (-2 ≤ Int32.toInt r ∧ Int32.toInt r ≤ 30) → (0 ≤ Int32.toInt xG ∧ Int32.toInt xG ≤ 0) → post r xG) : wp_X10_leaned post p0 p1 bT aG bY m_x gR nG oO pJ := by
  have l0 := aI2
  have l1 := li_m2
  have l2 := aE0
  have l3 := aEc
  have l4 := li_30
  intro v1 ev1
  have f2 : Int32.toInt (bT - 1) = Int32.toInt bT - Int32.toInt (1 : Int32) := aCA _ _ ⟨by omega, by omega⟩
  rw [← ev1] at f2
  have f4 := aAT p0
  refine And.intro (fun c3 => ?_) (fun c3 => ?_)
  · skip
    have c3 := (aAd _ _).mp c3
    refine And.intro (aHE ⟨by omega, by omega⟩) ?_
    refine And.intro (fun _ => ?_) (fun h9 => absurd h9 (by decide))
    exact hpost _ _ ⟨by omega, by omega⟩ ⟨by omega, by omega⟩
  · skip
    have c3 := mt (aAd _ _).mpr c3
    refine And.intro (fun c5 => ?_) (fun c5 => ?_)
    · skip
      have c5 := (aAd _ _).mp c5
      refine And.intro (aHE ⟨by omega, by omega⟩) ?_
      refine And.intro (fun _ => ?_) (fun h9 => absurd h9 (by decide))
      exact hpost _ _ ⟨by omega, by omega⟩ ⟨by omega, by omega⟩
    · skip
      have c5 := mt (aAd _ _).mpr c5
      refine And.intro (aHE ⟨by omega, by omega⟩) ?_
      refine And.intro (fun h9 => absurd h9 (by decide)) (fun _ => ?_)
      intro v6 ev6
      have f7 : Int32.toInt (aG - 1) = Int32.toInt aG - Int32.toInt (1 : Int32) := aCA _ _ ⟨by omega, by omega⟩
      rw [← ev6] at f7
      have f9 := aAT p1
      refine And.intro (fun c8 => ?_) (fun c8 => ?_)
      · skip
        have c8 := (aAd _ _).mp c8
        refine And.intro (aHE ⟨by omega, by omega⟩) ?_
        refine And.intro (fun h9 => absurd h9 (by decide)) (fun _ => ?_)
        exact hpost _ _ ⟨by omega, by omega⟩ ⟨by omega, by omega⟩
      · skip
        have c8 := mt (aAd _ _).mpr c8
        refine And.intro (fun c10 => ?_) (fun c10 => ?_)
        · skip
          have c10 := (aAd _ _).mp c10
          refine And.intro (aHE ⟨by omega, by omega⟩) ?_
          refine And.intro (fun h9 => absurd h9 (by decide)) (fun _ => ?_)
          exact hpost _ _ ⟨by omega, by omega⟩ ⟨by omega, by omega⟩
        · skip
          have c10 := mt (aAd _ _).mpr c10
          refine And.intro (aHE ⟨by omega, by omega⟩) ?_
          refine And.intro (fun _ => ?_) (fun h9 => absurd h9 (by decide))
          refine t_X10_leanOf ⟨by omega, by omega⟩ ⟨by omega, by omega⟩ aAW xK xT yF yD xZ (fun r11 h_r11 => ?_)
          refine And.intro (fun c12 => ?_) (fun c12 => ?_)
          · skip
            have c12 := (aAO _ _).mp c12
            exact hpost _ _ ⟨by omega, by omega⟩ ⟨by omega, by omega⟩
          · skip
            have c12 := mt (aAO _ _).mpr c12
            exact hpost _ _ ⟨by omega, by omega⟩ ⟨by omega, by omega⟩
set_option maxHeartbeats 8000000 in
set_option maxRecDepth 200000 in
theorem ts_X10_autumn_129 {post : Int32 → Int32 → Int32 → Int32 → (Nat → Int32) → Prop} {SB : Int} {K55 : Int32 → Int32 → Int32 → Int32 → Int32 → Int32 → Int32 → Int32 → Int32 → Int32 → (Nat → Int32) → Prop} {K91 : Int32 → Int32 → Int32 → Int32 → Int32 → Int32 → Int32 → Int32 → Int32 → Int32 → Int32 → Int32 → Int32 → (Nat → Int32) → Prop} {n55 n91 : Int} (bT : Int32) (qG pW qR : Nat → Int32) (xJ : 0 ≤ Int32.toInt bT ∧ Int32.toInt bT ≤ 16) (xU : ∀ k : Nat, k = 17 → -1 ≤ Int32.toInt (qG k) ∧ Int32.toInt (qG k) ≤ SB) (xV : ∀ k : Nat, k = 19 → 0 ≤ Int32.toInt (qG k) ∧ Int32.toInt (qG k) ≤ 9) (yR : ∀ k : Nat, 0 ≤ Int32.toInt (pW k) ∧ Int32.toInt (pW k) ≤ 9) (zM : ∀ k : Nat, 0 ≤ Int32.toInt (qR k) ∧ Int32.toInt (qR k) ≤ 9) (hc0 : -1 ≤ SB ∧ SB ≤ 7) (hpost : ∀ (r : Int32) (xM : Int32) (xG : Int32) (m_drawn' : Int32) (aBX : Nat → Int32), (-1 ≤ Int32.toInt r ∧ Int32.toInt r ≤ 63) → (0 ≤ Int32.toInt xM ∧ Int32.toInt xM ≤ 16) → (0 ≤ Int32.toInt xG ∧ Int32.toInt xG ≤ 0) → post r xM xG m_drawn' aBX) (hK55 : ∀ (x2 : Int32) (x3 : Int32) (x4 : Int32) (x5 : Int32) (x6 : Int32) (x7 : Int32) (x8 : Int32) (bL : Int32) (bY : Int32) (jY : Int32) (sW : Nat → Int32), (1 ≤ Int32.toInt x2 ∧ Int32.toInt x2 ≤ 30) → (0 ≤ Int32.toInt x3 ∧ Int32.toInt x3 ≤ 10) → (0 ≤ Int32.toInt x4 ∧ Int32.toInt x4 ≤ 65535) → (0 ≤ Int32.toInt x5 ∧ Int32.toInt x5 ≤ 65535) → (0 ≤ Int32.toInt x6 ∧ Int32.toInt x6 ≤ 63) → (-1 ≤ Int32.toInt x7 ∧ Int32.toInt x7 ≤ 30) → (1 ≤ Int32.toInt x8 ∧ Int32.toInt x8 ≤ 31) → (0 ≤ Int32.toInt bL ∧ Int32.toInt bL ≤ 16) → (0 ≤ Int32.toInt bY ∧ Int32.toInt bY ≤ 0) → (31 - Int32.toInt x8 < n55) → K55 x2 x3 x4 x5 x6 x7 x8 bL bY jY sW) (hK91 : ∀ (x2 : Int32) (x3 : Int32) (x4 : Int32) (x5 : Int32) (x6 : Int32) (x7 : Int32) (x8 : Int32) (x9 : Int32) (x10 : Int32) (x11 : Int32) (bL : Int32) (bY : Int32) (jY : Int32) (sW : Nat → Int32), (1 ≤ Int32.toInt x2 ∧ Int32.toInt x2 ≤ 30) → (0 ≤ Int32.toInt x3 ∧ Int32.toInt x3 ≤ 10) → (0 ≤ Int32.toInt x4 ∧ Int32.toInt x4 ≤ 65535) → (0 ≤ Int32.toInt x5 ∧ Int32.toInt x5 ≤ 65535) → (0 ≤ Int32.toInt x6 ∧ Int32.toInt x6 ≤ 63) → (-1 ≤ Int32.toInt x7 ∧ Int32.toInt x7 ≤ 30) → (1 ≤ Int32.toInt x8 ∧ Int32.toInt x8 ≤ 30) → (0 ≤ Int32.toInt x9 ∧ Int32.toInt x9 ≤ 65535) → (0 ≤ Int32.toInt x10 ∧ Int32.toInt x10 ≤ 65535) → (0 ≤ Int32.toInt x11 ∧ Int32.toInt x11 ≤ 16) → (0 ≤ Int32.toInt bL ∧ Int32.toInt bL ≤ 16) → (0 ≤ Int32.toInt bY ∧ Int32.toInt bY ≤ 0) → (31 - Int32.toInt x8 ≤ n55) → (16 - Int32.toInt x11 < n91) → K91 x2 x3 x4 x5 x6 x7 x8 x9 x10 x11 bL bY jY sW) (x2 x3 x4 x5 x6 x7 x8 x9 x10 x11 bL bY jY : Int32) (sW : Nat → Int32) (aBN : 1 ≤ Int32.toInt x2 ∧ Int32.toInt x2 ≤ 30) (aCH : 0 ≤ Int32.toInt x3 ∧ Int32.toInt x3 ≤ 10) (aDO : 0 ≤ Int32.toInt x4 ∧ Int32.toInt x4 ≤ 65535) (aF7 : 0 ≤ Int32.toInt x5 ∧ Int32.toInt x5 ≤ 65535) (h_x6 : 0 ≤ Int32.toInt x6 ∧ Int32.toInt x6 ≤ 63) (h_x7 : -1 ≤ Int32.toInt x7 ∧ Int32.toInt x7 ≤ 30) (h_x8 : 1 ≤ Int32.toInt x8 ∧ Int32.toInt x8 ≤ 30) (h_x9 : 0 ≤ Int32.toInt x9 ∧ Int32.toInt x9 ≤ 65535) (h_x10 : 0 ≤ Int32.toInt x10 ∧ Int32.toInt x10 ≤ 65535) (h_x11 : 0 ≤ Int32.toInt x11 ∧ Int32.toInt x11 ≤ 15) (yJ : 0 ≤ Int32.toInt bL ∧ Int32.toInt bL ≤ 16) (yG : 0 ≤ Int32.toInt bY ∧ Int32.toInt bY ≤ 0) (hn55 : 31 - Int32.toInt x8 ≤ n55) (hn91 : 16 - Int32.toInt x11 ≤ n91) : ws_X10_autumn_129 post K55 K91 bT qG pW qR x2 x3 x4 x5 x6 x7 x8 x9 x10 x11 bL bY jY sW := by
  have l0 := aEc
  intro v1 ev1
  have f2 : Int32.toInt (x11 + 1) = Int32.toInt x11 + Int32.toInt (1 : Int32) := aAD _ _ ⟨by omega, by omega⟩
  rw [← ev1] at f2
  have f3 := aAT jY
  exact hK91 x2 x3 x4 x5 x6 x7 x8 x9 x10 v1 bL bY jY sW aBN aCH aDO aF7 h_x6 h_x7 h_x8 h_x9 h_x10 ⟨by omega, by omega⟩ yJ yG hn55 (by omega)
set_option maxHeartbeats 8000000 in
set_option maxRecDepth 200000 in
theorem ts_X10_autumn_175 {post : Int32 → Int32 → Int32 → Int32 → (Nat → Int32) → Prop} {SB : Int} {K55 : Int32 → Int32 → Int32 → Int32 → Int32 → Int32 → Int32 → Int32 → Int32 → Int32 → (Nat → Int32) → Prop} {n55 : Int} (bT : Int32) (qG pW qR : Nat → Int32) (xJ : 0 ≤ Int32.toInt bT ∧ Int32.toInt bT ≤ 16) (xU : ∀ k : Nat, k = 17 → -1 ≤ Int32.toInt (qG k) ∧ Int32.toInt (qG k) ≤ SB) (xV : ∀ k : Nat, k = 19 → 0 ≤ Int32.toInt (qG k) ∧ Int32.toInt (qG k) ≤ 9) (yR : ∀ k : Nat, 0 ≤ Int32.toInt (pW k) ∧ Int32.toInt (pW k) ≤ 9) (zM : ∀ k : Nat, 0 ≤ Int32.toInt (qR k) ∧ Int32.toInt (qR k) ≤ 9) (hc0 : -1 ≤ SB ∧ SB ≤ 7) (hpost : ∀ (r : Int32) (xM : Int32) (xG : Int32) (m_drawn' : Int32) (aBX : Nat → Int32), (-1 ≤ Int32.toInt r ∧ Int32.toInt r ≤ 63) → (0 ≤ Int32.toInt xM ∧ Int32.toInt xM ≤ 16) → (0 ≤ Int32.toInt xG ∧ Int32.toInt xG ≤ 0) → post r xM xG m_drawn' aBX) (hK55 : ∀ (x2 : Int32) (x3 : Int32) (x4 : Int32) (x5 : Int32) (x6 : Int32) (x7 : Int32) (x8 : Int32) (bL : Int32) (bY : Int32) (jY : Int32) (sW : Nat → Int32), (1 ≤ Int32.toInt x2 ∧ Int32.toInt x2 ≤ 30) → (0 ≤ Int32.toInt x3 ∧ Int32.toInt x3 ≤ 10) → (0 ≤ Int32.toInt x4 ∧ Int32.toInt x4 ≤ 65535) → (0 ≤ Int32.toInt x5 ∧ Int32.toInt x5 ≤ 65535) → (0 ≤ Int32.toInt x6 ∧ Int32.toInt x6 ≤ 63) → (-1 ≤ Int32.toInt x7 ∧ Int32.toInt x7 ≤ 30) → (1 ≤ Int32.toInt x8 ∧ Int32.toInt x8 ≤ 31) → (0 ≤ Int32.toInt bL ∧ Int32.toInt bL ≤ 16) → (0 ≤ Int32.toInt bY ∧ Int32.toInt bY ≤ 0) → (31 - Int32.toInt x8 < n55) → K55 x2 x3 x4 x5 x6 x7 x8 bL bY jY sW) (x2 x3 x4 x5 x6 x7 x8 bL bY jY : Int32) (sW : Nat → Int32) (aBN : 1 ≤ Int32.toInt x2 ∧ Int32.toInt x2 ≤ 30) (aCH : 0 ≤ Int32.toInt x3 ∧ Int32.toInt x3 ≤ 10) (aDO : 0 ≤ Int32.toInt x4 ∧ Int32.toInt x4 ≤ 65535) (aF7 : 0 ≤ Int32.toInt x5 ∧ Int32.toInt x5 ≤ 65535) (h_x6 : 0 ≤ Int32.toInt x6 ∧ Int32.toInt x6 ≤ 63) (h_x7 : -1 ≤ Int32.toInt x7 ∧ Int32.toInt x7 ≤ 30) (h_x8 : 1 ≤ Int32.toInt x8 ∧ Int32.toInt x8 ≤ 30) (yJ : 0 ≤ Int32.toInt bL ∧ Int32.toInt bL ≤ 16) (yG : 0 ≤ Int32.toInt bY ∧ Int32.toInt bY ≤ 0) (hn55 : 31 - Int32.toInt x8 ≤ n55) : ws_X10_autumn_175 post K55 bT qG pW qR x2 x3 x4 x5 x6 x7 x8 bL bY jY sW := by
  have l0 := aEc
  intro v4 ev4
  have f5 : Int32.toInt (x8 + 1) = Int32.toInt x8 + Int32.toInt (1 : Int32) := aAD _ _ ⟨by omega, by omega⟩
  rw [← ev4] at f5
  have f6 := aAT jY
  exact hK55 x2 x3 x4 x5 x6 x7 v4 bL bY jY sW aBN aCH aDO aF7 h_x6 h_x7 ⟨by omega, by omega⟩ yJ yG (by omega)
set_option maxHeartbeats 8000000 in
set_option maxRecDepth 200000 in
theorem ts_X10_autumn_91 {post : Int32 → Int32 → Int32 → Int32 → (Nat → Int32) → Prop} {SB : Int} {K55 : Int32 → Int32 → Int32 → Int32 → Int32 → Int32 → Int32 → Int32 → Int32 → Int32 → (Nat → Int32) → Prop} {next : Int32 → Int32 → Int32 → Int32 → Int32 → Int32 → Int32 → Int32 → Int32 → Int32 → Int32 → Int32 → Int32 → (Nat → Int32) → Prop} {n91 n55 : Int} (bT : Int32) (qG pW qR : Nat → Int32) (xJ : 0 ≤ Int32.toInt bT ∧ Int32.toInt bT ≤ 16) (xU : ∀ k : Nat, k = 17 → -1 ≤ Int32.toInt (qG k) ∧ Int32.toInt (qG k) ≤ SB) (xV : ∀ k : Nat, k = 19 → 0 ≤ Int32.toInt (qG k) ∧ Int32.toInt (qG k) ≤ 9) (yR : ∀ k : Nat, 0 ≤ Int32.toInt (pW k) ∧ Int32.toInt (pW k) ≤ 9) (zM : ∀ k : Nat, 0 ≤ Int32.toInt (qR k) ∧ Int32.toInt (qR k) ≤ 9) (hc0 : -1 ≤ SB ∧ SB ≤ 7) (hpost : ∀ (r : Int32) (xM : Int32) (xG : Int32) (m_drawn' : Int32) (aBX : Nat → Int32), (-1 ≤ Int32.toInt r ∧ Int32.toInt r ≤ 63) → (0 ≤ Int32.toInt xM ∧ Int32.toInt xM ≤ 16) → (0 ≤ Int32.toInt xG ∧ Int32.toInt xG ≤ 0) → post r xM xG m_drawn' aBX) (hK55 : ∀ (x2 : Int32) (x3 : Int32) (x4 : Int32) (x5 : Int32) (x6 : Int32) (x7 : Int32) (x8 : Int32) (bL : Int32) (bY : Int32) (jY : Int32) (sW : Nat → Int32), (1 ≤ Int32.toInt x2 ∧ Int32.toInt x2 ≤ 30) → (0 ≤ Int32.toInt x3 ∧ Int32.toInt x3 ≤ 10) → (0 ≤ Int32.toInt x4 ∧ Int32.toInt x4 ≤ 65535) → (0 ≤ Int32.toInt x5 ∧ Int32.toInt x5 ≤ 65535) → (0 ≤ Int32.toInt x6 ∧ Int32.toInt x6 ≤ 63) → (-1 ≤ Int32.toInt x7 ∧ Int32.toInt x7 ≤ 30) → (1 ≤ Int32.toInt x8 ∧ Int32.toInt x8 ≤ 31) → (0 ≤ Int32.toInt bL ∧ Int32.toInt bL ≤ 16) → (0 ≤ Int32.toInt bY ∧ Int32.toInt bY ≤ 0) → (31 - Int32.toInt x8 < n55) → K55 x2 x3 x4 x5 x6 x7 x8 bL bY jY sW) (hKn : ∀ (x2 : Int32) (x3 : Int32) (x4 : Int32) (x5 : Int32) (x6 : Int32) (x7 : Int32) (x8 : Int32) (x9 : Int32) (x10 : Int32) (x11 : Int32) (bL : Int32) (bY : Int32) (jY : Int32) (sW : Nat → Int32), (1 ≤ Int32.toInt x2 ∧ Int32.toInt x2 ≤ 30) → (0 ≤ Int32.toInt x3 ∧ Int32.toInt x3 ≤ 10) → (0 ≤ Int32.toInt x4 ∧ Int32.toInt x4 ≤ 65535) → (0 ≤ Int32.toInt x5 ∧ Int32.toInt x5 ≤ 65535) → (0 ≤ Int32.toInt x6 ∧ Int32.toInt x6 ≤ 63) → (-1 ≤ Int32.toInt x7 ∧ Int32.toInt x7 ≤ 30) → (1 ≤ Int32.toInt x8 ∧ Int32.toInt x8 ≤ 30) → (0 ≤ Int32.toInt x9 ∧ Int32.toInt x9 ≤ 65535) → (0 ≤ Int32.toInt x10 ∧ Int32.toInt x10 ≤ 65535) → (0 ≤ Int32.toInt x11 ∧ Int32.toInt x11 ≤ 16) → (0 ≤ Int32.toInt bL ∧ Int32.toInt bL ≤ 16) → (0 ≤ Int32.toInt bY ∧ Int32.toInt bY ≤ 0) → (31 - Int32.toInt x8 ≤ n55) → (16 - Int32.toInt x11 < n91) → next x2 x3 x4 x5 x6 x7 x8 x9 x10 x11 bL bY jY sW) (x2 x3 x4 x5 x6 x7 x8 x9 x10 x11 bL bY jY : Int32) (sW : Nat → Int32) (aBN : 1 ≤ Int32.toInt x2 ∧ Int32.toInt x2 ≤ 30) (aCH : 0 ≤ Int32.toInt x3 ∧ Int32.toInt x3 ≤ 10) (aDO : 0 ≤ Int32.toInt x4 ∧ Int32.toInt x4 ≤ 65535) (aF7 : 0 ≤ Int32.toInt x5 ∧ Int32.toInt x5 ≤ 65535) (h_x6 : 0 ≤ Int32.toInt x6 ∧ Int32.toInt x6 ≤ 63) (h_x7 : -1 ≤ Int32.toInt x7 ∧ Int32.toInt x7 ≤ 30) (h_x8 : 1 ≤ Int32.toInt x8 ∧ Int32.toInt x8 ≤ 30) (h_x9 : 0 ≤ Int32.toInt x9 ∧ Int32.toInt x9 ≤ 65535) (h_x10 : 0 ≤ Int32.toInt x10 ∧ Int32.toInt x10 ≤ 65535) (h_x11 : 0 ≤ Int32.toInt x11 ∧ Int32.toInt x11 ≤ 16) (yJ : 0 ≤ Int32.toInt bL ∧ Int32.toInt bL ≤ 16) (yG : 0 ≤ Int32.toInt bY ∧ Int32.toInt bY ≤ 0) (hn55 : 31 - Int32.toInt x8 ≤ n55) (hn91 : 16 - Int32.toInt x11 ≤ n91) : ws_X10_autumn_91 post K55 next bT qG pW qR x2 x3 x4 x5 x6 x7 x8 x9 x10 x11 bL bY jY sW := by
  have l0 := aE0
  have l1 := aEc
  have l2 := li_10
  have l3 := aKH
  have l4 := aJ8
  have l5 := li_63
  have l6 := aJ9
  refine And.intro (fun c7 => ?_) (fun c7 => ?_)
  · skip
    have c7 := (aAO _ _).mp c7
    intro v8 ev8
    have f10 := aBx x4 (x10 ^^^ (-1)) (by omega)
    have hv8 := congrArg Int32.toInt ev8
    intro v11 ev11
    have f12 := ti_or 16 65536 x5 x10 (by decide) ⟨by omega, by omega⟩ ⟨by omega, by omega⟩
    have hv11 := congrArg Int32.toInt ev11
    intro v13 ev13
    intro v14 ev14
    have f16 := aAQ v13 1431655765 (by omega)
    have f15 : Int32.toInt (x10 - (v13 &&& 1431655765)) = Int32.toInt x10 - Int32.toInt (v13 &&& 1431655765) := aCA _ _ ⟨by omega, by omega⟩
    rw [← ev14] at f15
    intro v17 ev17
    have f18 := aAQ v14 858993459 (by omega)
    have hv17 := congrArg Int32.toInt ev17
    intro v19 ev19
    intro v20 ev20
    have f22 := aAQ v19 858993459 (by omega)
    have f21 : Int32.toInt (v17 + (v19 &&& 858993459)) = Int32.toInt v17 + Int32.toInt (v19 &&& 858993459) := aAD _ _ ⟨by omega, by omega⟩
    rw [← ev20] at f21
    intro v23 ev23
    have hv23 := congrArg Int32.toInt ev23
    intro v25 ev25
    have f26 := aAQ v23 252645135 (by omega)
    have hv25 := congrArg Int32.toInt ev25
    intro v27 ev27
    have hv27 := congrArg Int32.toInt ev27
    intro v29 ev29
    have hv29 := congrArg Int32.toInt ev29
    have f32 := aAQ v29 63 (by omega)
    refine And.intro (fun c31 => ?_) (fun c31 => ?_)
    · skip
      have c31 := (aAd _ _).mp c31
      intro v33 ev33
      intro v34 ev34
      have f36 := aAQ v33 1431655765 (by omega)
      have f35 : Int32.toInt (x10 - (v33 &&& 1431655765)) = Int32.toInt x10 - Int32.toInt (v33 &&& 1431655765) := aCA _ _ ⟨by omega, by omega⟩
      rw [← ev34] at f35
      intro v37 ev37
      have f38 := aAQ v34 858993459 (by omega)
      have hv37 := congrArg Int32.toInt ev37
      intro v39 ev39
      intro v40 ev40
      have f42 := aAQ v39 858993459 (by omega)
      have f41 : Int32.toInt (v37 + (v39 &&& 858993459)) = Int32.toInt v37 + Int32.toInt (v39 &&& 858993459) := aAD _ _ ⟨by omega, by omega⟩
      rw [← ev40] at f41
      intro v43 ev43
      have hv43 := congrArg Int32.toInt ev43
      intro v45 ev45
      have f46 := aAQ v43 252645135 (by omega)
      have hv45 := congrArg Int32.toInt ev45
      intro v47 ev47
      have hv47 := congrArg Int32.toInt ev47
      intro v49 ev49
      have hv49 := congrArg Int32.toInt ev49
      have f51 := aAQ v49 63 (by omega)
      have f52 := aAT jY
      exact ts_X10_autumn_175 bT qG pW qR xJ xU xV yR zM hc0 hpost hK55 x2 x3 v8 v11 (v49 &&& 63) x8 x8 bL bY jY sW aBN aCH ⟨by omega, by omega⟩ ⟨by omega, by omega⟩ ⟨by omega, by omega⟩ ⟨by omega, by omega⟩ h_x8 yJ yG hn55
    · skip
      have c31 := mt (aAd _ _).mpr c31
      have f53 := aAT jY
      exact ts_X10_autumn_175 bT qG pW qR xJ xU xV yR zM hc0 hpost hK55 x2 x3 v8 v11 x6 x7 x8 bL bY jY sW aBN aCH ⟨by omega, by omega⟩ ⟨by omega, by omega⟩ h_x6 h_x7 h_x8 yJ yG hn55
  · skip
    have c7 := mt (aAO _ _).mpr c7
    intro v54 ev54
    have f55 := aRJ x9 x11 (by omega)
    have hv54 := congrArg Int32.toInt ev54
    intro v56 ev56
    have f57 := aAQ v54 1 (by omega)
    have f58 := aBx v54 1 (by omega)
    have hv56 := congrArg Int32.toInt ev56
    refine And.intro (fun c59 => ?_) (fun c59 => ?_)
    · skip
      have c59 := mt (zJ _ _).mpr c59
      refine And.intro (fun _ => ?_) (fun h9 => absurd h9 (by decide))
      have f60 := aAT jY
      exact ts_X10_autumn_129 bT qG pW qR xJ xU xV yR zM hc0 hpost hK55 hKn x2 x3 x4 x5 x6 x7 x8 x9 x10 x11 bL bY jY sW aBN aCH aDO aF7 h_x6 h_x7 h_x8 h_x9 h_x10 ⟨by omega, by omega⟩ yJ yG hn55 hn91
    · skip
      have c59 := (zJ _ _).mp c59
      refine And.intro (fun h9 => absurd h9 (by decide)) (fun _ => ?_)
      intro v61 ev61
      have hv61 := congrArg Int32.toInt ev61
      intro v63 ev63
      have hv63 := congrArg Int32.toInt ev63
      intro v65 ev65
      refine And.intro (mt (zJ _ _).mp (by omega)) ?_
      refine And.intro (fun c66 => ?_) (fun c66 => ?_)
      · skip
        have c66 := (aAO _ _).mp c66
        have f68 := aAT v63
        exact ts_X10_autumn_129 bT qG pW qR xJ xU xV yR zM hc0 hpost hK55 hKn x2 x3 x4 x5 x6 x7 x8 x9 x10 x11 bL bY v63 sW aBN aCH aDO aF7 h_x6 h_x7 h_x8 h_x9 h_x10 ⟨by omega, by omega⟩ yJ yG hn55 hn91
      · skip
        have c66 := mt (aAO _ _).mpr c66
        intro v69 ev69
        have f71 := aDv 15 32768 x11 (by decide) ⟨by omega, by omega⟩
        have f70 := ti_or 16 65536 x10 (1 <<< (x11 &&& 31)) (by decide) ⟨by omega, by omega⟩ ⟨by omega, by omega⟩
        have hv69 := congrArg Int32.toInt ev69
        have f72 := aAT v63
        exact ts_X10_autumn_129 bT qG pW qR xJ xU xV yR zM hc0 hpost hK55 hKn x2 x3 x4 x5 x6 x7 x8 x9 v69 x11 bL bY v63 sW aBN aCH aDO aF7 h_x6 h_x7 h_x8 h_x9 ⟨by omega, by omega⟩ ⟨by omega, by omega⟩ yJ yG hn55 hn91
set_option maxHeartbeats 8000000 in
set_option maxRecDepth 200000 in
theorem tb_X10_autumn_91 {post : Int32 → Int32 → Int32 → Int32 → (Nat → Int32) → Prop} {SB : Int} {K55 : Int32 → Int32 → Int32 → Int32 → Int32 → Int32 → Int32 → Int32 → Int32 → Int32 → (Nat → Int32) → Prop} {n55 : Int} (bT : Int32) (qG pW qR : Nat → Int32) (xJ : 0 ≤ Int32.toInt bT ∧ Int32.toInt bT ≤ 16) (xU : ∀ k : Nat, k = 17 → -1 ≤ Int32.toInt (qG k) ∧ Int32.toInt (qG k) ≤ SB) (xV : ∀ k : Nat, k = 19 → 0 ≤ Int32.toInt (qG k) ∧ Int32.toInt (qG k) ≤ 9) (yR : ∀ k : Nat, 0 ≤ Int32.toInt (pW k) ∧ Int32.toInt (pW k) ≤ 9) (zM : ∀ k : Nat, 0 ≤ Int32.toInt (qR k) ∧ Int32.toInt (qR k) ≤ 9) (hc0 : -1 ≤ SB ∧ SB ≤ 7) (hpost : ∀ (r : Int32) (xM : Int32) (xG : Int32) (m_drawn' : Int32) (aBX : Nat → Int32), (-1 ≤ Int32.toInt r ∧ Int32.toInt r ≤ 63) → (0 ≤ Int32.toInt xM ∧ Int32.toInt xM ≤ 16) → (0 ≤ Int32.toInt xG ∧ Int32.toInt xG ≤ 0) → post r xM xG m_drawn' aBX) (hK55 : ∀ (x2 : Int32) (x3 : Int32) (x4 : Int32) (x5 : Int32) (x6 : Int32) (x7 : Int32) (x8 : Int32) (bL : Int32) (bY : Int32) (jY : Int32) (sW : Nat → Int32), (1 ≤ Int32.toInt x2 ∧ Int32.toInt x2 ≤ 30) → (0 ≤ Int32.toInt x3 ∧ Int32.toInt x3 ≤ 10) → (0 ≤ Int32.toInt x4 ∧ Int32.toInt x4 ≤ 65535) → (0 ≤ Int32.toInt x5 ∧ Int32.toInt x5 ≤ 65535) → (0 ≤ Int32.toInt x6 ∧ Int32.toInt x6 ≤ 63) → (-1 ≤ Int32.toInt x7 ∧ Int32.toInt x7 ≤ 30) → (1 ≤ Int32.toInt x8 ∧ Int32.toInt x8 ≤ 31) → (0 ≤ Int32.toInt bL ∧ Int32.toInt bL ≤ 16) → (0 ≤ Int32.toInt bY ∧ Int32.toInt bY ≤ 0) → (31 - Int32.toInt x8 < n55) → K55 x2 x3 x4 x5 x6 x7 x8 bL bY jY sW) : ∀ (n : Nat) (x2 x3 x4 x5 x6 x7 x8 x9 x10 x11 bL bY jY : Int32) (sW : Nat → Int32), (1 ≤ Int32.toInt x2 ∧ Int32.toInt x2 ≤ 30) → (0 ≤ Int32.toInt x3 ∧ Int32.toInt x3 ≤ 10) → (0 ≤ Int32.toInt x4 ∧ Int32.toInt x4 ≤ 65535) → (0 ≤ Int32.toInt x5 ∧ Int32.toInt x5 ≤ 65535) → (0 ≤ Int32.toInt x6 ∧ Int32.toInt x6 ≤ 63) → (-1 ≤ Int32.toInt x7 ∧ Int32.toInt x7 ≤ 30) → (1 ≤ Int32.toInt x8 ∧ Int32.toInt x8 ≤ 30) → (0 ≤ Int32.toInt x9 ∧ Int32.toInt x9 ≤ 65535) → (0 ≤ Int32.toInt x10 ∧ Int32.toInt x10 ≤ 65535) → (0 ≤ Int32.toInt x11 ∧ Int32.toInt x11 ≤ 16) → (0 ≤ Int32.toInt bL ∧ Int32.toInt bL ≤ 16) → (0 ≤ Int32.toInt bY ∧ Int32.toInt bY ≤ 0) → (31 - Int32.toInt x8 ≤ n55) → (16 - Int32.toInt x11 < (n : Int)) → wb_X10_autumn_91 post K55 bT qG pW qR n x2 x3 x4 x5 x6 x7 x8 x9 x10 x11 bL bY jY sW := by
  intro n
  induction n with
  | zero =>
    intro x2 x3 x4 x5 x6 x7 x8 x9 x10 x11 bL bY jY sW aBN aCH aDO aF7 h_x6 h_x7 h_x8 h_x9 h_x10 h_x11 yJ yG hn55 hm
    exfalso; omega
  | succ n ih =>
    intro x2 x3 x4 x5 x6 x7 x8 x9 x10 x11 bL bY jY sW aBN aCH aDO aF7 h_x6 h_x7 h_x8 h_x9 h_x10 h_x11 yJ yG hn55 hm
    exact ts_X10_autumn_91 bT qG pW qR xJ xU xV yR zM hc0 hpost hK55 ih x2 x3 x4 x5 x6 x7 x8 x9 x10 x11 bL bY jY sW aBN aCH aDO aF7 h_x6 h_x7 h_x8 h_x9 h_x10 h_x11 yJ yG hn55 (by omega)
set_option maxHeartbeats 8000000 in
set_option maxRecDepth 200000 in
theorem ts_X10_autumn_55 {post : Int32 → Int32 → Int32 → Int32 → (Nat → Int32) → Prop} {SB : Int} {next : Int32 → Int32 → Int32 → Int32 → Int32 → Int32 → Int32 → Int32 → Int32 → Int32 → (Nat → Int32) → Prop} {n55 : Int} (bT : Int32) (qG pW qR : Nat → Int32) (xJ : 0 ≤ Int32.toInt bT ∧ Int32.toInt bT ≤ 16) (xU : ∀ k : Nat, k = 17 → -1 ≤ Int32.toInt (qG k) ∧ Int32.toInt (qG k) ≤ SB) (xV : ∀ k : Nat, k = 19 → 0 ≤ Int32.toInt (qG k) ∧ Int32.toInt (qG k) ≤ 9) (yR : ∀ k : Nat, 0 ≤ Int32.toInt (pW k) ∧ Int32.toInt (pW k) ≤ 9) (zM : ∀ k : Nat, 0 ≤ Int32.toInt (qR k) ∧ Int32.toInt (qR k) ≤ 9) (hc0 : -1 ≤ SB ∧ SB ≤ 7) (hpost : ∀ (r : Int32) (xM : Int32) (xG : Int32) (m_drawn' : Int32) (aBX : Nat → Int32), (-1 ≤ Int32.toInt r ∧ Int32.toInt r ≤ 63) → (0 ≤ Int32.toInt xM ∧ Int32.toInt xM ≤ 16) → (0 ≤ Int32.toInt xG ∧ Int32.toInt xG ≤ 0) → post r xM xG m_drawn' aBX) (hKn : ∀ (x2 : Int32) (x3 : Int32) (x4 : Int32) (x5 : Int32) (x6 : Int32) (x7 : Int32) (x8 : Int32) (bL : Int32) (bY : Int32) (jY : Int32) (sW : Nat → Int32), (1 ≤ Int32.toInt x2 ∧ Int32.toInt x2 ≤ 30) → (0 ≤ Int32.toInt x3 ∧ Int32.toInt x3 ≤ 10) → (0 ≤ Int32.toInt x4 ∧ Int32.toInt x4 ≤ 65535) → (0 ≤ Int32.toInt x5 ∧ Int32.toInt x5 ≤ 65535) → (0 ≤ Int32.toInt x6 ∧ Int32.toInt x6 ≤ 63) → (-1 ≤ Int32.toInt x7 ∧ Int32.toInt x7 ≤ 30) → (1 ≤ Int32.toInt x8 ∧ Int32.toInt x8 ≤ 31) → (0 ≤ Int32.toInt bL ∧ Int32.toInt bL ≤ 16) → (0 ≤ Int32.toInt bY ∧ Int32.toInt bY ≤ 0) → (31 - Int32.toInt x8 < n55) → next x2 x3 x4 x5 x6 x7 x8 bL bY jY sW) (x2 x3 x4 x5 x6 x7 x8 bL bY jY : Int32) (sW : Nat → Int32) (aBN : 1 ≤ Int32.toInt x2 ∧ Int32.toInt x2 ≤ 30) (aCH : 0 ≤ Int32.toInt x3 ∧ Int32.toInt x3 ≤ 10) (aDO : 0 ≤ Int32.toInt x4 ∧ Int32.toInt x4 ≤ 65535) (aF7 : 0 ≤ Int32.toInt x5 ∧ Int32.toInt x5 ≤ 65535) (h_x6 : 0 ≤ Int32.toInt x6 ∧ Int32.toInt x6 ≤ 63) (h_x7 : -1 ≤ Int32.toInt x7 ∧ Int32.toInt x7 ≤ 30) (h_x8 : 1 ≤ Int32.toInt x8 ∧ Int32.toInt x8 ≤ 31) (yJ : 0 ≤ Int32.toInt bL ∧ Int32.toInt bL ≤ 16) (yG : 0 ≤ Int32.toInt bY ∧ Int32.toInt bY ≤ 0) (hn55 : 31 - Int32.toInt x8 ≤ n55) : ws_X10_autumn_55 post next bT qG pW qR x2 x3 x4 x5 x6 x7 x8 bL bY jY sW := by
  have l0 := aE0
  have l1 := aEc
  have l2 := aKH
  have l3 := li_16
  have l4 := li_19
  have l5 := aJ8
  have l6 := li_63
  have l7 := aJ9
  have l8 := li_9
  refine And.intro (fun c73 => ?_) (fun c73 => ?_)
  · skip
    have c73 := (aAd _ _).mp c73
    refine And.intro (aBZ ⟨by omega, by omega⟩) ?_
    intro v74 ev74
    have f75 : Int32.toInt (0 + 1) = Int32.toInt (0 : Int32) + Int32.toInt (1 : Int32) := aAD _ _ ⟨by omega, by omega⟩
    rw [← ev74] at f75
    intro v76 ev76
    have hv76 := congrArg Int32.toInt ev76
    refine aNU aF7 xJ yR (fun r78 => ?_)
    refine And.intro (aBZ ⟨by omega, by omega⟩) ?_
    intro v79 ev79
    have f80 : Int32.toInt (v74 + 1) = Int32.toInt v74 + Int32.toInt (1 : Int32) := aAD _ _ ⟨by omega, by omega⟩
    rw [← ev79] at f80
    refine And.intro (aBZ ⟨by omega, by omega⟩) ?_
    intro v81 ev81
    have f82 : Int32.toInt (v79 + 1) = Int32.toInt v79 + Int32.toInt (1 : Int32) := aAD _ _ ⟨by omega, by omega⟩
    rw [← ev81] at f82
    intro v83 ev83
    intro v84 ev84
    have f86 := aAQ v83 1431655765 (by omega)
    have f85 : Int32.toInt (x5 - (v83 &&& 1431655765)) = Int32.toInt x5 - Int32.toInt (v83 &&& 1431655765) := aCA _ _ ⟨by omega, by omega⟩
    rw [← ev84] at f85
    intro v87 ev87
    have f88 := aAQ v84 858993459 (by omega)
    have hv87 := congrArg Int32.toInt ev87
    intro v89 ev89
    intro v90 ev90
    have f92 := aAQ v89 858993459 (by omega)
    have f91 : Int32.toInt (v87 + (v89 &&& 858993459)) = Int32.toInt v87 + Int32.toInt (v89 &&& 858993459) := aAD _ _ ⟨by omega, by omega⟩
    rw [← ev90] at f91
    intro v93 ev93
    have hv93 := congrArg Int32.toInt ev93
    intro v95 ev95
    have f96 := aAQ v93 252645135 (by omega)
    have hv95 := congrArg Int32.toInt ev95
    intro v97 ev97
    have hv97 := congrArg Int32.toInt ev97
    intro v99 ev99
    have hv99 := congrArg Int32.toInt ev99
    have f101 := aAQ v99 63 (by omega)
    exact hpost _ _ _ _ _ ⟨by omega, by omega⟩ ⟨by omega, by omega⟩ yG
  · skip
    have c73 := mt (aAd _ _).mpr c73
    have q102 := xV (19 : Int32).toNatClampNeg (by have e9 : (19 : Int32).toNatClampNeg = (Int32.toInt (19 : Int32)).toNat := rfl; omega)
    intro v103 ev103
    have hv103 := congrArg Int32.toInt ev103
    intro v105 ev105
    have f106 : Int32.toInt (v103 + x8) = Int32.toInt v103 + Int32.toInt x8 := aAD _ _ ⟨by omega, by omega⟩
    rw [← ev105] at f106
    intro v107 ev107
    have f108 := ti_min (9 : Int32) v105
    have hv107 := congrArg Int32.toInt ev107
    refine aXh ⟨by omega, by omega⟩ xJ zM (fun r109 h_r109 ox110 => ?_)
    intro v111 ev111
    have f112 := aAQ x4 r109 (by omega)
    have f113 := aBx x4 r109 (by omega)
    have hv111 := congrArg Int32.toInt ev111
    have f114 := aAT jY
    exact ⟨18, tb_X10_autumn_91 bT qG pW qR xJ xU xV yR zM hc0 hpost hKn _ x2 x3 x4 x5 x6 x7 x8 v111 0 0 bL bY jY sW aBN aCH aDO aF7 h_x6 h_x7 ⟨by omega, by omega⟩ ⟨by omega, by omega⟩ ⟨by omega, by omega⟩ ⟨by omega, by omega⟩ yJ yG hn55 (by omega)⟩
set_option maxHeartbeats 8000000 in
set_option maxRecDepth 200000 in
theorem tb_X10_autumn_55 {post : Int32 → Int32 → Int32 → Int32 → (Nat → Int32) → Prop} {SB : Int} (bT : Int32) (qG pW qR : Nat → Int32) (xJ : 0 ≤ Int32.toInt bT ∧ Int32.toInt bT ≤ 16) (xU : ∀ k : Nat, k = 17 → -1 ≤ Int32.toInt (qG k) ∧ Int32.toInt (qG k) ≤ SB) (xV : ∀ k : Nat, k = 19 → 0 ≤ Int32.toInt (qG k) ∧ Int32.toInt (qG k) ≤ 9) (yR : ∀ k : Nat, 0 ≤ Int32.toInt (pW k) ∧ Int32.toInt (pW k) ≤ 9) (zM : ∀ k : Nat, 0 ≤ Int32.toInt (qR k) ∧ Int32.toInt (qR k) ≤ 9) (hc0 : -1 ≤ SB ∧ SB ≤ 7) (hpost : ∀ (r : Int32) (xM : Int32) (xG : Int32) (m_drawn' : Int32) (aBX : Nat → Int32), (-1 ≤ Int32.toInt r ∧ Int32.toInt r ≤ 63) → (0 ≤ Int32.toInt xM ∧ Int32.toInt xM ≤ 16) → (0 ≤ Int32.toInt xG ∧ Int32.toInt xG ≤ 0) → post r xM xG m_drawn' aBX) : ∀ (n : Nat) (x2 x3 x4 x5 x6 x7 x8 bL bY jY : Int32) (sW : Nat → Int32), (1 ≤ Int32.toInt x2 ∧ Int32.toInt x2 ≤ 30) → (0 ≤ Int32.toInt x3 ∧ Int32.toInt x3 ≤ 10) → (0 ≤ Int32.toInt x4 ∧ Int32.toInt x4 ≤ 65535) → (0 ≤ Int32.toInt x5 ∧ Int32.toInt x5 ≤ 65535) → (0 ≤ Int32.toInt x6 ∧ Int32.toInt x6 ≤ 63) → (-1 ≤ Int32.toInt x7 ∧ Int32.toInt x7 ≤ 30) → (1 ≤ Int32.toInt x8 ∧ Int32.toInt x8 ≤ 31) → (0 ≤ Int32.toInt bL ∧ Int32.toInt bL ≤ 16) → (0 ≤ Int32.toInt bY ∧ Int32.toInt bY ≤ 0) → (31 - Int32.toInt x8 < (n : Int)) → wb_X10_autumn_55 post bT qG pW qR n x2 x3 x4 x5 x6 x7 x8 bL bY jY sW := by
  intro n
  induction n with
  | zero =>
    intro x2 x3 x4 x5 x6 x7 x8 bL bY jY sW aBN aCH aDO aF7 h_x6 h_x7 h_x8 yJ yG hm
    exfalso; omega
  | succ n ih =>
    intro x2 x3 x4 x5 x6 x7 x8 bL bY jY sW aBN aCH aDO aF7 h_x6 h_x7 h_x8 yJ yG hm
    exact ts_X10_autumn_55 bT qG pW qR xJ xU xV yR zM hc0 hpost ih x2 x3 x4 x5 x6 x7 x8 bL bY jY sW aBN aCH aDO aF7 h_x6 h_x7 h_x8 yJ yG (by omega)
set_option maxHeartbeats 8000000 in
set_option maxRecDepth 200000 in
theorem t_X10_autumn {post : Int32 → Int32 → Int32 → Int32 → (Nat → Int32) → Prop} {SB : Int} {p0 p1 p2 bT bL bY jY : Int32} {qG pW qR sW : Nat → Int32} (xJ : 0 ≤ Int32.toInt bT ∧ Int32.toInt bT ≤ 16) (yJ : 0 ≤ Int32.toInt bL ∧ Int32.toInt bL ≤ 16) (yG : 0 ≤ Int32.toInt bY ∧ Int32.toInt bY ≤ 1) (xU : ∀ k : Nat, k = 17 → -1 ≤ Int32.toInt (qG k) ∧ Int32.toInt (qG k) ≤ SB) (xV : ∀ k : Nat, k = 19 → 0 ≤ Int32.toInt (qG k) ∧ Int32.toInt (qG k) ≤ 9) (yR : ∀ k : Nat, 0 ≤ Int32.toInt (pW k) ∧ Int32.toInt (pW k) ≤ 9) (zM : ∀ k : Nat, 0 ≤ Int32.toInt (qR k) ∧ Int32.toInt (qR k) ≤ 9) (hc0 : -1 ≤ SB ∧ SB ≤ 7) (hpost : ∀ (r : Int32) (xM : Int32) (xG : Int32) (m_drawn' : Int32) (aBX : Nat → Int32), (-1 ≤ Int32.toInt r ∧ Int32.toInt r ≤ 63) → (0 ≤ Int32.toInt xM ∧ Int32.toInt xM ≤ 16) → (0 ≤ Int32.toInt xG ∧ Int32.toInt xG ≤ 0) → post r xM xG m_drawn' aBX) : wp_X10_autumn post p0 p1 p2 bT bL bY jY qG pW qR sW := by
  have l0 := aI2
  have l1 := aE0
  have l2 := aEc
  have l3 := li_10
  have l4 := li_30
  have f116 := aAT p1
  refine And.intro (fun c115 => ?_) (fun c115 => ?_)
  · skip
    have c115 := (aAd _ _).mp c115
    refine And.intro (fun _ => ?_) (fun h9 => absurd h9 (by decide))
    exact hpost _ _ _ _ _ ⟨by omega, by omega⟩ yJ ⟨by omega, by omega⟩
  · skip
    have c115 := mt (aAd _ _).mpr c115
    refine And.intro (fun c117 => ?_) (fun c117 => ?_)
    · skip
      have c117 := (aAd _ _).mp c117
      refine And.intro (fun _ => ?_) (fun h9 => absurd h9 (by decide))
      exact hpost _ _ _ _ _ ⟨by omega, by omega⟩ yJ ⟨by omega, by omega⟩
    · skip
      have c117 := mt (aAd _ _).mpr c117
      refine And.intro (fun h9 => absurd h9 (by decide)) (fun _ => ?_)
      have f119 := aAT p2
      refine And.intro (fun c118 => ?_) (fun c118 => ?_)
      · skip
        have c118 := (aAd _ _).mp c118
        refine And.intro (fun h9 => absurd h9 (by decide)) (fun _ => ?_)
        exact hpost _ _ _ _ _ ⟨by omega, by omega⟩ yJ ⟨by omega, by omega⟩
      · skip
        have c118 := mt (aAd _ _).mpr c118
        refine And.intro (fun c120 => ?_) (fun c120 => ?_)
        · skip
          have c120 := (aAd _ _).mp c120
          refine And.intro (fun h9 => absurd h9 (by decide)) (fun _ => ?_)
          exact hpost _ _ _ _ _ ⟨by omega, by omega⟩ yJ ⟨by omega, by omega⟩
        · skip
          have c120 := mt (aAd _ _).mpr c120
          refine And.intro (fun _ => ?_) (fun h9 => absurd h9 (by decide))
          refine aKO ⟨by omega, by omega⟩ xJ xU xV (by omega) (fun r121 h_r121 ox122 => ?_)
          have f123 := aAT p0
          exact ⟨32, tb_X10_autumn_55 bT qG pW qR xJ xU xV yR zM hc0 hpost _ p1 p2 r121 0 0 (-1) 1 bL 0 p0 sW ⟨by omega, by omega⟩ ⟨by omega, by omega⟩ h_r121 ⟨by omega, by omega⟩ ⟨by omega, by omega⟩ ⟨by omega, by omega⟩ ⟨by omega, by omega⟩ yJ ⟨by omega, by omega⟩ (by omega)⟩
set_option maxHeartbeats 8000000 in
set_option maxRecDepth 200000 in
theorem ts_X10_lay_b4_2 {post : (Nat → Int32) → Prop} {SB : Int} {next : Int32 → Int32 → (Nat → Int32) → Prop} {n2 : Int} (qG : Nat → Int32) (xU : ∀ k : Nat, k = 17 → -1 ≤ Int32.toInt (qG k) ∧ Int32.toInt (qG k) ≤ SB) (xV : ∀ k : Nat, k = 19 → 0 ≤ Int32.toInt (qG k) ∧ Int32.toInt (qG k) ≤ 9) (hc0 : -1 ≤ SB ∧ SB ≤ 7) (hpost : ∀ (m_kept' : Nat → Int32), (∀ k : Nat, k % 21 = 17 → -1 ≤ Int32.toInt (m_kept' k) ∧ Int32.toInt (m_kept' k) ≤ SB) → (∀ k : Nat, k % 21 = 19 → 0 ≤ Int32.toInt (m_kept' k) ∧ Int32.toInt (m_kept' k) ≤ 9) → post m_kept') (hKn : ∀ (x2 : Int32) (x3 : Int32) (xD : Nat → Int32), (0 ≤ Int32.toInt x2 ∧ Int32.toInt x2 ≤ 21) → (0 ≤ Int32.toInt x3 ∧ Int32.toInt x3 ≤ 21) → (∀ k : Nat, k % 21 = 17 → -1 ≤ Int32.toInt (xD k) ∧ Int32.toInt (xD k) ≤ SB) → (∀ k : Nat, k % 21 = 19 → 0 ≤ Int32.toInt (xD k) ∧ Int32.toInt (xD k) ≤ 9) → (Int32.toInt x2 % 21 = 0) → (21 - Int32.toInt x3 < n2) → next x2 x3 xD) (x2 x3 : Int32) (xD : Nat → Int32) (aBN : 0 ≤ Int32.toInt x2 ∧ Int32.toInt x2 ≤ 21) (aCH : 0 ≤ Int32.toInt x3 ∧ Int32.toInt x3 ≤ 21) (aCE : ∀ k : Nat, k % 21 = 17 → -1 ≤ Int32.toInt (xD k) ∧ Int32.toInt (xD k) ≤ SB) (aCF : ∀ k : Nat, k % 21 = 19 → 0 ≤ Int32.toInt (xD k) ∧ Int32.toInt (xD k) ≤ 9) (hx0 : Int32.toInt x2 % 21 = 0) (hn2 : 21 - Int32.toInt x3 ≤ n2) : ws_X10_lay_b4_2 post next qG x2 x3 xD := by
  have l0 := aEc
  have l1 := li_21
  refine And.intro (fun c1 => ?_) (fun c1 => ?_)
  · skip
    have c1 := (aAO _ _).mp c1
    exact hpost _ aCE aCF
  · skip
    have c1 := mt (aAO _ _).mpr c1
    intro v2 ev2
    have f3 : Int32.toInt (x2 + x3) = Int32.toInt x2 + Int32.toInt x3 := aAD _ _ ⟨by omega, by omega⟩
    rw [← ev2] at f3
    refine And.intro (aBZ ⟨by omega, by omega⟩) ?_
    have q4 := xU x3.toNatClampNeg
    have q5 := xV x3.toNatClampNeg
    have q6 : x3.toNatClampNeg = (Int32.toInt x3).toNat := rfl
    intro v7 ev7
    have hv7 := congrArg Int32.toInt ev7
    refine And.intro (aBZ ⟨by omega, by omega⟩) ?_
    have f10 := aAT v7
    have e9 : ∀ k : Nat, k % 21 = 17 → -1 ≤ Int32.toInt ((upd xD v2.toNatClampNeg v7) k) ∧ Int32.toInt ((upd xD v2.toNatClampNeg v7) k) ≤ SB := aCJ (C := fun k => k % 21 = 17) aCE (fun hk => by have e9 : v2.toNatClampNeg = (Int32.toInt v2).toNat := rfl; have hk : v2.toNatClampNeg % 21 = 17 := hk; omega)
    have e11 : ∀ k : Nat, k % 21 = 19 → 0 ≤ Int32.toInt ((upd xD v2.toNatClampNeg v7) k) ∧ Int32.toInt ((upd xD v2.toNatClampNeg v7) k) ≤ 9 := aCJ (C := fun k => k % 21 = 19) aCF (fun hk => by have e9 : v2.toNatClampNeg = (Int32.toInt v2).toNat := rfl; have hk : v2.toNatClampNeg % 21 = 19 := hk; omega)
    intro v12 ev12
    have f13 : Int32.toInt (x3 + 1) = Int32.toInt x3 + Int32.toInt (1 : Int32) := aAD _ _ ⟨by omega, by omega⟩
    rw [← ev12] at f13
    exact hKn x2 v12 (upd xD v2.toNatClampNeg v7) aBN ⟨by omega, by omega⟩ e9 e11 hx0 (by omega)
set_option maxHeartbeats 8000000 in
set_option maxRecDepth 200000 in
theorem tb_X10_lay_b4_2 {post : (Nat → Int32) → Prop} {SB : Int} (qG : Nat → Int32) (xU : ∀ k : Nat, k = 17 → -1 ≤ Int32.toInt (qG k) ∧ Int32.toInt (qG k) ≤ SB) (xV : ∀ k : Nat, k = 19 → 0 ≤ Int32.toInt (qG k) ∧ Int32.toInt (qG k) ≤ 9) (hc0 : -1 ≤ SB ∧ SB ≤ 7) (hpost : ∀ (m_kept' : Nat → Int32), (∀ k : Nat, k % 21 = 17 → -1 ≤ Int32.toInt (m_kept' k) ∧ Int32.toInt (m_kept' k) ≤ SB) → (∀ k : Nat, k % 21 = 19 → 0 ≤ Int32.toInt (m_kept' k) ∧ Int32.toInt (m_kept' k) ≤ 9) → post m_kept') : ∀ (n : Nat) (x2 x3 : Int32) (xD : Nat → Int32), (0 ≤ Int32.toInt x2 ∧ Int32.toInt x2 ≤ 21) → (0 ≤ Int32.toInt x3 ∧ Int32.toInt x3 ≤ 21) → (∀ k : Nat, k % 21 = 17 → -1 ≤ Int32.toInt (xD k) ∧ Int32.toInt (xD k) ≤ SB) → (∀ k : Nat, k % 21 = 19 → 0 ≤ Int32.toInt (xD k) ∧ Int32.toInt (xD k) ≤ 9) → (Int32.toInt x2 % 21 = 0) → (21 - Int32.toInt x3 < (n : Int)) → wb_X10_lay_b4_2 post qG n x2 x3 xD := by
  intro n
  induction n with
  | zero =>
    intro x2 x3 xD aBN aCH aCE aCF hx0 hm
    exfalso; omega
  | succ n ih =>
    intro x2 x3 xD aBN aCH aCE aCF hx0 hm
    exact ts_X10_lay_b4_2 qG xU xV hc0 hpost ih x2 x3 xD aBN aCH aCE aCF hx0 (by omega)
set_option maxHeartbeats 8000000 in
set_option maxRecDepth 200000 in
theorem t_X10_lay_b4 {post : (Nat → Int32) → Prop} {SB : Int} {p2 : Int32} {qG xD : Nat → Int32} (h_p2 : 0 ≤ Int32.toInt p2 ∧ Int32.toInt p2 ≤ 21) (xU : ∀ k : Nat, k = 17 → -1 ≤ Int32.toInt (qG k) ∧ Int32.toInt (qG k) ≤ SB) (xV : ∀ k : Nat, k = 19 → 0 ≤ Int32.toInt (qG k) ∧ Int32.toInt (qG k) ≤ 9) (aCE : ∀ k : Nat, k % 21 = 17 → -1 ≤ Int32.toInt (xD k) ∧ Int32.toInt (xD k) ≤ SB) (aCF : ∀ k : Nat, k % 21 = 19 → 0 ≤ Int32.toInt (xD k) ∧ Int32.toInt (xD k) ≤ 9) (hc0 : -1 ≤ SB ∧ SB ≤ 7) (hx0 : Int32.toInt p2 % 21 = 0) (hpost : ∀ (m_kept' : Nat → Int32), (∀ k : Nat, k % 21 = 17 → -1 ≤ Int32.toInt (m_kept' k) ∧ Int32.toInt (m_kept' k) ≤ SB) → (∀ k : Nat, k % 21 = 19 → 0 ≤ Int32.toInt (m_kept' k) ∧ Int32.toInt (m_kept' k) ≤ 9) → post m_kept') : wp_X10_lay_b4 post p2 qG xD := by
  have l0 := aE0
  exact ⟨23, tb_X10_lay_b4_2 qG xU xV hc0 hpost _ p2 0 xD h_p2 ⟨by omega, by omega⟩ aCE aCF (by omega) (by omega)⟩
set_option maxHeartbeats 8000000 in
set_option maxRecDepth 200000 in
theorem t_X10_keep {post : Int32 → Int32 → (Nat → Int32) → (Nat → Int32) → (Nat → Int32) → Prop} {SB : Int} {p0 bY oX : Int32} {qG xD vJ uI : Nat → Int32} (yG : 0 ≤ Int32.toInt bY ∧ Int32.toInt bY ≤ 1) (xU : ∀ k : Nat, k = 17 → -1 ≤ Int32.toInt (qG k) ∧ Int32.toInt (qG k) ≤ SB) (xV : ∀ k : Nat, k = 19 → 0 ≤ Int32.toInt (qG k) ∧ Int32.toInt (qG k) ≤ 9) (aCE : ∀ k : Nat, k % 21 = 17 → -1 ≤ Int32.toInt (xD k) ∧ Int32.toInt (xD k) ≤ SB) (aCF : ∀ k : Nat, k % 21 = 19 → 0 ≤ Int32.toInt (xD k) ∧ Int32.toInt (xD k) ≤ 9) (aB5 : ∀ k : Nat, 0 ≤ Int32.toInt (vJ k) ∧ Int32.toInt (vJ k) ≤ 1) (hc0 : -1 ≤ SB ∧ SB ≤ 7) (hpost : ∀ (r : Int32) (xG : Int32) (m_kept' : Nat → Int32) (m_isKept' : Nat → Int32) (m_keptCame' : Nat → Int32), (0 ≤ Int32.toInt r ∧ Int32.toInt r ≤ 1) → (0 ≤ Int32.toInt xG ∧ Int32.toInt xG ≤ 0) → (∀ k : Nat, k % 21 = 17 → -1 ≤ Int32.toInt (m_kept' k) ∧ Int32.toInt (m_kept' k) ≤ SB) → (∀ k : Nat, k % 21 = 19 → 0 ≤ Int32.toInt (m_kept' k) ∧ Int32.toInt (m_kept' k) ≤ 9) → (∀ k : Nat, 0 ≤ Int32.toInt (m_isKept' k) ∧ Int32.toInt (m_isKept' k) ≤ 1) → ((0 ≤ Int32.toInt p0 ∧ Int32.toInt p0 ≤ 1 ∧ Int32.toInt r = 1) ∨ ((Int32.toInt p0 < 0 ∨ 1 < Int32.toInt p0) ∧ Int32.toInt r = 0)) → post r xG m_kept' m_isKept' m_keptCame') : wp_X10_keep post p0 bY oX qG xD vJ uI := by
  have l0 := aE0
  have l1 := aEc
  have l2 := li_21
  have f2 := aAT p0
  refine And.intro (fun c1 => ?_) (fun c1 => ?_)
  · skip
    have c1 := (aAd _ _).mp c1
    refine And.intro (fun h9 => absurd h9 (by decide)) (fun _ => ?_)
    exact hpost _ _ _ _ _ ⟨by omega, by omega⟩ ⟨by omega, by omega⟩ aCE aCF aB5 (by omega)
  · skip
    have c1 := mt (aAd _ _).mpr c1
    refine And.intro (fun c3 => ?_) (fun c3 => ?_)
    · skip
      have c3 := (aAd _ _).mp c3
      refine And.intro (fun h9 => absurd h9 (by decide)) (fun _ => ?_)
      exact hpost _ _ _ _ _ ⟨by omega, by omega⟩ ⟨by omega, by omega⟩ aCE aCF aB5 (by omega)
    · skip
      have c3 := mt (aAd _ _).mpr c3
      refine And.intro (fun _ => ?_) (fun h9 => absurd h9 (by decide))
      refine And.intro (aBZ ⟨by omega, by omega⟩) ?_
      have qa4 := ti_nar_boolean 1
      have a4 : ∀ k : Nat, 0 ≤ Int32.toInt ((upd vJ p0.toNatClampNeg (vp_nar .boolean 1)) k) ∧ Int32.toInt ((upd vJ p0.toNatClampNeg (vp_nar .boolean 1)) k) ≤ 1 := t_upd (fun k => by have q9 := aB5 k; omega) (by omega)
      refine And.intro (aBZ ⟨by omega, by omega⟩) ?_
      intro v5 ev5
      have f6 : Int32.toInt (21 * p0) = Int32.toInt p0 * 21 := ta_cmul _ _ (by decide) ⟨by omega, by omega⟩
      rw [← ev5] at f6
      refine t_X10_lay_b4 ⟨by omega, by omega⟩ xU xV aCE aCF (by omega) (by omega) (fun m_kept_7 e0_m_kept_7 e1_m_kept_7 => ?_)
      exact hpost _ _ _ _ _ ⟨by omega, by omega⟩ ⟨by omega, by omega⟩ e0_m_kept_7 e1_m_kept_7 (fun k => by have q9 := a4 k; omega) (by omega)
set_option maxHeartbeats 8000000 in
set_option maxRecDepth 200000 in
theorem ts_X10_again_40 {post : Int32 → Int32 → Int32 → (Nat → Int32) → Prop} {SB : Int} {next : Int32 → Int32 → Int32 → Int32 → (Nat → Int32) → Prop} {n40 : Int} (oX : Int32) (xD vJ uI : Nat → Int32) (aCE : ∀ k : Nat, k % 21 = 17 → -1 ≤ Int32.toInt (xD k) ∧ Int32.toInt (xD k) ≤ SB) (aCF : ∀ k : Nat, k % 21 = 19 → 0 ≤ Int32.toInt (xD k) ∧ Int32.toInt (xD k) ≤ 9) (aB5 : ∀ k : Nat, 0 ≤ Int32.toInt (vJ k) ∧ Int32.toInt (vJ k) ≤ 1) (hc0 : -1 ≤ SB ∧ SB ≤ 7) (hpost : ∀ (r : Int32) (xG : Int32) (aBI : Int32) (aBf : Nat → Int32), (0 ≤ Int32.toInt r ∧ Int32.toInt r ≤ 1) → (0 ≤ Int32.toInt xG ∧ Int32.toInt xG ≤ 0) → (0 ≤ Int32.toInt aBI ∧ Int32.toInt aBI ≤ 12) → (∀ k : Nat, k = 17 → -1 ≤ Int32.toInt (aBf k) ∧ Int32.toInt (aBf k) ≤ SB) → (∀ k : Nat, k = 19 → 0 ≤ Int32.toInt (aBf k) ∧ Int32.toInt (aBf k) ≤ 9) → post r xG aBI aBf) (hKn : ∀ (x1 : Int32) (x2 : Int32) (bY : Int32) (bU : Int32) (qG : Nat → Int32), (0 ≤ Int32.toInt x1 ∧ Int32.toInt x1 ≤ 1) → (0 ≤ Int32.toInt x2 ∧ Int32.toInt x2 ≤ 21) → (0 ≤ Int32.toInt bY ∧ Int32.toInt bY ≤ 0) → (0 ≤ Int32.toInt bU ∧ Int32.toInt bU ≤ 12) → (∀ k : Nat, k = 17 → -1 ≤ Int32.toInt (qG k) ∧ Int32.toInt (qG k) ≤ SB) → (∀ k : Nat, k = 19 → 0 ≤ Int32.toInt (qG k) ∧ Int32.toInt (qG k) ≤ 9) → (21 - Int32.toInt x2 < n40) → next x1 x2 bY bU qG) (x1 x2 bY bU : Int32) (qG : Nat → Int32) (aBK : 0 ≤ Int32.toInt x1 ∧ Int32.toInt x1 ≤ 1) (aBN : 0 ≤ Int32.toInt x2 ∧ Int32.toInt x2 ≤ 21) (yG : 0 ≤ Int32.toInt bY ∧ Int32.toInt bY ≤ 0) (aAZ : 0 ≤ Int32.toInt bU ∧ Int32.toInt bU ≤ 12) (xU : ∀ k : Nat, k = 17 → -1 ≤ Int32.toInt (qG k) ∧ Int32.toInt (qG k) ≤ SB) (xV : ∀ k : Nat, k = 19 → 0 ≤ Int32.toInt (qG k) ∧ Int32.toInt (qG k) ≤ 9) (hn40 : 21 - Int32.toInt x2 ≤ n40) : ws_X10_again_40 post next oX xD vJ uI x1 x2 bY bU qG := by
  have l0 := aE0
  have l1 := aEc
  have l2 := li_21
  refine And.intro (fun c1 => ?_) (fun c1 => ?_)
  · skip
    have c1 := (aAO _ _).mp c1
    exact hpost _ _ _ _ ⟨by omega, by omega⟩ yG ⟨by omega, by omega⟩ xU xV
  · skip
    have c1 := mt (aAO _ _).mpr c1
    intro v2 ev2
    have f3 : Int32.toInt (21 * x1) = Int32.toInt x1 * 21 := ta_cmul _ _ (by decide) ⟨by omega, by omega⟩
    rw [← ev2] at f3
    intro v4 ev4
    have f5 : Int32.toInt (v2 + x2) = Int32.toInt v2 + Int32.toInt x2 := aAD _ _ ⟨by omega, by omega⟩
    rw [← ev4] at f5
    refine And.intro (aBZ ⟨by omega, by omega⟩) ?_
    have q6 := aCE v4.toNatClampNeg
    have q7 := aCF v4.toNatClampNeg
    have q8 : v4.toNatClampNeg = (Int32.toInt v4).toNat := rfl
    intro v9 ev9
    have hv9 := congrArg Int32.toInt ev9
    refine And.intro (aBZ ⟨by omega, by omega⟩) ?_
    have f12 := aAT v9
    have e11 : ∀ k : Nat, k = 17 → -1 ≤ Int32.toInt ((upd qG x2.toNatClampNeg v9) k) ∧ Int32.toInt ((upd qG x2.toNatClampNeg v9) k) ≤ SB := aCJ (C := fun k => k = 17) xU (fun hk => by have e9 : x2.toNatClampNeg = (Int32.toInt x2).toNat := rfl; have hk : x2.toNatClampNeg = 17 := hk; omega)
    have e13 : ∀ k : Nat, k = 19 → 0 ≤ Int32.toInt ((upd qG x2.toNatClampNeg v9) k) ∧ Int32.toInt ((upd qG x2.toNatClampNeg v9) k) ≤ 9 := aCJ (C := fun k => k = 19) xV (fun hk => by have e9 : x2.toNatClampNeg = (Int32.toInt x2).toNat := rfl; have hk : x2.toNatClampNeg = 19 := hk; omega)
    intro v14 ev14
    have f15 : Int32.toInt (x2 + 1) = Int32.toInt x2 + Int32.toInt (1 : Int32) := aAD _ _ ⟨by omega, by omega⟩
    rw [← ev14] at f15
    exact hKn x1 v14 bY bU (upd qG x2.toNatClampNeg v9) aBK ⟨by omega, by omega⟩ yG aAZ e11 e13 (by omega)
set_option maxHeartbeats 8000000 in
set_option maxRecDepth 200000 in
theorem tb_X10_again_40 {post : Int32 → Int32 → Int32 → (Nat → Int32) → Prop} {SB : Int} (oX : Int32) (xD vJ uI : Nat → Int32) (aCE : ∀ k : Nat, k % 21 = 17 → -1 ≤ Int32.toInt (xD k) ∧ Int32.toInt (xD k) ≤ SB) (aCF : ∀ k : Nat, k % 21 = 19 → 0 ≤ Int32.toInt (xD k) ∧ Int32.toInt (xD k) ≤ 9) (aB5 : ∀ k : Nat, 0 ≤ Int32.toInt (vJ k) ∧ Int32.toInt (vJ k) ≤ 1) (hc0 : -1 ≤ SB ∧ SB ≤ 7) (hpost : ∀ (r : Int32) (xG : Int32) (aBI : Int32) (aBf : Nat → Int32), (0 ≤ Int32.toInt r ∧ Int32.toInt r ≤ 1) → (0 ≤ Int32.toInt xG ∧ Int32.toInt xG ≤ 0) → (0 ≤ Int32.toInt aBI ∧ Int32.toInt aBI ≤ 12) → (∀ k : Nat, k = 17 → -1 ≤ Int32.toInt (aBf k) ∧ Int32.toInt (aBf k) ≤ SB) → (∀ k : Nat, k = 19 → 0 ≤ Int32.toInt (aBf k) ∧ Int32.toInt (aBf k) ≤ 9) → post r xG aBI aBf) : ∀ (n : Nat) (x1 x2 bY bU : Int32) (qG : Nat → Int32), (0 ≤ Int32.toInt x1 ∧ Int32.toInt x1 ≤ 1) → (0 ≤ Int32.toInt x2 ∧ Int32.toInt x2 ≤ 21) → (0 ≤ Int32.toInt bY ∧ Int32.toInt bY ≤ 0) → (0 ≤ Int32.toInt bU ∧ Int32.toInt bU ≤ 12) → (∀ k : Nat, k = 17 → -1 ≤ Int32.toInt (qG k) ∧ Int32.toInt (qG k) ≤ SB) → (∀ k : Nat, k = 19 → 0 ≤ Int32.toInt (qG k) ∧ Int32.toInt (qG k) ≤ 9) → (21 - Int32.toInt x2 < (n : Int)) → wb_X10_again_40 post oX xD vJ uI n x1 x2 bY bU qG := by
  intro n
  induction n with
  | zero =>
    intro x1 x2 bY bU qG aBK aBN yG aAZ xU xV hm
    exfalso; omega
  | succ n ih =>
    intro x1 x2 bY bU qG aBK aBN yG aAZ xU xV hm
    exact ts_X10_again_40 oX xD vJ uI aCE aCF aB5 hc0 hpost ih x1 x2 bY bU qG aBK aBN yG aAZ xU xV (by omega)
set_option maxHeartbeats 8000000 in
set_option maxRecDepth 200000 in
theorem t_X10_again {post : Int32 → Int32 → Int32 → (Nat → Int32) → Prop} {SB : Int} {p0 bY bU oX : Int32} {qG xD vJ uI : Nat → Int32} (yG : 0 ≤ Int32.toInt bY ∧ Int32.toInt bY ≤ 1) (aAZ : 0 ≤ Int32.toInt bU ∧ Int32.toInt bU ≤ 12) (xU : ∀ k : Nat, k = 17 → -1 ≤ Int32.toInt (qG k) ∧ Int32.toInt (qG k) ≤ SB) (xV : ∀ k : Nat, k = 19 → 0 ≤ Int32.toInt (qG k) ∧ Int32.toInt (qG k) ≤ 9) (aCE : ∀ k : Nat, k % 21 = 17 → -1 ≤ Int32.toInt (xD k) ∧ Int32.toInt (xD k) ≤ SB) (aCF : ∀ k : Nat, k % 21 = 19 → 0 ≤ Int32.toInt (xD k) ∧ Int32.toInt (xD k) ≤ 9) (aB5 : ∀ k : Nat, 0 ≤ Int32.toInt (vJ k) ∧ Int32.toInt (vJ k) ≤ 1) (hc0 : -1 ≤ SB ∧ SB ≤ 7) (hpost : ∀ (r : Int32) (xG : Int32) (aBI : Int32) (aBf : Nat → Int32), (0 ≤ Int32.toInt r ∧ Int32.toInt r ≤ 1) → (0 ≤ Int32.toInt xG ∧ Int32.toInt xG ≤ 0) → (0 ≤ Int32.toInt aBI ∧ Int32.toInt aBI ≤ 12) → (∀ k : Nat, k = 17 → -1 ≤ Int32.toInt (aBf k) ∧ Int32.toInt (aBf k) ≤ SB) → (∀ k : Nat, k = 19 → 0 ≤ Int32.toInt (aBf k) ∧ Int32.toInt (aBf k) ≤ 9) → post r xG aBI aBf) : wp_X10_again post p0 bY bU oX qG xD vJ uI := by
  have l0 := aE0
  have l1 := aEc
  have f17 := aAT p0
  refine And.intro (fun c16 => ?_) (fun c16 => ?_)
  · skip
    have c16 := (aAd _ _).mp c16
    refine And.intro (fun _ => ?_) (fun h9 => absurd h9 (by decide))
    exact hpost _ _ _ _ ⟨by omega, by omega⟩ ⟨by omega, by omega⟩ aAZ xU xV
  · skip
    have c16 := mt (aAd _ _).mpr c16
    refine And.intro (fun c18 => ?_) (fun c18 => ?_)
    · skip
      have c18 := (aAd _ _).mp c18
      refine And.intro (fun _ => ?_) (fun h9 => absurd h9 (by decide))
      exact hpost _ _ _ _ ⟨by omega, by omega⟩ ⟨by omega, by omega⟩ aAZ xU xV
    · skip
      have c18 := mt (aAd _ _).mpr c18
      refine And.intro (fun h9 => absurd h9 (by decide)) (fun _ => ?_)
      refine And.intro (aBZ ⟨by omega, by omega⟩) ?_
      have f20 := aB5 p0.toNatClampNeg
      refine And.intro (fun c19 => ?_) (fun c19 => ?_)
      · skip
        have c19 := (zJ _ _).mp c19
        exact hpost _ _ _ _ ⟨by omega, by omega⟩ ⟨by omega, by omega⟩ aAZ xU xV
      · skip
        have c19 := mt (zJ _ _).mpr c19
        refine And.intro (aBZ ⟨by omega, by omega⟩) ?_
        intro v21 ev21
        have hv21 := congrArg Int32.toInt ev21
        have f24 := aAT v21
        have f25 := aAT oX
        refine And.intro (fun c23 => ?_) (fun c23 => ?_)
        · skip
          have c23 := (zJ _ _).mp c23
          exact ⟨23, tb_X10_again_40 oX xD vJ uI aCE aCF aB5 hc0 hpost _ p0 0 0 bU qG ⟨by omega, by omega⟩ ⟨by omega, by omega⟩ ⟨by omega, by omega⟩ aAZ xU xV (by omega)⟩
        · skip
          have c23 := mt (zJ _ _).mpr c23
          exact hpost _ _ _ _ ⟨by omega, by omega⟩ ⟨by omega, by omega⟩ aAZ xU xV
set_option maxHeartbeats 8000000 in
set_option maxRecDepth 200000 in
theorem ts_X10_count_110 {post : Int32 → Int32 → Prop} {SB : Int} (bT aG jC bL bU : Int32) (qG pW : Nat → Int32) (xJ : 0 ≤ Int32.toInt bT ∧ Int32.toInt bT ≤ 16) (vZ : 0 ≤ Int32.toInt aG ∧ Int32.toInt aG ≤ 8) (aA4 : 0 ≤ Int32.toInt jC ∧ Int32.toInt jC ≤ 80) (yJ : 0 ≤ Int32.toInt bL ∧ Int32.toInt bL ≤ 16) (aAZ : 0 ≤ Int32.toInt bU ∧ Int32.toInt bU ≤ 12) (xU : ∀ k : Nat, k = 17 → -1 ≤ Int32.toInt (qG k) ∧ Int32.toInt (qG k) ≤ SB) (xV : ∀ k : Nat, k = 19 → 0 ≤ Int32.toInt (qG k) ∧ Int32.toInt (qG k) ≤ 9) (yR : ∀ k : Nat, 0 ≤ Int32.toInt (pW k) ∧ Int32.toInt (pW k) ≤ 9) (hc0 : -1 ≤ SB ∧ SB ≤ 7) (hc1 : (Int32.toInt aG ≤ 0 ∧ SB = 0) ∨ (1 ≤ Int32.toInt aG ∧ SB = Int32.toInt aG - 1)) (hpost : ∀ (r : Int32) (xG : Int32), (0 ≤ Int32.toInt xG ∧ Int32.toInt xG ≤ 0) → post r xG) (x1 bY : Int32) (aBK : 5 ≤ Int32.toInt x1 ∧ Int32.toInt x1 ≤ 8) (yG : 0 ≤ Int32.toInt bY ∧ Int32.toInt bY ≤ 0) : ws_X10_count_110 post bT aG jC bL bU qG pW x1 bY := by
  have l0 := li_5
  intro v1 ev1
  have f2 : Int32.toInt (x1 - 5) = Int32.toInt x1 - Int32.toInt (5 : Int32) := aCA _ _ ⟨by omega, by omega⟩
  rw [← ev1] at f2
  refine aKO ⟨by omega, by omega⟩ xJ xU xV (by omega) (fun r3 h_r3 ox4 => ?_)
  exact hpost _ _ yG
set_option maxHeartbeats 8000000 in
set_option maxRecDepth 200000 in
theorem t_X10_count {post : Int32 → Int32 → Prop} {SB : Int} {p0 bT aG jC bL bY bU : Int32} {qG pW : Nat → Int32} (xJ : 0 ≤ Int32.toInt bT ∧ Int32.toInt bT ≤ 16) (vZ : 0 ≤ Int32.toInt aG ∧ Int32.toInt aG ≤ 8) (aA4 : 0 ≤ Int32.toInt jC ∧ Int32.toInt jC ≤ 80) (yJ : 0 ≤ Int32.toInt bL ∧ Int32.toInt bL ≤ 16) (yG : 0 ≤ Int32.toInt bY ∧ Int32.toInt bY ≤ 1) (aAZ : 0 ≤ Int32.toInt bU ∧ Int32.toInt bU ≤ 12) (xU : ∀ k : Nat, k = 17 → -1 ≤ Int32.toInt (qG k) ∧ Int32.toInt (qG k) ≤ SB) (xV : ∀ k : Nat, k = 19 → 0 ≤ Int32.toInt (qG k) ∧ Int32.toInt (qG k) ≤ 9) (yR : ∀ k : Nat, 0 ≤ Int32.toInt (pW k) ∧ Int32.toInt (pW k) ≤ 9) (hc0 : -1 ≤ SB ∧ SB ≤ 7) (hc1 : (Int32.toInt aG ≤ 0 ∧ SB = 0) ∨ (1 ≤ Int32.toInt aG ∧ SB = Int32.toInt aG - 1)) (hpost : ∀ (r : Int32) (xG : Int32), (0 ≤ Int32.toInt xG ∧ Int32.toInt xG ≤ 0) → post r xG) : wp_X10_count post p0 bT aG jC bL bY bU qG pW := by
  have l0 := aE0
  have l1 := aEc
  have l2 := li_10
  have l3 := li_11
  have l4 := li_12
  have l5 := li_13
  have l6 := li_16
  have l7 := li_17
  have l8 := li_19
  have l9 := li_2
  have l10 := li_20
  have l11 := li_3
  have l12 := li_4
  have l13 := li_5
  have l14 := li_6
  have l15 := li_7
  have l16 := li_8
  have l17 := li_9
  have f5 := aAT p0
  refine And.intro (fun c6 => ?_) ?_
  · skip
    have c6 := (zJ _ _).mp c6
    exact hpost _ _ ⟨by omega, by omega⟩
  refine And.intro (fun c7 => ?_) ?_
  · skip
    have c7 := (zJ _ _).mp c7
    exact hpost _ _ ⟨by omega, by omega⟩
  refine And.intro (fun c8 => ?_) ?_
  · skip
    have c8 := (zJ _ _).mp c8
    have q9 := xU (17 : Int32).toNatClampNeg (by have e9 : (17 : Int32).toNatClampNeg = (Int32.toInt (17 : Int32)).toNat := rfl; omega)
    exact hpost _ _ ⟨by omega, by omega⟩
  refine And.intro (fun c10 => ?_) ?_
  · skip
    have c10 := (zJ _ _).mp c10
    have q11 := xV (19 : Int32).toNatClampNeg (by have e9 : (19 : Int32).toNatClampNeg = (Int32.toInt (19 : Int32)).toNat := rfl; omega)
    exact hpost _ _ ⟨by omega, by omega⟩
  refine And.intro (fun c12 => ?_) ?_
  · skip
    have c12 := (zJ _ _).mp c12
    exact hpost _ _ ⟨by omega, by omega⟩
  refine And.intro (fun c13 => ?_) ?_
  · skip
    have c13 := (zJ _ _).mp c13
    exact ts_X10_count_110 bT aG jC bL bU qG pW xJ vZ aA4 yJ aAZ xU xV yR hc0 hc1 hpost p0 0 ⟨by omega, by omega⟩ ⟨by omega, by omega⟩
  refine And.intro (fun c14 => ?_) ?_
  · skip
    have c14 := (zJ _ _).mp c14
    exact ts_X10_count_110 bT aG jC bL bU qG pW xJ vZ aA4 yJ aAZ xU xV yR hc0 hc1 hpost p0 0 ⟨by omega, by omega⟩ ⟨by omega, by omega⟩
  refine And.intro (fun c15 => ?_) ?_
  · skip
    have c15 := (zJ _ _).mp c15
    exact ts_X10_count_110 bT aG jC bL bU qG pW xJ vZ aA4 yJ aAZ xU xV yR hc0 hc1 hpost p0 0 ⟨by omega, by omega⟩ ⟨by omega, by omega⟩
  refine And.intro (fun c16 => ?_) ?_
  · skip
    have c16 := (zJ _ _).mp c16
    exact ts_X10_count_110 bT aG jC bL bU qG pW xJ vZ aA4 yJ aAZ xU xV yR hc0 hc1 hpost p0 0 ⟨by omega, by omega⟩ ⟨by omega, by omega⟩
  refine And.intro (fun c17 => ?_) ?_
  · skip
    have c17 := (zJ _ _).mp c17
    exact hpost _ _ ⟨by omega, by omega⟩
  refine And.intro (fun c18 => ?_) ?_
  · skip
    have c18 := (zJ _ _).mp c18
    refine aKO ⟨by omega, by omega⟩ xJ xU xV (by omega) (fun r19 h_r19 ox20 => ?_)
    intro v21 ev21
    have hv21 := congrArg Int32.toInt ev21
    refine aNU h_r19 xJ yR (fun r23 => ?_)
    exact hpost _ _ ⟨by omega, by omega⟩
  refine And.intro (fun c24 => ?_) ?_
  · skip
    have c24 := (zJ _ _).mp c24
    exact hpost _ _ ⟨by omega, by omega⟩
  refine And.intro (fun c25 => ?_) ?_
  · skip
    have c25 := (zJ _ _).mp c25
    exact hpost _ _ ⟨by omega, by omega⟩
  refine And.intro (fun c26 => ?_) ?_
  · skip
    have c26 := (zJ _ _).mp c26
    exact hpost _ _ ⟨by omega, by omega⟩
  intro c27 c28 c29 c30 c31 c32 c33 c34 c35 c36 c37 c38 c39 c40
  have c27 := mt (zJ _ _).mpr c27
  have c28 := mt (zJ _ _).mpr c28
  have c29 := mt (zJ _ _).mpr c29
  have c30 := mt (zJ _ _).mpr c30
  have c31 := mt (zJ _ _).mpr c31
  have c32 := mt (zJ _ _).mpr c32
  have c33 := mt (zJ _ _).mpr c33
  have c34 := mt (zJ _ _).mpr c34
  have c35 := mt (zJ _ _).mpr c35
  have c36 := mt (zJ _ _).mpr c36
  have c37 := mt (zJ _ _).mpr c37
  have c38 := mt (zJ _ _).mpr c38
  have c39 := mt (zJ _ _).mpr c39
  have c40 := mt (zJ _ _).mpr c40
  exact hpost _ _ ⟨by omega, by omega⟩
set_option maxHeartbeats 8000000 in
set_option maxRecDepth 200000 in
theorem t_X10_row {post : Int32 → Int32 → Prop} {p0 bL bY : Int32} {sW : Nat → Int32} (yJ : 0 ≤ Int32.toInt bL ∧ Int32.toInt bL ≤ 16) (yG : 0 ≤ Int32.toInt bY ∧ Int32.toInt bY ≤ 1) (hpost : ∀ (r : Int32) (xG : Int32), (0 ≤ Int32.toInt xG ∧ Int32.toInt xG ≤ 1) → post r xG) : wp_X10_row post p0 bL bY sW := by
  have l0 := aE0
  have l1 := aEc
  intro v1 ev1
  have f2 : Int32.toInt (bL - 1) = Int32.toInt bL - Int32.toInt (1 : Int32) := aCA _ _ ⟨by omega, by omega⟩
  rw [← ev1] at f2
  have f4 := aAT p0
  refine And.intro (fun c3 => ?_) (fun c3 => ?_)
  · skip
    have c3 := (aAd _ _).mp c3
    refine And.intro (fun _ => ?_) (fun h9 => absurd h9 (by decide))
    exact hpost _ _ ⟨by omega, by omega⟩
  · skip
    have c3 := mt (aAd _ _).mpr c3
    refine And.intro (fun c5 => ?_) (fun c5 => ?_)
    · skip
      have c5 := (aAd _ _).mp c5
      refine And.intro (fun _ => ?_) (fun h9 => absurd h9 (by decide))
      exact hpost _ _ ⟨by omega, by omega⟩
    · skip
      have c5 := mt (aAd _ _).mpr c5
      refine And.intro (fun h9 => absurd h9 (by decide)) (fun _ => ?_)
      refine And.intro (aBZ ⟨by omega, by omega⟩) ?_
      intro v6 ev6
      have hv6 := congrArg Int32.toInt ev6
      exact hpost _ _ ⟨by omega, by omega⟩
