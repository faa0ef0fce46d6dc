set_option maxHeartbeats 8000000 in
set_option maxRecDepth 200000 in
theorem ts_X10_hooked_107 {post : Int32 → Int32 → Int32 → Int32 → (Nat → Int32) → (Nat → Int32) → Prop} {SB : Int} {K52 : Int32 → Int32 → Int32 → Int32 → Int32 → Int32 → Int32 → Int32 → (Nat → Int32) → (Nat → Int32) → Prop} {n52 : Int} (bT aG : Int32) (qG m_x gR qR nG oO pJ : Nat → Int32) (xJ : 0 ≤ Int32.toInt bT ∧ Int32.toInt bT ≤ 16) (vZ : 0 ≤ Int32.toInt aG ∧ Int32.toInt aG ≤ 8) (xU : ∀ k : Nat, k = 17 → -1 ≤ Int32.toInt (qG k) ∧ Int32.toInt (qG k) ≤ SB) (xV : ∀ k : Nat, k = 19 → 0 ≤ Int32.toInt (qG k) ∧ Int32.toInt (qG k) ≤ 9) (aAW : ∀ k : Nat, 0 ≤ Int32.toInt (m_x k) ∧ Int32.toInt (m_x k) ≤ 99) (xK : ∀ k : Nat, 0 ≤ Int32.toInt (gR k) ∧ Int32.toInt (gR k) ≤ 99) (zM : ∀ k : Nat, 0 ≤ Int32.toInt (qR k) ∧ Int32.toInt (qR k) ≤ 9) (xT : ∀ k : Nat, 0 ≤ Int32.toInt (nG k) ∧ Int32.toInt (nG k) ≤ 99) (yF : ∀ k : Nat, 0 ≤ Int32.toInt (oO k) ∧ Int32.toInt (oO k) ≤ 99) (yD : ∀ k : Nat, k = 4 → 1 ≤ Int32.toInt (pJ k) ∧ Int32.toInt (pJ k) ≤ 30) (xZ : ∀ k : Nat, k = 3 → 0 ≤ Int32.toInt (pJ k) ∧ Int32.toInt (pJ k) ≤ 9) (hc0 : -1 ≤ SB ∧ SB ≤ 7) (hc1 : (Int32.toInt aG ≤ 0 ∧ SB = 0) ∨ (1 ≤ Int32.toInt aG ∧ SB = Int32.toInt aG - 1)) (hpost : ∀ (r : Int32) (xM : Int32) (xG : Int32) (aAS : Int32) (aBX : Nat → Int32) (aA5 : Nat → Int32), (0 ≤ Int32.toInt r ∧ Int32.toInt r ≤ 65535) → (2 ≤ Int32.toInt xM ∧ Int32.toInt xM ≤ 2) → (0 ≤ Int32.toInt xG ∧ Int32.toInt xG ≤ 0) → (0 ≤ Int32.toInt aAS ∧ Int32.toInt aAS ≤ 65535) → (∀ k : Nat, 0 ≤ Int32.toInt (aA5 k) ∧ Int32.toInt (aA5 k) ≤ 65535) → post r xM xG aAS aBX aA5) (hK52 : ∀ (x1 : Int32) (x2 : Int32) (x3 : Int32) (x4 : Int32) (x5 : Int32) (bL : Int32) (bY : Int32) (dO : Int32) (sW : Nat → Int32) (sH : Nat → Int32), (0 ≤ Int32.toInt x1 ∧ Int32.toInt x1 ≤ 65535) → (0 ≤ Int32.toInt x2 ∧ Int32.toInt x2 ≤ 65535) → (-1 ≤ Int32.toInt x3 ∧ Int32.toInt x3 ≤ 7) → (0 ≤ Int32.toInt x4 ∧ Int32.toInt x4 ≤ 63) → (0 ≤ Int32.toInt x5 ∧ Int32.toInt x5 ≤ 8) → (0 ≤ Int32.toInt bL ∧ Int32.toInt bL ≤ 16) → (0 ≤ Int32.toInt bY ∧ Int32.toInt bY ≤ 0) → (0 ≤ Int32.toInt dO ∧ Int32.toInt dO ≤ 65535) → (∀ k : Nat, 0 ≤ Int32.toInt (sH k) ∧ Int32.toInt (sH k) ≤ 65535) → (8 - Int32.toInt x5 < n52) → K52 x1 x2 x3 x4 x5 bL bY dO sW sH) (x1 x2 x3 x4 x5 bL bY dO : Int32) (sW sH : Nat → Int32) (aBK : 0 ≤ Int32.toInt x1 ∧ Int32.toInt x1 ≤ 65535) (aBN : 0 ≤ Int32.toInt x2 ∧ Int32.toInt x2 ≤ 65535) (aCH : -1 ≤ Int32.toInt x3 ∧ Int32.toInt x3 ≤ 7) (aDO : 0 ≤ Int32.toInt x4 ∧ Int32.toInt x4 ≤ 63) (aF7 : 0 ≤ Int32.toInt x5 ∧ Int32.toInt x5 ≤ 7) (yJ : 0 ≤ Int32.toInt bL ∧ Int32.toInt bL ≤ 16) (yG : 0 ≤ Int32.toInt bY ∧ Int32.toInt bY ≤ 0) (aAH : 0 ≤ Int32.toInt dO ∧ Int32.toInt dO ≤ 65535) (zY : ∀ k : Nat, 0 ≤ Int32.toInt (sH k) ∧ Int32.toInt (sH k) ≤ 65535) (hn52 : 8 - Int32.toInt x5 ≤ n52) : ws_X10_hooked_107 post K52 bT aG qG m_x gR qR nG oO pJ x1 x2 x3 x4 x5 bL bY dO sW sH := by
  have l0 := aEc
  intro v1 ev1
  have f2 : Int32.toInt (x5 + 1) = Int32.toInt x5 + Int32.toInt (1 : Int32) := aAD _ _ (by omega)
  rw [← ev1] at f2
  exact hK52 x1 x2 x3 x4 v1 bL bY dO sW sH aBK aBN aCH aDO (by omega) yJ yG aAH zY (by omega)
set_option maxHeartbeats 8000000 in
set_option maxRecDepth 200000 in
theorem ts_X10_hooked_52 {post : Int32 → Int32 → Int32 → Int32 → (Nat → Int32) → (Nat → Int32) → Prop} {SB : Int} {next : Int32 → Int32 → Int32 → Int32 → Int32 → Int32 → Int32 → Int32 → (Nat → Int32) → (Nat → Int32) → Prop} {n52 : Int} (bT aG : Int32) (qG m_x gR qR nG oO pJ : Nat → Int32) (xJ : 0 ≤ Int32.toInt bT ∧ Int32.toInt bT ≤ 16) (vZ : 0 ≤ Int32.toInt aG ∧ Int32.toInt aG ≤ 8) (xU : ∀ k : Nat, k = 17 → -1 ≤ Int32.toInt (qG k) ∧ Int32.toInt (qG k) ≤ SB) (xV : ∀ k : Nat, k = 19 → 0 ≤ Int32.toInt (qG k) ∧ Int32.toInt (qG k) ≤ 9) (aAW : ∀ k : Nat, 0 ≤ Int32.toInt (m_x k) ∧ Int32.toInt (m_x k) ≤ 99) (xK : ∀ k : Nat, 0 ≤ Int32.toInt (gR k) ∧ Int32.toInt (gR k) ≤ 99) (zM : ∀ k : Nat, 0 ≤ Int32.toInt (qR k) ∧ Int32.toInt (qR k) ≤ 9) (xT : ∀ k : Nat, 0 ≤ Int32.toInt (nG k) ∧ Int32.toInt (nG k) ≤ 99) (yF : ∀ k : Nat, 0 ≤ Int32.toInt (oO k) ∧ Int32.toInt (oO k) ≤ 99) (yD : ∀ k : Nat, k = 4 → 1 ≤ Int32.toInt (pJ k) ∧ Int32.toInt (pJ k) ≤ 30) (xZ : ∀ k : Nat, k = 3 → 0 ≤ Int32.toInt (pJ k) ∧ Int32.toInt (pJ k) ≤ 9) (hc0 : -1 ≤ SB ∧ SB ≤ 7) (hc1 : (Int32.toInt aG ≤ 0 ∧ SB = 0) ∨ (1 ≤ Int32.toInt aG ∧ SB = Int32.toInt aG - 1)) (hpost : ∀ (r : Int32) (xM : Int32) (xG : Int32) (aAS : Int32) (aBX : Nat → Int32) (aA5 : Nat → Int32), (0 ≤ Int32.toInt r ∧ Int32.toInt r ≤ 65535) → (2 ≤ Int32.toInt xM ∧ Int32.toInt xM ≤ 2) → (0 ≤ Int32.toInt xG ∧ Int32.toInt xG ≤ 0) → (0 ≤ Int32.toInt aAS ∧ Int32.toInt aAS ≤ 65535) → (∀ k : Nat, 0 ≤ Int32.toInt (aA5 k) ∧ Int32.toInt (aA5 k) ≤ 65535) → post r xM xG aAS aBX aA5) (hKn : ∀ (x1 : Int32) (x2 : Int32) (x3 : Int32) (x4 : Int32) (x5 : Int32) (bL : Int32) (bY : Int32) (dO : Int32) (sW : Nat → Int32) (sH : Nat → Int32), (0 ≤ Int32.toInt x1 ∧ Int32.toInt x1 ≤ 65535) → (0 ≤ Int32.toInt x2 ∧ Int32.toInt x2 ≤ 65535) → (-1 ≤ Int32.toInt x3 ∧ Int32.toInt x3 ≤ 7) → (0 ≤ Int32.toInt x4 ∧ Int32.toInt x4 ≤ 63) → (0 ≤ Int32.toInt x5 ∧ Int32.toInt x5 ≤ 8) → (0 ≤ Int32.toInt bL ∧ Int32.toInt bL ≤ 16) → (0 ≤ Int32.toInt bY ∧ Int32.toInt bY ≤ 0) → (0 ≤ Int32.toInt dO ∧ Int32.toInt dO ≤ 65535) → (∀ k : Nat, 0 ≤ Int32.toInt (sH k) ∧ Int32.toInt (sH k) ≤ 65535) → (8 - Int32.toInt x5 < n52) → next x1 x2 x3 x4 x5 bL bY dO sW sH) (x1 x2 x3 x4 x5 bL bY dO : Int32) (sW sH : Nat → Int32) (aBK : 0 ≤ Int32.toInt x1 ∧ Int32.toInt x1 ≤ 65535) (aBN : 0 ≤ Int32.toInt x2 ∧ Int32.toInt x2 ≤ 65535) (aCH : -1 ≤ Int32.toInt x3 ∧ Int32.toInt x3 ≤ 7) (aDO : 0 ≤ Int32.toInt x4 ∧ Int32.toInt x4 ≤ 63) (aF7 : 0 ≤ Int32.toInt x5 ∧ Int32.toInt x5 ≤ 8) (yJ : 0 ≤ Int32.toInt bL ∧ Int32.toInt bL ≤ 16) (yG : 0 ≤ Int32.toInt bY ∧ Int32.toInt bY ≤ 0) (aAH : 0 ≤ Int32.toInt dO ∧ Int32.toInt dO ≤ 65535) (zY : ∀ k : Nat, 0 ≤ Int32.toInt (sH k) ∧ Int32.toInt (sH k) ≤ 65535) (hn52 : 8 - Int32.toInt x5 ≤ n52) : ws_X10_hooked_52 post next bT aG qG m_x gR qR nG oO pJ x1 x2 x3 x4 x5 bL bY dO sW sH := by
  have l0 := aE0
  have l1 := aEc
  have l2 := aKH
  have l3 := li_18
  have l4 := aJ8
  have l5 := li_63
  have l6 := aJ9
  refine And.intro (fun c3 => ?_) (fun c3 => ?_)
  · skip
    have c3 := (aAO _ _).mp c3
    refine And.intro (aBZ (by omega)) ?_
    intro v4 ev4
    have f5 : Int32.toInt (0 + 1) = Int32.toInt (0 : Int32) + Int32.toInt (1 : Int32) := aAD _ _ (by omega)
    rw [← ev4] at f5
    refine And.intro (aBZ (by omega)) ?_
    intro v6 ev6
    have f7 : Int32.toInt (v4 + 1) = Int32.toInt v4 + Int32.toInt (1 : Int32) := aAD _ _ (by omega)
    rw [← ev6] at f7
    exact hpost _ _ _ _ _ _ aBN (by omega) yG aAH zY
  · skip
    have c3 := mt (aAO _ _).mpr c3
    intro v8 ev8
    have hv8 := congrArg Int32.toInt ev8
    refine aX7 (by omega) (by omega) xJ aAW xK xT yF yD xZ (fun r10 h_r10 => ?_)
    intro v11 ev11
    have f12 := aAQ x1 r10 (by omega)
    have f13 := aBx x1 r10 (by omega)
    have hv11 := congrArg Int32.toInt ev11
    intro v14 ev14
    have f15 := ti_or 16 65536 x2 v11 (by decide) (by omega) (by omega)
    have hv14 := congrArg Int32.toInt ev14
    intro v16 ev16
    intro v17 ev17
    have f19 := aAQ v16 1431655765 (by omega)
    have f18 : Int32.toInt (v11 - (v16 &&& 1431655765)) = Int32.toInt v11 - Int32.toInt (v16 &&& 1431655765) := aCA _ _ (by omega)
    rw [← ev17] at f18
    intro v20 ev20
    have f21 := aAQ v17 858993459 (by omega)
    have hv20 := congrArg Int32.toInt ev20
    intro v22 ev22
    intro v23 ev23
    have f25 := aAQ v22 858993459 (by omega)
    have f24 : Int32.toInt (v20 + (v22 &&& 858993459)) = Int32.toInt v20 + Int32.toInt (v22 &&& 858993459) := aAD _ _ (by omega)
    rw [← ev23] at f24
    intro v26 ev26
    have hv26 := congrArg Int32.toInt ev26
    intro v28 ev28
    have f29 := aAQ v26 252645135 (by omega)
    have hv28 := congrArg Int32.toInt ev28
    intro v30 ev30
    have hv30 := congrArg Int32.toInt ev30
    intro v32 ev32
    have hv32 := congrArg Int32.toInt ev32
    have f35 := aAQ v32 63 (by omega)
    refine And.intro (fun c34 => ?_) (fun c34 => ?_)
    · skip
      have c34 := (aAd _ _).mp c34
      intro v36 ev36
      intro v37 ev37
      have f39 := aAQ v36 1431655765 (by omega)
      have f38 : Int32.toInt (v11 - (v36 &&& 1431655765)) = Int32.toInt v11 - Int32.toInt (v36 &&& 1431655765) := aCA _ _ (by omega)
      rw [← ev37] at f38
      intro v40 ev40
      have f41 := aAQ v37 858993459 (by omega)
      have hv40 := congrArg Int32.toInt ev40
      intro v42 ev42
      intro v43 ev43
      have f45 := aAQ v42 858993459 (by omega)
      have f44 : Int32.toInt (v40 + (v42 &&& 858993459)) = Int32.toInt v40 + Int32.toInt (v42 &&& 858993459) := aAD _ _ (by omega)
      rw [← ev43] at f44
      intro v46 ev46
      have hv46 := congrArg Int32.toInt ev46
      intro v48 ev48
      have f49 := aAQ v46 252645135 (by omega)
      have hv48 := congrArg Int32.toInt ev48
      intro v50 ev50
      have hv50 := congrArg Int32.toInt ev50
      intro v52 ev52
      have hv52 := congrArg Int32.toInt ev52
      have f54 := aAQ v52 63 (by omega)
      exact ts_X10_hooked_107 bT aG qG m_x gR qR nG oO pJ xJ vZ xU xV aAW xK zM xT yF yD xZ hc0 hc1 hpost hKn x1 v14 x5 (v52 &&& 63) x5 bL bY dO sW sH aBK (by omega) (by omega) (by omega) (by omega) yJ yG aAH zY hn52
    · skip
      have c34 := mt (aAd _ _).mpr c34
      exact ts_X10_hooked_107 bT aG qG m_x gR qR nG oO pJ xJ vZ xU xV aAW xK zM xT yF yD xZ hc0 hc1 hpost hKn x1 v14 x3 x4 x5 bL bY dO sW sH aBK (by omega) aCH aDO (by omega) yJ yG aAH zY hn52
set_option maxHeartbeats 8000000 in
set_option maxRecDepth 200000 in
theorem tb_X10_hooked_52 {post : Int32 → Int32 → Int32 → Int32 → (Nat → Int32) → (Nat → Int32) → Prop} {SB : Int} (bT aG : Int32) (qG m_x gR qR nG oO pJ : Nat → Int32) (xJ : 0 ≤ Int32.toInt bT ∧ Int32.toInt bT ≤ 16) (vZ : 0 ≤ Int32.toInt aG ∧ Int32.toInt aG ≤ 8) (xU : ∀ k : Nat, k = 17 → -1 ≤ Int32.toInt (qG k) ∧ Int32.toInt (qG k) ≤ SB) (xV : ∀ k : Nat, k = 19 → 0 ≤ Int32.toInt (qG k) ∧ Int32.toInt (qG k) ≤ 9) (aAW : ∀ k : Nat, 0 ≤ Int32.toInt (m_x k) ∧ Int32.toInt (m_x k) ≤ 99) (xK : ∀ k : Nat, 0 ≤ Int32.toInt (gR k) ∧ Int32.toInt (gR k) ≤ 99) (zM : ∀ k : Nat, 0 ≤ Int32.toInt (qR k) ∧ Int32.toInt (qR k) ≤ 9) (xT : ∀ k : Nat, 0 ≤ Int32.toInt (nG k) ∧ Int32.toInt (nG k) ≤ 99) (yF : ∀ k : Nat, 0 ≤ Int32.toInt (oO k) ∧ Int32.toInt (oO k) ≤ 99) (yD : ∀ k : Nat, k = 4 → 1 ≤ Int32.toInt (pJ k) ∧ Int32.toInt (pJ k) ≤ 30) (xZ : ∀ k : Nat, k = 3 → 0 ≤ Int32.toInt (pJ k) ∧ Int32.toInt (pJ k) ≤ 9) (hc0 : -1 ≤ SB ∧ SB ≤ 7) (hc1 : (Int32.toInt aG ≤ 0 ∧ SB = 0) ∨ (1 ≤ Int32.toInt aG ∧ SB = Int32.toInt aG - 1)) (hpost : ∀ (r : Int32) (xM : Int32) (xG : Int32) (aAS : Int32) (aBX : Nat → Int32) (aA5 : Nat → Int32), (0 ≤ Int32.toInt r ∧ Int32.toInt r ≤ 65535) → (2 ≤ Int32.toInt xM ∧ Int32.toInt xM ≤ 2) → (0 ≤ Int32.toInt xG ∧ Int32.toInt xG ≤ 0) → (0 ≤ Int32.toInt aAS ∧ Int32.toInt aAS ≤ 65535) → (∀ k : Nat, 0 ≤ Int32.toInt (aA5 k) ∧ Int32.toInt (aA5 k) ≤ 65535) → post r xM xG aAS aBX aA5) : ∀ (n : Nat) (x1 x2 x3 x4 x5 bL bY dO : Int32) (sW sH : Nat → Int32), (0 ≤ Int32.toInt x1 ∧ Int32.toInt x1 ≤ 65535) → (0 ≤ Int32.toInt x2 ∧ Int32.toInt x2 ≤ 65535) → (-1 ≤ Int32.toInt x3 ∧ Int32.toInt x3 ≤ 7) → (0 ≤ Int32.toInt x4 ∧ Int32.toInt x4 ≤ 63) → (0 ≤ Int32.toInt x5 ∧ Int32.toInt x5 ≤ 8) → (0 ≤ Int32.toInt bL ∧ Int32.toInt bL ≤ 16) → (0 ≤ Int32.toInt bY ∧ Int32.toInt bY ≤ 0) → (0 ≤ Int32.toInt dO ∧ Int32.toInt dO ≤ 65535) → (∀ k : Nat, 0 ≤ Int32.toInt (sH k) ∧ Int32.toInt (sH k) ≤ 65535) → (8 - Int32.toInt x5 < (n : Int)) → wb_X10_hooked_52 post bT aG qG m_x gR qR nG oO pJ n x1 x2 x3 x4 x5 bL bY dO sW sH := by
  intro n
  induction n with
  | zero =>
    intro x1 x2 x3 x4 x5 bL bY dO sW sH aBK aBN aCH aDO aF7 yJ yG aAH zY hm
    exfalso; omega
  | succ n ih =>
    intro x1 x2 x3 x4 x5 bL bY dO sW sH aBK aBN aCH aDO aF7 yJ yG aAH zY hm
    exact ts_X10_hooked_52 bT aG qG m_x gR qR nG oO pJ xJ vZ xU xV aAW xK zM xT yF yD xZ hc0 hc1 hpost ih x1 x2 x3 x4 x5 bL bY dO sW sH aBK aBN aCH aDO aF7 yJ yG aAH zY (by omega)
set_option maxHeartbeats 8000000 in
set_option maxRecDepth 200000 in
theorem t_X10_hooked {post : Int32 → Int32 → Int32 → Int32 → (Nat → Int32) → (Nat → Int32) → Prop} {SB : Int} {bT aG bL bY dO : Int32} {qG m_x gR qR nG oO pJ sW sH : Nat → Int32} (xJ : 0 ≤ Int32.toInt bT ∧ Int32.toInt bT ≤ 16) (vZ : 0 ≤ Int32.toInt aG ∧ Int32.toInt aG ≤ 8) (yJ : 0 ≤ Int32.toInt bL ∧ Int32.toInt bL ≤ 16) (yG : 0 ≤ Int32.toInt bY ∧ Int32.toInt bY ≤ 1) (aAH : 0 ≤ Int32.toInt dO ∧ Int32.toInt dO ≤ 65535) (xU : ∀ k : Nat, k = 17 → -1 ≤ Int32.toInt (qG k) ∧ Int32.toInt (qG k) ≤ SB) (xV : ∀ k : Nat, k = 19 → 0 ≤ Int32.toInt (qG k) ∧ Int32.toInt (qG k) ≤ 9) (aAW : ∀ k : Nat, 0 ≤ Int32.toInt (m_x k) ∧ Int32.toInt (m_x k) ≤ 99) (xK : ∀ k : Nat, 0 ≤ Int32.toInt (gR k) ∧ Int32.toInt (gR k) ≤ 99) (zM : ∀ k : Nat, 0 ≤ Int32.toInt (qR k) ∧ Int32.toInt (qR k) ≤ 9) (xT : ∀ k : Nat, 0 ≤ Int32.toInt (nG k) ∧ Int32.toInt (nG k) ≤ 99) (yF : ∀ k : Nat, 0 ≤ Int32.toInt (oO k) ∧ Int32.toInt (oO k) ≤ 99) (yD : ∀ k : Nat, k = 4 → 1 ≤ Int32.toInt (pJ k) ∧ Int32.toInt (pJ k) ≤ 30) (xZ : ∀ k : Nat, k = 3 → 0 ≤ Int32.toInt (pJ k) ∧ Int32.toInt (pJ k) ≤ 9) (zY : ∀ k : Nat, 0 ≤ Int32.toInt (sH k) ∧ Int32.toInt (sH k) ≤ 65535) (hc0 : -1 ≤ SB ∧ SB ≤ 7) (hc1 : (Int32.toInt aG ≤ 0 ∧ SB = 0) ∨ (1 ≤ Int32.toInt aG ∧ SB = Int32.toInt aG - 1)) (hpost : ∀ (r : Int32) (xM : Int32) (xG : Int32) (aAS : Int32) (aBX : Nat → Int32) (aA5 : Nat → Int32), (0 ≤ Int32.toInt r ∧ Int32.toInt r ≤ 65535) → (2 ≤ Int32.toInt xM ∧ Int32.toInt xM ≤ 2) → (0 ≤ Int32.toInt xG ∧ Int32.toInt xG ≤ 0) → (0 ≤ Int32.toInt aAS ∧ Int32.toInt aAS ≤ 65535) → (∀ k : Nat, 0 ≤ Int32.toInt (aA5 k) ∧ Int32.toInt (aA5 k) ≤ 65535) → post r xM xG aAS aBX aA5) : wp_X10_hooked post bT aG bL bY dO qG m_x gR qR nG oO pJ sW sH := by
  have l0 := aI2
  have l1 := aE0
  have l2 := aEc
  have l3 := li_18
  have l4 := li_19
  intro v55 ev55
  have hv55 := congrArg Int32.toInt ev55
  refine aLb xJ vZ aAH xU xV aAW xK zM xT yF yD xZ zY (by omega) (by omega) (fun m_wanted_57 m_hand_58 h_m_wanted_57 h_m_hand_58 => ?_)
  refine aKO (by omega) xJ xU xV (by omega) (fun r59 h_r59 ox60 => ?_)
  have q61 := xV (19 : Int32).toNatClampNeg (by have e9 : (19 : Int32).toNatClampNeg = (Int32.toInt (19 : Int32)).toNat := rfl; omega)
  intro v62 ev62
  have hv62 := congrArg Int32.toInt ev62
  refine aXh (by omega) xJ zM (fun r64 h_r64 ox65 => ?_)
  intro v66 ev66
  have f67 := aAQ r59 r64 (by omega)
  have f68 := aBx r59 r64 (by omega)
  have hv66 := congrArg Int32.toInt ev66
  intro v69 ev69
  have f70 := aDv 8 256 aG (by decide) (by omega)
  have hv69 := congrArg Int32.toInt ev69
  have f72 : Int32.toInt (v69 - 1) = Int32.toInt v69 - Int32.toInt (1 : Int32) := aCA _ _ (by omega)
  refine aSL (by omega) vZ h_m_hand_58 (fun r71 h_r71 => ?_)
  intro v73 ev73
  have f75 := aBx v66 (r71 ^^^ (-1)) (by omega)
  have hv73 := congrArg Int32.toInt ev73
  exact ⟨10, tb_X10_hooked_52 bT aG qG m_x gR qR nG oO pJ xJ vZ xU xV aAW xK zM xT yF yD xZ hc0 hc1 hpost _ v73 0 (-1) 0 0 bL 0 m_wanted_57 sW m_hand_58 (by omega) (by omega) (by omega) (by omega) (by omega) yJ (by omega) h_m_wanted_57 h_m_hand_58 (by omega)⟩
set_option maxHeartbeats 8000000 in
set_option maxRecDepth 200000 in
theorem t_X10_broken {post : Int32 → Int32 → Int32 → Int32 → (Nat → Int32) → (Nat → Int32) → Prop} {SB : Int} {p0 bT aG bL bY dO : Int32} {qG m_x gR qR nG oO pJ sW sH : Nat → Int32} (xJ : 0 ≤ Int32.toInt bT ∧ Int32.toInt bT ≤ 16) (vZ : 0 ≤ Int32.toInt aG ∧ Int32.toInt aG ≤ 8) (yJ : 0 ≤ Int32.toInt bL ∧ Int32.toInt bL ≤ 16) (yG : 0 ≤ Int32.toInt bY ∧ Int32.toInt bY ≤ 1) (aAH : 0 ≤ Int32.toInt dO ∧ Int32.toInt dO ≤ 65535) (xU : ∀ k : Nat, k = 17 → -1 ≤ Int32.toInt (qG k) ∧ Int32.toInt (qG k) ≤ SB) (xV : ∀ k : Nat, k = 19 → 0 ≤ Int32.toInt (qG k) ∧ Int32.toInt (qG k) ≤ 9) (aAW : ∀ k : Nat, 0 ≤ Int32.toInt (m_x k) ∧ Int32.toInt (m_x k) ≤ 99) (xK : ∀ k : Nat, 0 ≤ Int32.toInt (gR k) ∧ Int32.toInt (gR k) ≤ 99) (zM : ∀ k : Nat, 0 ≤ Int32.toInt (qR k) ∧ Int32.toInt (qR k) ≤ 9) (xT : ∀ k : Nat, 0 ≤ Int32.toInt (nG k) ∧ Int32.toInt (nG k) ≤ 99) (yF : ∀ k : Nat, 0 ≤ Int32.toInt (oO k) ∧ Int32.toInt (oO k) ≤ 99) (yD : ∀ k : Nat, k = 4 → 1 ≤ Int32.toInt (pJ k) ∧ Int32.toInt (pJ k) ≤ 30) (xZ : ∀ k : Nat, k = 3 → 0 ≤ Int32.toInt (pJ k) ∧ Int32.toInt (pJ k) ≤ 9) (zY : ∀ k : Nat, 0 ≤ Int32.toInt (sH k) ∧ Int32.toInt (sH k) ≤ 65535) (hc0 : -1 ≤ SB ∧ SB ≤ 7) (hc1 : (Int32.toInt aG ≤ 0 ∧ SB = 0) ∨ (1 ≤ Int32.toInt aG ∧ SB = Int32.toInt aG - 1)) (hpost : ∀ (r : Int32) (xM : Int32) (xG : Int32) (aAS : Int32) (aBX : Nat → Int32) (aA5 : Nat → Int32), (-1 ≤ Int32.toInt r ∧ Int32.toInt r ≤ 63) → (0 ≤ Int32.toInt xM ∧ Int32.toInt xM ≤ 16) → (0 ≤ Int32.toInt xG ∧ Int32.toInt xG ≤ 0) → (0 ≤ Int32.toInt aAS ∧ Int32.toInt aAS ≤ 65535) → (∀ k : Nat, 0 ≤ Int32.toInt (aA5 k) ∧ Int32.toInt (aA5 k) ≤ 65535) → post r xM xG aAS aBX aA5) : wp_X10_broken post p0 bT aG bL bY dO qG m_x gR qR nG oO pJ sW sH := by
  have l0 := aI2
  have l1 := aE0
  have l2 := aEc
  have l3 := aKH
  have l4 := li_18
  have l5 := aJ8
  have l6 := li_63
  have l7 := aJ9
  intro v1 ev1
  have f2 : Int32.toInt (aG - 1) = Int32.toInt aG - Int32.toInt (1 : Int32) := aCA _ _ (by omega)
  rw [← ev1] at f2
  have f4 := aAT p0
  refine And.intro (fun c3 => ?_) (fun c3 => ?_)
  · skip
    have c3 := (aAd _ _).mp c3
    refine And.intro (aHE (by omega)) ?_
    refine And.intro (fun h9 => absurd h9 (by decide)) (fun _ => ?_)
    exact hpost _ _ _ _ _ _ (by omega) yJ (by omega) aAH zY
  · skip
    have c3 := mt (aAd _ _).mpr c3
    refine And.intro (fun c5 => ?_) (fun c5 => ?_)
    · skip
      have c5 := (aAd _ _).mp c5
      refine And.intro (aHE (by omega)) ?_
      refine And.intro (fun h9 => absurd h9 (by decide)) (fun _ => ?_)
      exact hpost _ _ _ _ _ _ (by omega) yJ (by omega) aAH zY
    · skip
      have c5 := mt (aAd _ _).mpr c5
      refine And.intro (aHE (by omega)) ?_
      refine And.intro (fun _ => ?_) (fun h9 => absurd h9 (by decide))
      intro v6 ev6
      have hv6 := congrArg Int32.toInt ev6
      refine aLb xJ vZ aAH xU xV aAW xK zM xT yF yD xZ zY (by omega) (by omega) (fun m_wanted_8 m_hand_9 h_m_wanted_8 h_m_hand_9 => ?_)
      refine And.intro (aBZ (by omega)) ?_
      have a10 : ∀ k : Nat, 0 ≤ Int32.toInt ((upd m_hand_9 p0.toNatClampNeg 0) k) ∧ Int32.toInt ((upd m_hand_9 p0.toNatClampNeg 0) k) ≤ 65535 := t_upd (fun k => by have q9 := h_m_hand_9 k; omega) (by omega)
      intro v11 ev11
      have f12 := aDv 8 256 aG (by decide) (by omega)
      have hv11 := congrArg Int32.toInt ev11
      have f14 : Int32.toInt (v11 - 1) = Int32.toInt v11 - Int32.toInt (1 : Int32) := aCA _ _ (by omega)
      refine aSL (by omega) vZ (fun k => by have q9 := a10 k; omega) (fun r13 h_r13 => ?_)
      intro v15 ev15
      have f16 := aAQ m_wanted_8 r13 (by omega)
      have f17 := aBx m_wanted_8 r13 (by omega)
      have hv15 := congrArg Int32.toInt ev15
      refine t_X10_cover (by omega) vZ (fun k => by have q9 := a10 k; omega) (fun r18 h_r18 => ?_)
      intro v19 ev19
      intro v20 ev20
      have f22 := aAQ v19 1431655765 (by omega)
      have f21 : Int32.toInt (r18 - (v19 &&& 1431655765)) = Int32.toInt r18 - Int32.toInt (v19 &&& 1431655765) := aCA _ _ (by omega)
      rw [← ev20] at f21
      intro v23 ev23
      have f24 := aAQ v20 858993459 (by omega)
      have hv23 := congrArg Int32.toInt ev23
      intro v25 ev25
      intro v26 ev26
      have f28 := aAQ v25 858993459 (by omega)
      have f27 : Int32.toInt (v23 + (v25 &&& 858993459)) = Int32.toInt v23 + Int32.toInt (v25 &&& 858993459) := aAD _ _ (by omega)
      rw [← ev26] at f27
      intro v29 ev29
      have hv29 := congrArg Int32.toInt ev29
      intro v31 ev31
      have f32 := aAQ v29 252645135 (by omega)
      have hv31 := congrArg Int32.toInt ev31
      intro v33 ev33
      have hv33 := congrArg Int32.toInt ev33
      intro v35 ev35
      have hv35 := congrArg Int32.toInt ev35
      intro v37 ev37
      have f39 := aBx m_wanted_8 (v15 ^^^ (-1)) (by omega)
      have hv37 := congrArg Int32.toInt ev37
      refine And.intro (aBZ (by omega)) ?_
      intro v40 ev40
      have f41 : Int32.toInt (0 + 1) = Int32.toInt (0 : Int32) + Int32.toInt (1 : Int32) := aAD _ _ (by omega)
      rw [← ev40] at f41
      have f42 := aAQ v35 63 (by omega)
      exact hpost _ _ _ _ _ _ (by omega) (by omega) (by omega) h_m_wanted_8 (fun k => by have q9 := a10 k; omega)
set_option maxHeartbeats 8000000 in
set_option maxRecDepth 200000 in
theorem ts_X10_sweep_122 {post : Int32 → Int32 → Int32 → Nat → Int32 → Int32 → Int32 → Int32 → Int32 → Int32 → Int32 → Int32 → Int32 → Int32 → Int32 → Int32 → Int32 → (Nat → Int32) → (Nat → Int32) → (Nat → Int32) → (Nat → Int32) → (Nat → Int32) → Prop} {SB : Int} {K40 : Int32 → Int32 → Int32 → Int32 → Int32 → Int32 → Int32 → Nat → Int32 → Int32 → Int32 → Int32 → Int32 → Int32 → Int32 → Int32 → Int32 → Int32 → Int32 → Int32 → Int32 → (Nat → Int32) → (Nat → Int32) → (Nat → Int32) → (Nat → Int32) → (Nat → Int32) → Prop} {n40 : Int} (bT aG bW : Int32) (qG m_x gR pW qR nG oO pJ qO qQ : Nat → Int32) (xJ : 0 ≤ Int32.toInt bT ∧ Int32.toInt bT ≤ 16) (vZ : 0 ≤ Int32.toInt aG ∧ Int32.toInt aG ≤ 8) (zQ : 0 ≤ Int32.toInt bW ∧ Int32.toInt bW ≤ 40) (xU : ∀ k : Nat, k = 17 → -1 ≤ Int32.toInt (qG k) ∧ Int32.toInt (qG k) ≤ SB) (xV : ∀ k : Nat, k = 19 → 0 ≤ Int32.toInt (qG k) ∧ Int32.toInt (qG k) ≤ 9) (aAW : ∀ k : Nat, 0 ≤ Int32.toInt (m_x k) ∧ Int32.toInt (m_x k) ≤ 99) (xK : ∀ k : Nat, 0 ≤ Int32.toInt (gR k) ∧ Int32.toInt (gR k) ≤ 99) (yR : ∀ k : Nat, 0 ≤ Int32.toInt (pW k) ∧ Int32.toInt (pW k) ≤ 9) (zM : ∀ k : Nat, 0 ≤ Int32.toInt (qR k) ∧ Int32.toInt (qR k) ≤ 9) (xT : ∀ k : Nat, 0 ≤ Int32.toInt (nG k) ∧ Int32.toInt (nG k) ≤ 99) (yF : ∀ k : Nat, 0 ≤ Int32.toInt (oO k) ∧ Int32.toInt (oO k) ≤ 99) (yD : ∀ k : Nat, k = 4 → 1 ≤ Int32.toInt (pJ k) ∧ Int32.toInt (pJ k) ≤ 30) (xZ : ∀ k : Nat, k = 3 → 0 ≤ Int32.toInt (pJ k) ∧ Int32.toInt (pJ k) ≤ 9) (zG : ∀ k : Nat, -128 ≤ Int32.toInt (qO k) ∧ Int32.toInt (qO k) ≤ 127) (zI : ∀ k : Nat, -128 ≤ Int32.toInt (qQ k) ∧ Int32.toInt (qQ k) ≤ 127) (hc0 : -1 ≤ SB ∧ SB ≤ 7) (hc1 : (Int32.toInt aG ≤ 0 ∧ SB = 0) ∨ (1 ≤ Int32.toInt aG ∧ SB = Int32.toInt aG - 1)) (hpost : ∀ (r : Int32) (xM : Int32) (xG : Int32) (aAP : Nat) (zS : Int32) (aAz : Int32) (aAm : Int32) (zH : Int32) (aAM : Int32) (zP : Int32) (yO : Int32) (zZ : Int32) (zO : Int32) (aAS : Int32) (aB9 : Int32) (aEo : Int32) (aEn : Int32) (aBX : Nat → Int32) (aA5 : Nat → Int32) (aCX : Nat → Int32) (aBR : Nat → Int32) (aGb : Nat → Int32), (-1 ≤ Int32.toInt r ∧ Int32.toInt r ≤ 2147483647) → (0 ≤ Int32.toInt xM ∧ Int32.toInt xM ≤ 16) → (0 ≤ Int32.toInt xG ∧ Int32.toInt xG ≤ 0) → (aAP = 0 ∨ aAP = 1 ∨ aAP = 2) → (0 ≤ Int32.toInt zS ∧ Int32.toInt zS ≤ 80) → (0 ≤ Int32.toInt aAz ∧ Int32.toInt aAz ≤ 80) → (0 ≤ Int32.toInt aAm ∧ Int32.toInt aAm ≤ 80) → (-1 ≤ Int32.toInt zH ∧ Int32.toInt zH ≤ 80) → (0 ≤ Int32.toInt aAM ∧ Int32.toInt aAM ≤ 0) → (0 ≤ Int32.toInt zP ∧ Int32.toInt zP ≤ 15) → (0 ≤ Int32.toInt yO ∧ Int32.toInt yO ≤ 7) → (0 ≤ Int32.toInt zZ ∧ Int32.toInt zZ ≤ 1) → (0 ≤ Int32.toInt zO ∧ Int32.toInt zO ≤ 63) → (0 ≤ Int32.toInt aAS ∧ Int32.toInt aAS ≤ 65535) → (0 ≤ Int32.toInt aB9 ∧ Int32.toInt aB9 ≤ 1000000) → (∀ k : Nat, 0 ≤ Int32.toInt (aA5 k) ∧ Int32.toInt (aA5 k) ≤ 65535) → (∀ k : Nat, 0 ≤ Int32.toInt (aCX k) ∧ Int32.toInt (aCX k) ≤ 1000000) → (∀ k : Nat, 0 ≤ Int32.toInt (aBR k) ∧ Int32.toInt (aBR k) ≤ 99) → post r xM xG aAP zS aAz aAm zH aAM zP yO zZ zO aAS aB9 aEo aEn aBX aA5 aCX aBR aGb) (hK40 : ∀ (x1 : Int32) (x2 : Int32) (x3 : Int32) (x4 : Int32) (x5 : Int32) (bL : Int32) (bY : Int32) (jD : Nat) (m_length : Int32) (oF : Int32) (rP : Int32) (dQ : Int32) (bZ : Int32) (aR : Int32) (aE : Int32) (bI : Int32) (aW : Int32) (dO : Int32) (bM : Int32) (bQ : Int32) (bO : Int32) (sW : Nat → Int32) (sH : Nat → Int32) (uE : Nat → Int32) (oJ : Nat → Int32) (vK : Nat → Int32), (0 ≤ Int32.toInt x1 ∧ Int32.toInt x1 ≤ 9999) → (-1 ≤ Int32.toInt x2 ∧ Int32.toInt x2 ≤ 255) → (-1 ≤ Int32.toInt x3 ∧ Int32.toInt x3 ≤ 2147483647) → (-2147483648 ≤ Int32.toInt x4 ∧ Int32.toInt x4 ≤ 9999) → (0 ≤ Int32.toInt x5 ∧ Int32.toInt x5 ≤ 256) → (0 ≤ Int32.toInt bL ∧ Int32.toInt bL ≤ 16) → (0 ≤ Int32.toInt bY ∧ Int32.toInt bY ≤ 0) → (jD = 0 ∨ jD = 1 ∨ jD = 2) → (0 ≤ Int32.toInt m_length ∧ Int32.toInt m_length ≤ 80) → (0 ≤ Int32.toInt oF ∧ Int32.toInt oF ≤ 80) → (0 ≤ Int32.toInt rP ∧ Int32.toInt rP ≤ 80) → (-1 ≤ Int32.toInt dQ ∧ Int32.toInt dQ ≤ 80) → (0 ≤ Int32.toInt bZ ∧ Int32.toInt bZ ≤ 0) → (0 ≤ Int32.toInt aR ∧ Int32.toInt aR ≤ 15) → (0 ≤ Int32.toInt aE ∧ Int32.toInt aE ≤ 7) → (0 ≤ Int32.toInt bI ∧ Int32.toInt bI ≤ 1) → (0 ≤ Int32.toInt aW ∧ Int32.toInt aW ≤ 63) → (0 ≤ Int32.toInt dO ∧ Int32.toInt dO ≤ 65535) → (0 ≤ Int32.toInt bM ∧ Int32.toInt bM ≤ 1000000) → (∀ k : Nat, 0 ≤ Int32.toInt (sH k) ∧ Int32.toInt (sH k) ≤ 65535) → (∀ k : Nat, 0 ≤ Int32.toInt (uE k) ∧ Int32.toInt (uE k) ≤ 1000000) → (∀ k : Nat, 0 ≤ Int32.toInt (oJ k) ∧ Int32.toInt (oJ k) ≤ 99) → (256 - Int32.toInt x5 < n40) → K40 x1 x2 x3 x4 x5 bL bY jD m_length oF rP dQ bZ aR aE bI aW dO bM bQ bO sW sH uE oJ vK) (x1 x2 x3 x4 x5 bL bY : Int32) (jD : Nat) (m_length oF rP dQ bZ aR aE bI aW dO bM bQ bO : Int32) (sW sH uE oJ vK : Nat → Int32) (aBK : 0 ≤ Int32.toInt x1 ∧ Int32.toInt x1 ≤ 9999) (aBN : -1 ≤ Int32.toInt x2 ∧ Int32.toInt x2 ≤ 255) (aCH : -1 ≤ Int32.toInt x3 ∧ Int32.toInt x3 ≤ 2147483647) (aDO : -2147483648 ≤ Int32.toInt x4 ∧ Int32.toInt x4 ≤ 9999) (aF7 : 0 ≤ Int32.toInt x5 ∧ Int32.toInt x5 ≤ 255) (yJ : 0 ≤ Int32.toInt bL ∧ Int32.toInt bL ≤ 16) (yG : 0 ≤ Int32.toInt bY ∧ Int32.toInt bY ≤ 0) (yM : jD = 0 ∨ jD = 1 ∨ jD = 2) (zE : 0 ≤ Int32.toInt m_length ∧ Int32.toInt m_length ≤ 80) (aAR : 0 ≤ Int32.toInt oF ∧ Int32.toInt oF ≤ 80) (aA1 : 0 ≤ Int32.toInt rP ∧ Int32.toInt rP ≤ 80) (aAA : -1 ≤ Int32.toInt dQ ∧ Int32.toInt dQ ≤ 80) (zT : 0 ≤ Int32.toInt bZ ∧ Int32.toInt bZ ≤ 0) (yL : 0 ≤ Int32.toInt aR ∧ Int32.toInt aR ≤ 15) (xQ : 0 ≤ Int32.toInt aE ∧ Int32.toInt aE ≤ 7) (yY : 0 ≤ Int32.toInt bI ∧ Int32.toInt bI ≤ 1) (yK : 0 ≤ Int32.toInt aW ∧ Int32.toInt aW ≤ 63) (aAH : 0 ≤ Int32.toInt dO ∧ Int32.toInt dO ≤ 65535) (aAv : 0 ≤ Int32.toInt bM ∧ Int32.toInt bM ≤ 1000000) (zY : ∀ k : Nat, 0 ≤ Int32.toInt (sH k) ∧ Int32.toInt (sH k) ≤ 65535) (aAw : ∀ k : Nat, 0 ≤ Int32.toInt (uE k) ∧ Int32.toInt (uE k) ≤ 1000000) (zL : ∀ k : Nat, 0 ≤ Int32.toInt (oJ k) ∧ Int32.toInt (oJ k) ≤ 99) (hn40 : 256 - Int32.toInt x5 ≤ n40) : ws_X10_sweep_122 post K40 bT aG bW qG m_x gR pW qR nG oO pJ qO qQ x1 x2 x3 x4 x5 bL bY jD m_length oF rP dQ bZ aR aE bI aW dO bM bQ bO sW sH uE oJ vK := by
  have l0 := aEc
  intro v1 ev1
  have f2 : Int32.toInt (x5 + 1) = Int32.toInt x5 + Int32.toInt (1 : Int32) := aAD _ _ (by omega)
  rw [← ev1] at f2
  have f3 := aAT x3
  have f4 := aAT x4
  have f5 := aAT bQ
  have f6 := aAT bO
  exact hK40 x1 x2 x3 x4 v1 bL bY jD m_length oF rP dQ bZ aR aE bI aW dO bM bQ bO sW sH uE oJ vK aBK aBN aCH aDO (by omega) yJ yG yM zE aAR aA1 aAA zT yL xQ yY yK aAH aAv zY aAw zL (by omega)
set_option maxHeartbeats 8000000 in
set_option maxRecDepth 200000 in
theorem ts_X10_sweep_112 {post : Int32 → Int32 → Int32 → Nat → Int32 → Int32 → Int32 → Int32 → Int32 → Int32 → Int32 → Int32 → Int32 → Int32 → Int32 → Int32 → Int32 → (Nat → Int32) → (Nat → Int32) → (Nat → Int32) → (Nat → Int32) → (Nat → Int32) → Prop} {SB : Int} {K40 : Int32 → Int32 → Int32 → Int32 → Int32 → Int32 → Int32 → Nat → Int32 → Int32 → Int32 → Int32 → Int32 → Int32 → Int32 → Int32 → Int32 → Int32 → Int32 → Int32 → Int32 → (Nat → Int32) → (Nat → Int32) → (Nat → Int32) → (Nat → Int32) → (Nat → Int32) → Prop} {n40 : Int} (bT aG bW : Int32) (qG m_x gR pW qR nG oO pJ qO qQ : Nat → Int32) (xJ : 0 ≤ Int32.toInt bT ∧ Int32.toInt bT ≤ 16) (vZ : 0 ≤ Int32.toInt aG ∧ Int32.toInt aG ≤ 8) (zQ : 0 ≤ Int32.toInt bW ∧ Int32.toInt bW ≤ 40) (xU : ∀ k : Nat, k = 17 → -1 ≤ Int32.toInt (qG k) ∧ Int32.toInt (qG k) ≤ SB) (xV : ∀ k : Nat, k = 19 → 0 ≤ Int32.toInt (qG k) ∧ Int32.toInt (qG k) ≤ 9) (aAW : ∀ k : Nat, 0 ≤ Int32.toInt (m_x k) ∧ Int32.toInt (m_x k) ≤ 99) (xK : ∀ k : Nat, 0 ≤ Int32.toInt (gR k) ∧ Int32.toInt (gR k) ≤ 99) (yR : ∀ k : Nat, 0 ≤ Int32.toInt (pW k) ∧ Int32.toInt (pW k) ≤ 9) (zM : ∀ k : Nat, 0 ≤ Int32.toInt (qR k) ∧ Int32.toInt (qR k) ≤ 9) (xT : ∀ k : Nat, 0 ≤ Int32.toInt (nG k) ∧ Int32.toInt (nG k) ≤ 99) (yF : ∀ k : Nat, 0 ≤ Int32.toInt (oO k) ∧ Int32.toInt (oO k) ≤ 99) (yD : ∀ k : Nat, k = 4 → 1 ≤ Int32.toInt (pJ k) ∧ Int32.toInt (pJ k) ≤ 30) (xZ : ∀ k : Nat, k = 3 → 0 ≤ Int32.toInt (pJ k) ∧ Int32.toInt (pJ k) ≤ 9) (zG : ∀ k : Nat, -128 ≤ Int32.toInt (qO k) ∧ Int32.toInt (qO k) ≤ 127) (zI : ∀ k : Nat, -128 ≤ Int32.toInt (qQ k) ∧ Int32.toInt (qQ k) ≤ 127) (hc0 : -1 ≤ SB ∧ SB ≤ 7) (hc1 : (Int32.toInt aG ≤ 0 ∧ SB = 0) ∨ (1 ≤ Int32.toInt aG ∧ SB = Int32.toInt aG - 1)) (hpost : ∀ (r : Int32) (xM : Int32) (xG : Int32) (aAP : Nat) (zS : Int32) (aAz : Int32) (aAm : Int32) (zH : Int32) (aAM : Int32) (zP : Int32) (yO : Int32) (zZ : Int32) (zO : Int32) (aAS : Int32) (aB9 : Int32) (aEo : Int32) (aEn : Int32) (aBX : Nat → Int32) (aA5 : Nat → Int32) (aCX : Nat → Int32) (aBR : Nat → Int32) (aGb : Nat → Int32), (-1 ≤ Int32.toInt r ∧ Int32.toInt r ≤ 2147483647) → (0 ≤ Int32.toInt xM ∧ Int32.toInt xM ≤ 16) → (0 ≤ Int32.toInt xG ∧ Int32.toInt xG ≤ 0) → (aAP = 0 ∨ aAP = 1 ∨ aAP = 2) → (0 ≤ Int32.toInt zS ∧ Int32.toInt zS ≤ 80) → (0 ≤ Int32.toInt aAz ∧ Int32.toInt aAz ≤ 80) → (0 ≤ Int32.toInt aAm ∧ Int32.toInt aAm ≤ 80) → (-1 ≤ Int32.toInt zH ∧ Int32.toInt zH ≤ 80) → (0 ≤ Int32.toInt aAM ∧ Int32.toInt aAM ≤ 0) → (0 ≤ Int32.toInt zP ∧ Int32.toInt zP ≤ 15) → (0 ≤ Int32.toInt yO ∧ Int32.toInt yO ≤ 7) → (0 ≤ Int32.toInt zZ ∧ Int32.toInt zZ ≤ 1) → (0 ≤ Int32.toInt zO ∧ Int32.toInt zO ≤ 63) → (0 ≤ Int32.toInt aAS ∧ Int32.toInt aAS ≤ 65535) → (0 ≤ Int32.toInt aB9 ∧ Int32.toInt aB9 ≤ 1000000) → (∀ k : Nat, 0 ≤ Int32.toInt (aA5 k) ∧ Int32.toInt (aA5 k) ≤ 65535) → (∀ k : Nat, 0 ≤ Int32.toInt (aCX k) ∧ Int32.toInt (aCX k) ≤ 1000000) → (∀ k : Nat, 0 ≤ Int32.toInt (aBR k) ∧ Int32.toInt (aBR k) ≤ 99) → post r xM xG aAP zS aAz aAm zH aAM zP yO zZ zO aAS aB9 aEo aEn aBX aA5 aCX aBR aGb) (hK40 : ∀ (x1 : Int32) (x2 : Int32) (x3 : Int32) (x4 : Int32) (x5 : Int32) (bL : Int32) (bY : Int32) (jD : Nat) (m_length : Int32) (oF : Int32) (rP : Int32) (dQ : Int32) (bZ : Int32) (aR : Int32) (aE : Int32) (bI : Int32) (aW : Int32) (dO : Int32) (bM : Int32) (bQ : Int32) (bO : Int32) (sW : Nat → Int32) (sH : Nat → Int32) (uE : Nat → Int32) (oJ : Nat → Int32) (vK : Nat → Int32), (0 ≤ Int32.toInt x1 ∧ Int32.toInt x1 ≤ 9999) → (-1 ≤ Int32.toInt x2 ∧ Int32.toInt x2 ≤ 255) → (-1 ≤ Int32.toInt x3 ∧ Int32.toInt x3 ≤ 2147483647) → (-2147483648 ≤ Int32.toInt x4 ∧ Int32.toInt x4 ≤ 9999) → (0 ≤ Int32.toInt x5 ∧ Int32.toInt x5 ≤ 256) → (0 ≤ Int32.toInt bL ∧ Int32.toInt bL ≤ 16) → (0 ≤ Int32.toInt bY ∧ Int32.toInt bY ≤ 0) → (jD = 0 ∨ jD = 1 ∨ jD = 2) → (0 ≤ Int32.toInt m_length ∧ Int32.toInt m_length ≤ 80) → (0 ≤ Int32.toInt oF ∧ Int32.toInt oF ≤ 80) → (0 ≤ Int32.toInt rP ∧ Int32.toInt rP ≤ 80) → (-1 ≤ Int32.toInt dQ ∧ Int32.toInt dQ ≤ 80) → (0 ≤ Int32.toInt bZ ∧ Int32.toInt bZ ≤ 0) → (0 ≤ Int32.toInt aR ∧ Int32.toInt aR ≤ 15) → (0 ≤ Int32.toInt aE ∧ Int32.toInt aE ≤ 7) → (0 ≤ Int32.toInt bI ∧ Int32.toInt bI ≤ 1) → (0 ≤ Int32.toInt aW ∧ Int32.toInt aW ≤ 63) → (0 ≤ Int32.toInt dO ∧ Int32.toInt dO ≤ 65535) → (0 ≤ Int32.toInt bM ∧ Int32.toInt bM ≤ 1000000) → (∀ k : Nat, 0 ≤ Int32.toInt (sH k) ∧ Int32.toInt (sH k) ≤ 65535) → (∀ k : Nat, 0 ≤ Int32.toInt (uE k) ∧ Int32.toInt (uE k) ≤ 1000000) → (∀ k : Nat, 0 ≤ Int32.toInt (oJ k) ∧ Int32.toInt (oJ k) ≤ 99) → (256 - Int32.toInt x5 < n40) → K40 x1 x2 x3 x4 x5 bL bY jD m_length oF rP dQ bZ aR aE bI aW dO bM bQ bO sW sH uE oJ vK) (x1 x5 x6 x7 bL bY : Int32) (jD : Nat) (m_length oF rP dQ bZ aR aE bI aW dO bM bQ bO : Int32) (sW sH uE oJ vK : Nat → Int32) (aBK : 0 ≤ Int32.toInt x1 ∧ Int32.toInt x1 ≤ 9999) (aF7 : 0 ≤ Int32.toInt x5 ∧ Int32.toInt x5 ≤ 255) (h_x6 : -2147483648 ≤ Int32.toInt x6 ∧ Int32.toInt x6 ≤ 9999) (h_x7 : -1 ≤ Int32.toInt x7 ∧ Int32.toInt x7 ≤ 2147483647) (yJ : 0 ≤ Int32.toInt bL ∧ Int32.toInt bL ≤ 16) (yG : 0 ≤ Int32.toInt bY ∧ Int32.toInt bY ≤ 0) (yM : jD = 0 ∨ jD = 1 ∨ jD = 2) (zE : 0 ≤ Int32.toInt m_length ∧ Int32.toInt m_length ≤ 80) (aAR : 0 ≤ Int32.toInt oF ∧ Int32.toInt oF ≤ 80) (aA1 : 0 ≤ Int32.toInt rP ∧ Int32.toInt rP ≤ 80) (aAA : -1 ≤ Int32.toInt dQ ∧ Int32.toInt dQ ≤ 80) (zT : 0 ≤ Int32.toInt bZ ∧ Int32.toInt bZ ≤ 0) (yL : 0 ≤ Int32.toInt aR ∧ Int32.toInt aR ≤ 15) (xQ : 0 ≤ Int32.toInt aE ∧ Int32.toInt aE ≤ 7) (yY : 0 ≤ Int32.toInt bI ∧ Int32.toInt bI ≤ 1) (yK : 0 ≤ Int32.toInt aW ∧ Int32.toInt aW ≤ 63) (aAH : 0 ≤ Int32.toInt dO ∧ Int32.toInt dO ≤ 65535) (aAv : 0 ≤ Int32.toInt bM ∧ Int32.toInt bM ≤ 1000000) (zY : ∀ k : Nat, 0 ≤ Int32.toInt (sH k) ∧ Int32.toInt (sH k) ≤ 65535) (aAw : ∀ k : Nat, 0 ≤ Int32.toInt (uE k) ∧ Int32.toInt (uE k) ≤ 1000000) (zL : ∀ k : Nat, 0 ≤ Int32.toInt (oJ k) ∧ Int32.toInt (oJ k) ≤ 99) (hn40 : 256 - Int32.toInt x5 ≤ n40) : ws_X10_sweep_112 post K40 bT aG bW qG m_x gR pW qR nG oO pJ qO qQ x1 x5 x6 x7 bL bY jD m_length oF rP dQ bZ aR aE bI aW dO bM bQ bO sW sH uE oJ vK := by
  have f7 := aAT x7
  have f8 := aAT x6
  have f9 := aAT bQ
  have f10 := aAT bO
  exact ts_X10_sweep_122 bT aG bW qG m_x gR pW qR nG oO pJ qO qQ xJ vZ zQ xU xV aAW xK yR zM xT yF yD xZ zG zI hc0 hc1 hpost hK40 x1 x5 x7 x6 x5 bL bY jD m_length oF rP dQ bZ aR aE bI aW dO bM bQ bO sW sH uE oJ vK aBK (by omega) h_x7 h_x6 aF7 yJ yG yM zE aAR aA1 aAA zT yL xQ yY yK aAH aAv zY aAw zL hn40
set_option maxHeartbeats 8000000 in
set_option maxRecDepth 200000 in
theorem ts_X10_sweep_40 {post : Int32 → Int32 → Int32 → Nat → Int32 → Int32 → Int32 → Int32 → Int32 → Int32 → Int32 → Int32 → Int32 → Int32 → Int32 → Int32 → Int32 → (Nat → Int32) → (Nat → Int32) → (Nat → Int32) → (Nat → Int32) → (Nat → Int32) → Prop} {SB : Int} {next : Int32 → Int32 → Int32 → Int32 → Int32 → Int32 → Int32 → Nat → Int32 → Int32 → Int32 → Int32 → Int32 → Int32 → Int32 → Int32 → Int32 → Int32 → Int32 → Int32 → Int32 → (Nat → Int32) → (Nat → Int32) → (Nat → Int32) → (Nat → Int32) → (Nat → Int32) → Prop} {n40 : Int} (bT aG bW : Int32) (qG m_x gR pW qR nG oO pJ qO qQ : Nat → Int32) (xJ : 0 ≤ Int32.toInt bT ∧ Int32.toInt bT ≤ 16) (vZ : 0 ≤ Int32.toInt aG ∧ Int32.toInt aG ≤ 8) (zQ : 0 ≤ Int32.toInt bW ∧ Int32.toInt bW ≤ 40) (xU : ∀ k : Nat, k = 17 → -1 ≤ Int32.toInt (qG k) ∧ Int32.toInt (qG k) ≤ SB) (xV : ∀ k : Nat, k = 19 → 0 ≤ Int32.toInt (qG k) ∧ Int32.toInt (qG k) ≤ 9) (aAW : ∀ k : Nat, 0 ≤ Int32.toInt (m_x k) ∧ Int32.toInt (m_x k) ≤ 99) (xK : ∀ k : Nat, 0 ≤ Int32.toInt (gR k) ∧ Int32.toInt (gR k) ≤ 99) (yR : ∀ k : Nat, 0 ≤ Int32.toInt (pW k) ∧ Int32.toInt (pW k) ≤ 9) (zM : ∀ k : Nat, 0 ≤ Int32.toInt (qR k) ∧ Int32.toInt (qR k) ≤ 9) (xT : ∀ k : Nat, 0 ≤ Int32.toInt (nG k) ∧ Int32.toInt (nG k) ≤ 99) (yF : ∀ k : Nat, 0 ≤ Int32.toInt (oO k) ∧ Int32.toInt (oO k) ≤ 99) (yD : ∀ k : Nat, k = 4 → 1 ≤ Int32.toInt (pJ k) ∧ Int32.toInt (pJ k) ≤ 30) (xZ : ∀ k : Nat, k = 3 → 0 ≤ Int32.toInt (pJ k) ∧ Int32.toInt (pJ k) ≤ 9) (zG : ∀ k : Nat, -128 ≤ Int32.toInt (qO k) ∧ Int32.toInt (qO k) ≤ 127) (zI : ∀ k : Nat, -128 ≤ Int32.toInt (qQ k) ∧ Int32.toInt (qQ k) ≤ 127) (hc0 : -1 ≤ SB ∧ SB ≤ 7) (hc1 : (Int32.toInt aG ≤ 0 ∧ SB = 0) ∨ (1 ≤ Int32.toInt aG ∧ SB = Int32.toInt aG - 1)) (hpost : ∀ (r : Int32) (xM : Int32) (xG : Int32) (aAP : Nat) (zS : Int32) (aAz : Int32) (aAm : Int32) (zH : Int32) (aAM : Int32) (zP : Int32) (yO : Int32) (zZ : Int32) (zO : Int32) (aAS : Int32) (aB9 : Int32) (aEo : Int32) (aEn : Int32) (aBX : Nat → Int32) (aA5 : Nat → Int32) (aCX : Nat → Int32) (aBR : Nat → Int32) (aGb : Nat → Int32), (-1 ≤ Int32.toInt r ∧ Int32.toInt r ≤ 2147483647) → (0 ≤ Int32.toInt xM ∧ Int32.toInt xM ≤ 16) → (0 ≤ Int32.toInt xG ∧ Int32.toInt xG ≤ 0) → (aAP = 0 ∨ aAP = 1 ∨ aAP = 2) → (0 ≤ Int32.toInt zS ∧ Int32.toInt zS ≤ 80) → (0 ≤ Int32.toInt aAz ∧ Int32.toInt aAz ≤ 80) → (0 ≤ Int32.toInt aAm ∧ Int32.toInt aAm ≤ 80) → (-1 ≤ Int32.toInt zH ∧ Int32.toInt zH ≤ 80) → (0 ≤ Int32.toInt aAM ∧ Int32.toInt aAM ≤ 0) → (0 ≤ Int32.toInt zP ∧ Int32.toInt zP ≤ 15) → (0 ≤ Int32.toInt yO ∧ Int32.toInt yO ≤ 7) → (0 ≤ Int32.toInt zZ ∧ Int32.toInt zZ ≤ 1) → (0 ≤ Int32.toInt zO ∧ Int32.toInt zO ≤ 63) → (0 ≤ Int32.toInt aAS ∧ Int32.toInt aAS ≤ 65535) → (0 ≤ Int32.toInt aB9 ∧ Int32.toInt aB9 ≤ 1000000) → (∀ k : Nat, 0 ≤ Int32.toInt (aA5 k) ∧ Int32.toInt (aA5 k) ≤ 65535) → (∀ k : Nat, 0 ≤ Int32.toInt (aCX k) ∧ Int32.toInt (aCX k) ≤ 1000000) → (∀ k : Nat, 0 ≤ Int32.toInt (aBR k) ∧ Int32.toInt (aBR k) ≤ 99) → post r xM xG aAP zS aAz aAm zH aAM zP yO zZ zO aAS aB9 aEo aEn aBX aA5 aCX aBR aGb) (hKn : ∀ (x1 : Int32) (x2 : Int32) (x3 : Int32) (x4 : Int32) (x5 : Int32) (bL : Int32) (bY : Int32) (jD : Nat) (m_length : Int32) (oF : Int32) (rP : Int32) (dQ : Int32) (bZ : Int32) (aR : Int32) (aE : Int32) (bI : Int32) (aW : Int32) (dO : Int32) (bM : Int32) (bQ : Int32) (bO : Int32) (sW : Nat → Int32) (sH : Nat → Int32) (uE : Nat → Int32) (oJ : Nat → Int32) (vK : Nat → Int32), (0 ≤ Int32.toInt x1 ∧ Int32.toInt x1 ≤ 9999) → (-1 ≤ Int32.toInt x2 ∧ Int32.toInt x2 ≤ 255) → (-1 ≤ Int32.toInt x3 ∧ Int32.toInt x3 ≤ 2147483647) → (-2147483648 ≤ Int32.toInt x4 ∧ Int32.toInt x4 ≤ 9999) → (0 ≤ Int32.toInt x5 ∧ Int32.toInt x5 ≤ 256) → (0 ≤ Int32.toInt bL ∧ Int32.toInt bL ≤ 16) → (0 ≤ Int32.toInt bY ∧ Int32.toInt bY ≤ 0) → (jD = 0 ∨ jD = 1 ∨ jD = 2) → (0 ≤ Int32.toInt m_length ∧ Int32.toInt m_length ≤ 80) → (0 ≤ Int32.toInt oF ∧ Int32.toInt oF ≤ 80) → (0 ≤ Int32.toInt rP ∧ Int32.toInt rP ≤ 80) → (-1 ≤ Int32.toInt dQ ∧ Int32.toInt dQ ≤ 80) → (0 ≤ Int32.toInt bZ ∧ Int32.toInt bZ ≤ 0) → (0 ≤ Int32.toInt aR ∧ Int32.toInt aR ≤ 15) → (0 ≤ Int32.toInt aE ∧ Int32.toInt aE ≤ 7) → (0 ≤ Int32.toInt bI ∧ Int32.toInt bI ≤ 1) → (0 ≤ Int32.toInt aW ∧ Int32.toInt aW ≤ 63) → (0 ≤ Int32.toInt dO ∧ Int32.toInt dO ≤ 65535) → (0 ≤ Int32.toInt bM ∧ Int32.toInt bM ≤ 1000000) → (∀ k : Nat, 0 ≤ Int32.toInt (sH k) ∧ Int32.toInt (sH k) ≤ 65535) → (∀ k : Nat, 0 ≤ Int32.toInt (uE k) ∧ Int32.toInt (uE k) ≤ 1000000) → (∀ k : Nat, 0 ≤ Int32.toInt (oJ k) ∧ Int32.toInt (oJ k) ≤ 99) → (256 - Int32.toInt x5 < n40) → next x1 x2 x3 x4 x5 bL bY jD m_length oF rP dQ bZ aR aE bI aW dO bM bQ bO sW sH uE oJ vK) (x1 x2 x3 x4 x5 bL bY : Int32) (jD : Nat) (m_length oF rP dQ bZ aR aE bI aW dO bM bQ bO : Int32) (sW sH uE oJ vK : Nat → Int32) (aBK : 0 ≤ Int32.toInt x1 ∧ Int32.toInt x1 ≤ 9999) (aBN : -1 ≤ Int32.toInt x2 ∧ Int32.toInt x2 ≤ 255) (aCH : -1 ≤ Int32.toInt x3 ∧ Int32.toInt x3 ≤ 2147483647) (aDO : -2147483648 ≤ Int32.toInt x4 ∧ Int32.toInt x4 ≤ 9999) (aF7 : 0 ≤ Int32.toInt x5 ∧ Int32.toInt x5 ≤ 256) (yJ : 0 ≤ Int32.toInt bL ∧ Int32.toInt bL ≤ 16) (yG : 0 ≤ Int32.toInt bY ∧ Int32.toInt bY ≤ 0) (yM : jD = 0 ∨ jD = 1 ∨ jD = 2) (zE : 0 ≤ Int32.toInt m_length ∧ Int32.toInt m_length ≤ 80) (aAR : 0 ≤ Int32.toInt oF ∧ Int32.toInt oF ≤ 80) (aA1 : 0 ≤ Int32.toInt rP ∧ Int32.toInt rP ≤ 80) (aAA : -1 ≤ Int32.toInt dQ ∧ Int32.toInt dQ ≤ 80) (zT : 0 ≤ Int32.toInt bZ ∧ Int32.toInt bZ ≤ 0) (yL : 0 ≤ Int32.toInt aR ∧ Int32.toInt aR ≤ 15) (xQ : 0 ≤ Int32.toInt aE ∧ Int32.toInt aE ≤ 7) (yY : 0 ≤ Int32.toInt bI ∧ Int32.toInt bI ≤ 1) (yK : 0 ≤ Int32.toInt aW ∧ Int32.toInt aW ≤ 63) (aAH : 0 ≤ Int32.toInt dO ∧ Int32.toInt dO ≤ 65535) (aAv : 0 ≤ Int32.toInt bM ∧ Int32.toInt bM ≤ 1000000) (zY : ∀ k : Nat, 0 ≤ Int32.toInt (sH k) ∧ Int32.toInt (sH k) ≤ 65535) (aAw : ∀ k : Nat, 0 ≤ Int32.toInt (uE k) ∧ Int32.toInt (uE k) ≤ 1000000) (zL : ∀ k : Nat, 0 ≤ Int32.toInt (oJ k) ∧ Int32.toInt (oJ k) ≤ 99) (hn40 : 256 - Int32.toInt x5 ≤ n40) : ws_X10_sweep_40 post next bT aG bW qG m_x gR pW qR nG oO pJ qO qQ x1 x2 x3 x4 x5 bL bY jD m_length oF rP dQ bZ aR aE bI aW dO bM bQ bO sW sH uE oJ vK := by
  have l0 := aE0
  have l1 := aEc
  have l2 := li_16
  intro v11 ev11
  have f12 := aDv 8 256 aG (by decide) (by omega)
  have hv11 := congrArg Int32.toInt ev11
  have f14 : Int32.toInt (v11 - 1) = Int32.toInt v11 - Int32.toInt (1 : Int32) := aCA _ _ (by omega)
  refine And.intro (fun c13 => ?_) (fun c13 => ?_)
  · skip
    have c13 := (aAd _ _).mp c13
    refine And.intro (aBZ (by omega)) ?_
    intro v15 ev15
    have f16 : Int32.toInt (0 + 1) = Int32.toInt (0 : Int32) + Int32.toInt (1 : Int32) := aAD _ _ (by omega)
    rw [← ev15] at f16
    refine And.intro (aBZ (by omega)) ?_
    intro v17 ev17
    have f18 : Int32.toInt (v15 + 1) = Int32.toInt v15 + Int32.toInt (1 : Int32) := aAD _ _ (by omega)
    rw [← ev17] at f18
    have f19 := aAT x3
    exact hpost _ _ _ _ _ _ _ _ _ _ _ _ _ _ _ _ _ _ _ _ _ _ aCH (by omega) yG yM zE aAR aA1 aAA zT yL xQ yY yK aAH aAv zY aAw zL
  · skip
    have c13 := mt (aAd _ _).mpr c13
    refine t_X10_workOf (by omega) xJ vZ aAH aAv xU xV yF yD xZ zY aAw zL (by omega) (by omega) (fun r24 aND aI4 aI3 m_load_23 h_m_workMoves_20 => ?_)
    have f26 := aAT r24
    refine And.intro (fun c25 => ?_) (fun c25 => ?_)
    · skip
      have c25 := (aAO _ _).mp c25
      refine aSL (by omega) vZ zY (fun r27 h_r27 => ?_)
      intro v28 ev28
      have f29 := aAQ dO r27 (by omega)
      have f30 := aBx dO r27 (by omega)
      have hv28 := congrArg Int32.toInt ev28
      intro v31 ev31
      have hv31 := congrArg Int32.toInt ev31
      refine aNU (by omega) xJ yR (fun r33 => ?_)
      have f35 := aAT r33
      have f36 := aAT x3
      refine And.intro (fun c34 => ?_) (fun c34 => ?_)
      · skip
        have c34 := (aAd _ _).mp c34
        have f37 := aAT x4
        have f38 := aAT aI4
        have f39 := aAT aI3
        exact ts_X10_sweep_122 bT aG bW qG m_x gR pW qR nG oO pJ qO qQ xJ vZ zQ xU xV aAW xK yR zM xT yF yD xZ zG zI hc0 hc1 hpost hKn x1 x2 x3 x4 x5 bL bY jD m_length oF rP dQ bZ aR aE bI aW dO aND aI4 aI3 sW sH uE oJ m_load_23 aBK aBN aCH aDO (by omega) yJ yG yM zE aAR aA1 aAA zT yL xQ yY yK aAH h_m_workMoves_20 zY aAw zL hn40
      · skip
        have c34 := mt (aAd _ _).mpr c34
        refine And.intro (fun c40 => ?_) (fun c40 => ?_)
        · skip
          have c40 := mt (zJ _ _).mpr c40
          have f41 := aAT aI4
          have f42 := aAT aI3
          exact ts_X10_sweep_112 bT aG bW qG m_x gR pW qR nG oO pJ qO qQ xJ vZ zQ xU xV aAW xK yR zM xT yF yD xZ zG zI hc0 hc1 hpost hKn x1 x5 r24 r33 bL bY jD m_length oF rP dQ bZ aR aE bI aW dO aND aI4 aI3 sW sH uE oJ m_load_23 aBK (by omega) (by omega) (by omega) yJ yG yM zE aAR aA1 aAA zT yL xQ yY yK aAH h_m_workMoves_20 zY aAw zL hn40
        · skip
          have c40 := (zJ _ _).mp c40
          have f44 := aAT x4
          refine And.intro (fun c43 => ?_) (fun c43 => ?_)
          · skip
            have c43 := (aAd _ _).mp c43
            have f45 := aAT aI4
            have f46 := aAT aI3
            exact ts_X10_sweep_112 bT aG bW qG m_x gR pW qR nG oO pJ qO qQ xJ vZ zQ xU xV aAW xK yR zM xT yF yD xZ zG zI hc0 hc1 hpost hKn x1 x5 r24 r33 bL bY jD m_length oF rP dQ bZ aR aE bI aW dO aND aI4 aI3 sW sH uE oJ m_load_23 aBK (by omega) (by omega) (by omega) yJ yG yM zE aAR aA1 aAA zT yL xQ yY yK aAH h_m_workMoves_20 zY aAw zL hn40
          · skip
            have c43 := mt (aAd _ _).mpr c43
            have f47 := aAT aI4
            have f48 := aAT aI3
            exact ts_X10_sweep_122 bT aG bW qG m_x gR pW qR nG oO pJ qO qQ xJ vZ zQ xU xV aAW xK yR zM xT yF yD xZ zG zI hc0 hc1 hpost hKn x1 x2 x3 x4 x5 bL bY jD m_length oF rP dQ bZ aR aE bI aW dO aND aI4 aI3 sW sH uE oJ m_load_23 aBK aBN aCH aDO (by omega) yJ yG yM zE aAR aA1 aAA zT yL xQ yY yK aAH h_m_workMoves_20 zY aAw zL hn40
    · skip
      have c25 := mt (aAO _ _).mpr c25
      have f49 := aAT x3
      have f50 := aAT x4
      have f51 := aAT aI4
      have f52 := aAT aI3
      exact ts_X10_sweep_122 bT aG bW qG m_x gR pW qR nG oO pJ qO qQ xJ vZ zQ xU xV aAW xK yR zM xT yF yD xZ zG zI hc0 hc1 hpost hKn x1 x2 x3 x4 x5 bL bY jD m_length oF rP dQ bZ aR aE bI aW dO aND aI4 aI3 sW sH uE oJ m_load_23 aBK aBN aCH aDO (by omega) yJ yG yM zE aAR aA1 aAA zT yL xQ yY yK aAH h_m_workMoves_20 zY aAw zL hn40
set_option maxHeartbeats 8000000 in
set_option maxRecDepth 200000 in
theorem tb_X10_sweep_40 {post : Int32 → Int32 → Int32 → Nat → Int32 → Int32 → Int32 → Int32 → Int32 → Int32 → Int32 → Int32 → Int32 → Int32 → Int32 → Int32 → Int32 → (Nat → Int32) → (Nat → Int32) → (Nat → Int32) → (Nat → Int32) → (Nat → Int32) → Prop} {SB : Int} (bT aG bW : Int32) (qG m_x gR pW qR nG oO pJ qO qQ : Nat → Int32) (xJ : 0 ≤ Int32.toInt bT ∧ Int32.toInt bT ≤ 16) (vZ : 0 ≤ Int32.toInt aG ∧ Int32.toInt aG ≤ 8) (zQ : 0 ≤ Int32.toInt bW ∧ Int32.toInt bW ≤ 40) (xU : ∀ k : Nat, k = 17 → -1 ≤ Int32.toInt (qG k) ∧ Int32.toInt (qG k) ≤ SB) (xV : ∀ k : Nat, k = 19 → 0 ≤ Int32.toInt (qG k) ∧ Int32.toInt (qG k) ≤ 9) (aAW : ∀ k : Nat, 0 ≤ Int32.toInt (m_x k) ∧ Int32.toInt (m_x k) ≤ 99) (xK : ∀ k : Nat, 0 ≤ Int32.toInt (gR k) ∧ Int32.toInt (gR k) ≤ 99) (yR : ∀ k : Nat, 0 ≤ Int32.toInt (pW k) ∧ Int32.toInt (pW k) ≤ 9) (zM : ∀ k : Nat, 0 ≤ Int32.toInt (qR k) ∧ Int32.toInt (qR k) ≤ 9) (xT : ∀ k : Nat, 0 ≤ Int32.toInt (nG k) ∧ Int32.toInt (nG k) ≤ 99) (yF : ∀ k : Nat, 0 ≤ Int32.toInt (oO k) ∧ Int32.toInt (oO k) ≤ 99) (yD : ∀ k : Nat, k = 4 → 1 ≤ Int32.toInt (pJ k) ∧ Int32.toInt (pJ k) ≤ 30) (xZ : ∀ k : Nat, k = 3 → 0 ≤ Int32.toInt (pJ k) ∧ Int32.toInt (pJ k) ≤ 9) (zG : ∀ k : Nat, -128 ≤ Int32.toInt (qO k) ∧ Int32.toInt (qO k) ≤ 127) (zI : ∀ k : Nat, -128 ≤ Int32.toInt (qQ k) ∧ Int32.toInt (qQ k) ≤ 127) (hc0 : -1 ≤ SB ∧ SB ≤ 7) (hc1 : (Int32.toInt aG ≤ 0 ∧ SB = 0) ∨ (1 ≤ Int32.toInt aG ∧ SB = Int32.toInt aG - 1)) (hpost : ∀ (r : Int32) (xM : Int32) (xG : Int32) (aAP : Nat) (zS : Int32) (aAz : Int32) (aAm : Int32) (zH : Int32) (aAM : Int32) (zP : Int32) (yO : Int32) (zZ : Int32) (zO : Int32) (aAS : Int32) (aB9 : Int32) (aEo : Int32) (aEn : Int32) (aBX : Nat → Int32) (aA5 : Nat → Int32) (aCX : Nat → Int32) (aBR : Nat → Int32) (aGb : Nat → Int32), (-1 ≤ Int32.toInt r ∧ Int32.toInt r ≤ 2147483647) → (0 ≤ Int32.toInt xM ∧ Int32.toInt xM ≤ 16) → (0 ≤ Int32.toInt xG ∧ Int32.toInt xG ≤ 0) → (aAP = 0 ∨ aAP = 1 ∨ aAP = 2) → (0 ≤ Int32.toInt zS ∧ Int32.toInt zS ≤ 80) → (0 ≤ Int32.toInt aAz ∧ Int32.toInt aAz ≤ 80) → (0 ≤ Int32.toInt aAm ∧ Int32.toInt aAm ≤ 80) → (-1 ≤ Int32.toInt zH ∧ Int32.toInt zH ≤ 80) → (0 ≤ Int32.toInt aAM ∧ Int32.toInt aAM ≤ 0) → (0 ≤ Int32.toInt zP ∧ Int32.toInt zP ≤ 15) → (0 ≤ Int32.toInt yO ∧ Int32.toInt yO ≤ 7) → (0 ≤ Int32.toInt zZ ∧ Int32.toInt zZ ≤ 1) → (0 ≤ Int32.toInt zO ∧ Int32.toInt zO ≤ 63) → (0 ≤ Int32.toInt aAS ∧ Int32.toInt aAS ≤ 65535) → (0 ≤ Int32.toInt aB9 ∧ Int32.toInt aB9 ≤ 1000000) → (∀ k : Nat, 0 ≤ Int32.toInt (aA5 k) ∧ Int32.toInt (aA5 k) ≤ 65535) → (∀ k : Nat, 0 ≤ Int32.toInt (aCX k) ∧ Int32.toInt (aCX k) ≤ 1000000) → (∀ k : Nat, 0 ≤ Int32.toInt (aBR k) ∧ Int32.toInt (aBR k) ≤ 99) → post r xM xG aAP zS aAz aAm zH aAM zP yO zZ zO aAS aB9 aEo aEn aBX aA5 aCX aBR aGb) : ∀ (n : Nat) (x1 x2 x3 x4 x5 bL bY : Int32) (jD : Nat) (m_length oF rP dQ bZ aR aE bI aW dO bM bQ bO : Int32) (sW sH uE oJ vK : Nat → Int32), (0 ≤ Int32.toInt x1 ∧ Int32.toInt x1 ≤ 9999) → (-1 ≤ Int32.toInt x2 ∧ Int32.toInt x2 ≤ 255) → (-1 ≤ Int32.toInt x3 ∧ Int32.toInt x3 ≤ 2147483647) → (-2147483648 ≤ Int32.toInt x4 ∧ Int32.toInt x4 ≤ 9999) → (0 ≤ Int32.toInt x5 ∧ Int32.toInt x5 ≤ 256) → (0 ≤ Int32.toInt bL ∧ Int32.toInt bL ≤ 16) → (0 ≤ Int32.toInt bY ∧ Int32.toInt bY ≤ 0) → (jD = 0 ∨ jD = 1 ∨ jD = 2) → (0 ≤ Int32.toInt m_length ∧ Int32.toInt m_length ≤ 80) → (0 ≤ Int32.toInt oF ∧ Int32.toInt oF ≤ 80) → (0 ≤ Int32.toInt rP ∧ Int32.toInt rP ≤ 80) → (-1 ≤ Int32.toInt dQ ∧ Int32.toInt dQ ≤ 80) → (0 ≤ Int32.toInt bZ ∧ Int32.toInt bZ ≤ 0) → (0 ≤ Int32.toInt aR ∧ Int32.toInt aR ≤ 15) → (0 ≤ Int32.toInt aE ∧ Int32.toInt aE ≤ 7) → (0 ≤ Int32.toInt bI ∧ Int32.toInt bI ≤ 1) → (0 ≤ Int32.toInt aW ∧ Int32.toInt aW ≤ 63) → (0 ≤ Int32.toInt dO ∧ Int32.toInt dO ≤ 65535) → (0 ≤ Int32.toInt bM ∧ Int32.toInt bM ≤ 1000000) → (∀ k : Nat, 0 ≤ Int32.toInt (sH k) ∧ Int32.toInt (sH k) ≤ 65535) → (∀ k : Nat, 0 ≤ Int32.toInt (uE k) ∧ Int32.toInt (uE k) ≤ 1000000) → (∀ k : Nat, 0 ≤ Int32.toInt (oJ k) ∧ Int32.toInt (oJ k) ≤ 99) → (256 - Int32.toInt x5 < (n : Int)) → wb_X10_sweep_40 post bT aG bW qG m_x gR pW qR nG oO pJ qO qQ n x1 x2 x3 x4 x5 bL bY jD m_length oF rP dQ bZ aR aE bI aW dO bM bQ bO sW sH uE oJ vK := by
  intro n
  induction n with
  | zero =>
    intro x1 x2 x3 x4 x5 bL bY jD m_length oF rP dQ bZ aR aE bI aW dO bM bQ bO sW sH uE oJ vK aBK aBN aCH aDO aF7 yJ yG yM zE aAR aA1 aAA zT yL xQ yY yK aAH aAv zY aAw zL hm
    exfalso; omega
  | succ n ih =>
    intro x1 x2 x3 x4 x5 bL bY jD m_length oF rP dQ bZ aR aE bI aW dO bM bQ bO sW sH uE oJ vK aBK aBN aCH aDO aF7 yJ yG yM zE aAR aA1 aAA zT yL xQ yY yK aAH aAv zY aAw zL hm
    exact ts_X10_sweep_40 bT aG bW qG m_x gR pW qR nG oO pJ qO qQ xJ vZ zQ xU xV aAW xK yR zM xT yF yD xZ zG zI hc0 hc1 hpost ih x1 x2 x3 x4 x5 bL bY jD m_length oF rP dQ bZ aR aE bI aW dO bM bQ bO sW sH uE oJ vK aBK aBN aCH aDO aF7 yJ yG yM zE aAR aA1 aAA zT yL xQ yY yK aAH aAv zY aAw zL (by omega)
set_option maxHeartbeats 8000000 in
set_option maxRecDepth 200000 in
theorem t_X10_sweep {post : Int32 → Int32 → Int32 → Nat → Int32 → Int32 → Int32 → Int32 → Int32 → Int32 → Int32 → Int32 → Int32 → Int32 → Int32 → Int32 → Int32 → (Nat → Int32) → (Nat → Int32) → (Nat → Int32) → (Nat → Int32) → (Nat → Int32) → Prop} {SB : Int} {p0 bT aG bL bY : Int32} {jD : Nat} {m_length oF rP dQ bW bZ aR aE bI aW dO bM bQ bO : Int32} {qG m_x gR pW qR nG oO pJ qO sW qQ sH uE oJ vK : Nat → Int32} (xJ : 0 ≤ Int32.toInt bT ∧ Int32.toInt bT ≤ 16) (vZ : 0 ≤ Int32.toInt aG ∧ Int32.toInt aG ≤ 8) (yJ : 0 ≤ Int32.toInt bL ∧ Int32.toInt bL ≤ 16) (yG : 0 ≤ Int32.toInt bY ∧ Int32.toInt bY ≤ 1) (yM : jD = 0 ∨ jD = 1 ∨ jD = 2) (zE : 0 ≤ Int32.toInt m_length ∧ Int32.toInt m_length ≤ 80) (aAR : 0 ≤ Int32.toInt oF ∧ Int32.toInt oF ≤ 80) (aA1 : 0 ≤ Int32.toInt rP ∧ Int32.toInt rP ≤ 80) (aAA : -1 ≤ Int32.toInt dQ ∧ Int32.toInt dQ ≤ 80) (zQ : 0 ≤ Int32.toInt bW ∧ Int32.toInt bW ≤ 40) (zT : 0 ≤ Int32.toInt bZ ∧ Int32.toInt bZ ≤ 0) (yL : 0 ≤ Int32.toInt aR ∧ Int32.toInt aR ≤ 15) (xQ : 0 ≤ Int32.toInt aE ∧ Int32.toInt aE ≤ 7) (yY : 0 ≤ Int32.toInt bI ∧ Int32.toInt bI ≤ 1) (yK : 0 ≤ Int32.toInt aW ∧ Int32.toInt aW ≤ 63) (aAH : 0 ≤ Int32.toInt dO ∧ Int32.toInt dO ≤ 65535) (aAv : 0 ≤ Int32.toInt bM ∧ Int32.toInt bM ≤ 1000000) (xU : ∀ k : Nat, k = 17 → -1 ≤ Int32.toInt (qG k) ∧ Int32.toInt (qG k) ≤ SB) (xV : ∀ k : Nat, k = 19 → 0 ≤ Int32.toInt (qG k) ∧ Int32.toInt (qG k) ≤ 9) (aAW : ∀ k : Nat, 0 ≤ Int32.toInt (m_x k) ∧ Int32.toInt (m_x k) ≤ 99) (xK : ∀ k : Nat, 0 ≤ Int32.toInt (gR k) ∧ Int32.toInt (gR k) ≤ 99) (yR : ∀ k : Nat, 0 ≤ Int32.toInt (pW k) ∧ Int32.toInt (pW k) ≤ 9) (zM : ∀ k : Nat, 0 ≤ Int32.toInt (qR k) ∧ Int32.toInt (qR k) ≤ 9) (xT : ∀ k : Nat, 0 ≤ Int32.toInt (nG k) ∧ Int32.toInt (nG k) ≤ 99) (yF : ∀ k : Nat, 0 ≤ Int32.toInt (oO k) ∧ Int32.toInt (oO k) ≤ 99) (yD : ∀ k : Nat, k = 4 → 1 ≤ Int32.toInt (pJ k) ∧ Int32.toInt (pJ k) ≤ 30) (xZ : ∀ k : Nat, k = 3 → 0 ≤ Int32.toInt (pJ k) ∧ Int32.toInt (pJ k) ≤ 9) (zG : ∀ k : Nat, -128 ≤ Int32.toInt (qO k) ∧ Int32.toInt (qO k) ≤ 127) (zI : ∀ k : Nat, -128 ≤ Int32.toInt (qQ k) ∧ Int32.toInt (qQ k) ≤ 127) (zY : ∀ k : Nat, 0 ≤ Int32.toInt (sH k) ∧ Int32.toInt (sH k) ≤ 65535) (aAw : ∀ k : Nat, 0 ≤ Int32.toInt (uE k) ∧ Int32.toInt (uE k) ≤ 1000000) (zL : ∀ k : Nat, 0 ≤ Int32.toInt (oJ k) ∧ Int32.toInt (oJ k) ≤ 99) (hc0 : -1 ≤ SB ∧ SB ≤ 7) (hc1 : (Int32.toInt aG ≤ 0 ∧ SB = 0) ∨ (1 ≤ Int32.toInt aG ∧ SB = Int32.toInt aG - 1)) (hpost : ∀ (r : Int32) (xM : Int32) (xG : Int32) (aAP : Nat) (zS : Int32) (aAz : Int32) (aAm : Int32) (zH : Int32) (aAM : Int32) (zP : Int32) (yO : Int32) (zZ : Int32) (zO : Int32) (aAS : Int32) (aB9 : Int32) (aEo : Int32) (aEn : Int32) (aBX : Nat → Int32) (aA5 : Nat → Int32) (aCX : Nat → Int32) (aBR : Nat → Int32) (aGb : Nat → Int32), (-1 ≤ Int32.toInt r ∧ Int32.toInt r ≤ 2147483647) → (0 ≤ Int32.toInt xM ∧ Int32.toInt xM ≤ 16) → (0 ≤ Int32.toInt xG ∧ Int32.toInt xG ≤ 0) → (aAP = 0 ∨ aAP = 1 ∨ aAP = 2) → (0 ≤ Int32.toInt zS ∧ Int32.toInt zS ≤ 80) → (0 ≤ Int32.toInt aAz ∧ Int32.toInt aAz ≤ 80) → (0 ≤ Int32.toInt aAm ∧ Int32.toInt aAm ≤ 80) → (-1 ≤ Int32.toInt zH ∧ Int32.toInt zH ≤ 80) → (0 ≤ Int32.toInt aAM ∧ Int32.toInt aAM ≤ 0) → (0 ≤ Int32.toInt zP ∧ Int32.toInt zP ≤ 15) → (0 ≤ Int32.toInt yO ∧ Int32.toInt yO ≤ 7) → (0 ≤ Int32.toInt zZ ∧ Int32.toInt zZ ≤ 1) → (0 ≤ Int32.toInt zO ∧ Int32.toInt zO ≤ 63) → (0 ≤ Int32.toInt aAS ∧ Int32.toInt aAS ≤ 65535) → (0 ≤ Int32.toInt aB9 ∧ Int32.toInt aB9 ≤ 1000000) → (∀ k : Nat, 0 ≤ Int32.toInt (aA5 k) ∧ Int32.toInt (aA5 k) ≤ 65535) → (∀ k : Nat, 0 ≤ Int32.toInt (aCX k) ∧ Int32.toInt (aCX k) ≤ 1000000) → (∀ k : Nat, 0 ≤ Int32.toInt (aBR k) ∧ Int32.toInt (aBR k) ≤ 99) → post r xM xG aAP zS aAz aAm zH aAM zP yO zZ zO aAS aB9 aEo aEn aBX aA5 aCX aBR aGb) : wp_X10_sweep post p0 bT aG bL bY jD m_length oF rP dQ bW bZ aR aE bI aW dO bM bQ bO qG m_x gR pW qR nG oO pJ qO sW qQ sH uE oJ vK := by
  have l0 := aI2
  have l1 := aE0
  have l2 := li_18
  have l3 := li_9999
  have f54 := aAT p0
  refine And.intro (fun c53 => ?_) (fun c53 => ?_)
  · skip
    have c53 := (aAd _ _).mp c53
    refine And.intro (fun h9 => absurd h9 (by decide)) (fun _ => ?_)
    exact hpost _ _ _ _ _ _ _ _ _ _ _ _ _ _ _ _ _ _ _ _ _ _ (by omega) yJ (by omega) yM zE aAR aA1 aAA zT yL xQ yY yK aAH aAv zY aAw zL
  · skip
    have c53 := mt (aAd _ _).mpr c53
    refine And.intro (fun c55 => ?_) (fun c55 => ?_)
    · skip
      have c55 := (aAd _ _).mp c55
      refine And.intro (fun h9 => absurd h9 (by decide)) (fun _ => ?_)
      exact hpost _ _ _ _ _ _ _ _ _ _ _ _ _ _ _ _ _ _ _ _ _ _ (by omega) yJ (by omega) yM zE aAR aA1 aAA zT yL xQ yY yK aAH aAv zY aAw zL
    · skip
      have c55 := mt (aAd _ _).mpr c55
      refine And.intro (fun _ => ?_) (fun h9 => absurd h9 (by decide))
      intro v56 ev56
      have hv56 := congrArg Int32.toInt ev56
      refine aLb xJ vZ aAH xU xV aAW xK zM xT yF yD xZ zY (by omega) (by omega) (fun m_wanted_58 m_hand_59 h_m_wanted_58 h_m_hand_59 => ?_)
      refine t_X10_layMoves vZ xT yD xZ aAw (fun m_moves_60 h_m_moves_60 ox61 => ?_)
      refine t_X10_laySeconds xJ vZ yM zE aAR aA1 aAA zQ zT yL xQ yY yK aAW xK yR xT yF zG zI zL (fun m_read_62 m_length_63 m_top_64 m_at_65 m_wrong_66 m_isAsked_67 m_askedFruit_68 m_askedStanding_69 m_askedHook_70 m_askedApron_71 m_handSeconds_72 h_m_read_62 h_m_length_63 h_m_top_64 h_m_at_65 h_m_wrong_66 h_m_isAsked_67 h_m_askedFruit_68 h_m_askedStanding_69 h_m_askedHook_70 h_m_askedApron_71 h_m_handSeconds_72 => ?_)
      have f73 := aAT bQ
      have f74 := aAT bO
      exact ⟨258, tb_X10_sweep_40 bT aG bW qG m_x gR pW qR nG oO pJ qO qQ xJ vZ zQ xU xV aAW xK yR zM xT yF yD xZ zG zI hc0 hc1 hpost _ p0 (-1) (-1) 0 0 bL 0 m_read_62 m_length_63 m_top_64 m_at_65 m_wrong_66 m_isAsked_67 m_askedFruit_68 m_askedStanding_69 m_askedHook_70 m_askedApron_71 m_wanted_58 bM bQ bO sW m_hand_59 m_moves_60 m_handSeconds_72 vK (by omega) (by omega) (by omega) (by omega) (by omega) yJ (by omega) h_m_read_62 h_m_length_63 h_m_top_64 h_m_at_65 h_m_wrong_66 h_m_isAsked_67 h_m_askedFruit_68 h_m_askedStanding_69 h_m_askedHook_70 h_m_askedApron_71 h_m_wanted_58 aAv h_m_hand_59 h_m_moves_60 h_m_handSeconds_72 (by omega)⟩
