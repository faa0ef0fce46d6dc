set_option maxHeartbeats 8000000 in
set_option maxRecDepth 200000 in
theorem ts_X10_birds_82 {post : Int32 → Int32 → Int32 → Int32 → (Nat → Int32) → (Nat → Int32) → Prop} {SB : Int} {K25 : Int32 → Int32 → Int32 → Int32 → Int32 → Int32 → (Nat → Int32) → (Nat → Int32) → Prop} {n25 : Int} (bT aG : Int32) (qG m_x gR pW qR nG oO pJ : Nat → Int32) (xJ : 0 ≤ Int32.toInt bT ∧ Int32.toInt bT ≤ 16) (vZ : 0 ≤ Int32.toInt aG ∧ Int32.toInt aG ≤ 8) (xU : ∀ k : Nat, k = 17 → -1 ≤ Int32.toInt (qG k) ∧ Int32.toInt (qG k) ≤ SB) (xV : ∀ k : Nat, k = 19 → 0 ≤ Int32.toInt (qG k) ∧ Int32.toInt (qG k) ≤ 9) (aAW : ∀ k : Nat, 0 ≤ Int32.toInt (m_x k) ∧ Int32.toInt (m_x k) ≤ 99) (xK : ∀ k : Nat, 0 ≤ Int32.toInt (gR k) ∧ Int32.toInt (gR k) ≤ 99) (yR : ∀ k : Nat, 0 ≤ Int32.toInt (pW k) ∧ Int32.toInt (pW k) ≤ 9) (zM : ∀ k : Nat, 0 ≤ Int32.toInt (qR k) ∧ Int32.toInt (qR k) ≤ 9) (xT : ∀ k : Nat, 0 ≤ Int32.toInt (nG k) ∧ Int32.toInt (nG k) ≤ 99) (yF : ∀ k : Nat, 0 ≤ Int32.toInt (oO k) ∧ Int32.toInt (oO k) ≤ 99) (yD : ∀ k : Nat, k = 4 → 1 ≤ Int32.toInt (pJ k) ∧ Int32.toInt (pJ k) ≤ 30) (xZ : ∀ k : Nat, k = 3 → 0 ≤ Int32.toInt (pJ k) ∧ Int32.toInt (pJ k) ≤ 9) (hc0 : -1 ≤ SB ∧ SB ≤ 7) (hc1 : (Int32.toInt aG ≤ 0 ∧ SB = 0) ∨ (1 ≤ Int32.toInt aG ∧ SB = Int32.toInt aG - 1)) (hpost : ∀ (r : Int32) (xM : Int32) (xG : Int32) (aAS : Int32) (aBX : Nat → Int32) (aA5 : Nat → Int32), (0 ≤ Int32.toInt xM ∧ Int32.toInt xM ≤ 16) → (0 ≤ Int32.toInt xG ∧ Int32.toInt xG ≤ 0) → (0 ≤ Int32.toInt aAS ∧ Int32.toInt aAS ≤ 65535) → (∀ k : Nat, 0 ≤ Int32.toInt (aA5 k) ∧ Int32.toInt (aA5 k) ≤ 65535) → post r xM xG aAS aBX aA5) (hK25 : ∀ (x1 : Int32) (x2 : Int32) (x3 : Int32) (bL : Int32) (bY : Int32) (dO : Int32) (sW : Nat → Int32) (sH : Nat → Int32), (0 ≤ Int32.toInt x1 ∧ Int32.toInt x1 ≤ 8) → (0 ≤ Int32.toInt x2 ∧ Int32.toInt x2 ≤ 255) → (1 ≤ Int32.toInt x3 ∧ Int32.toInt x3 ≤ 256) → (0 ≤ Int32.toInt bL ∧ Int32.toInt bL ≤ 16) → (0 ≤ Int32.toInt bY ∧ Int32.toInt bY ≤ 0) → (0 ≤ Int32.toInt dO ∧ Int32.toInt dO ≤ 65535) → (∀ k : Nat, 0 ≤ Int32.toInt (sH k) ∧ Int32.toInt (sH k) ≤ 65535) → (256 - Int32.toInt x3 < n25) → K25 x1 x2 x3 bL bY dO sW sH) (x1 x2 x3 bL bY dO : Int32) (sW sH : Nat → Int32) (aBK : 0 ≤ Int32.toInt x1 ∧ Int32.toInt x1 ≤ 8) (aBN : 0 ≤ Int32.toInt x2 ∧ Int32.toInt x2 ≤ 255) (aCH : 1 ≤ Int32.toInt x3 ∧ Int32.toInt x3 ≤ 255) (yJ : 0 ≤ Int32.toInt bL ∧ Int32.toInt bL ≤ 16) (yG : 0 ≤ Int32.toInt bY ∧ Int32.toInt bY ≤ 0) (aAH : 0 ≤ Int32.toInt dO ∧ Int32.toInt dO ≤ 65535) (zY : ∀ k : Nat, 0 ≤ Int32.toInt (sH k) ∧ Int32.toInt (sH k) ≤ 65535) (hn25 : 256 - Int32.toInt x3 ≤ n25) : ws_X10_birds_82 post K25 bT aG qG m_x gR pW qR nG oO pJ x1 x2 x3 bL bY dO sW sH := by
  have l0 := aEc
  intro v1 ev1
  have f2 : Int32.toInt (x3 + 1) = Int32.toInt x3 + Int32.toInt (1 : Int32) := aAD _ _ (by omega)
  rw [← ev1] at f2
  exact hK25 x1 x2 v1 bL bY dO sW sH aBK aBN (by omega) yJ yG aAH zY (by omega)
set_option maxHeartbeats 8000000 in
set_option maxRecDepth 200000 in
theorem ts_X10_birds_80 {post : Int32 → Int32 → Int32 → Int32 → (Nat → Int32) → (Nat → Int32) → Prop} {SB : Int} {K25 : Int32 → Int32 → Int32 → Int32 → Int32 → Int32 → (Nat → Int32) → (Nat → Int32) → Prop} {n25 : Int} (bT aG : Int32) (qG m_x gR pW qR nG oO pJ : Nat → Int32) (xJ : 0 ≤ Int32.toInt bT ∧ Int32.toInt bT ≤ 16) (vZ : 0 ≤ Int32.toInt aG ∧ Int32.toInt aG ≤ 8) (xU : ∀ k : Nat, k = 17 → -1 ≤ Int32.toInt (qG k) ∧ Int32.toInt (qG k) ≤ SB) (xV : ∀ k : Nat, k = 19 → 0 ≤ Int32.toInt (qG k) ∧ Int32.toInt (qG k) ≤ 9) (aAW : ∀ k : Nat, 0 ≤ Int32.toInt (m_x k) ∧ Int32.toInt (m_x k) ≤ 99) (xK : ∀ k : Nat, 0 ≤ Int32.toInt (gR k) ∧ Int32.toInt (gR k) ≤ 99) (yR : ∀ k : Nat, 0 ≤ Int32.toInt (pW k) ∧ Int32.toInt (pW k) ≤ 9) (zM : ∀ k : Nat, 0 ≤ Int32.toInt (qR k) ∧ Int32.toInt (qR k) ≤ 9) (xT : ∀ k : Nat, 0 ≤ Int32.toInt (nG k) ∧ Int32.toInt (nG k) ≤ 99) (yF : ∀ k : Nat, 0 ≤ Int32.toInt (oO k) ∧ Int32.toInt (oO k) ≤ 99) (yD : ∀ k : Nat, k = 4 → 1 ≤ Int32.toInt (pJ k) ∧ Int32.toInt (pJ k) ≤ 30) (xZ : ∀ k : Nat, k = 3 → 0 ≤ Int32.toInt (pJ k) ∧ Int32.toInt (pJ k) ≤ 9) (hc0 : -1 ≤ SB ∧ SB ≤ 7) (hc1 : (Int32.toInt aG ≤ 0 ∧ SB = 0) ∨ (1 ≤ Int32.toInt aG ∧ SB = Int32.toInt aG - 1)) (hpost : ∀ (r : Int32) (xM : Int32) (xG : Int32) (aAS : Int32) (aBX : Nat → Int32) (aA5 : Nat → Int32), (0 ≤ Int32.toInt xM ∧ Int32.toInt xM ≤ 16) → (0 ≤ Int32.toInt xG ∧ Int32.toInt xG ≤ 0) → (0 ≤ Int32.toInt aAS ∧ Int32.toInt aAS ≤ 65535) → (∀ k : Nat, 0 ≤ Int32.toInt (aA5 k) ∧ Int32.toInt (aA5 k) ≤ 65535) → post r xM xG aAS aBX aA5) (hK25 : ∀ (x1 : Int32) (x2 : Int32) (x3 : Int32) (bL : Int32) (bY : Int32) (dO : Int32) (sW : Nat → Int32) (sH : Nat → Int32), (0 ≤ Int32.toInt x1 ∧ Int32.toInt x1 ≤ 8) → (0 ≤ Int32.toInt x2 ∧ Int32.toInt x2 ≤ 255) → (1 ≤ Int32.toInt x3 ∧ Int32.toInt x3 ≤ 256) → (0 ≤ Int32.toInt bL ∧ Int32.toInt bL ≤ 16) → (0 ≤ Int32.toInt bY ∧ Int32.toInt bY ≤ 0) → (0 ≤ Int32.toInt dO ∧ Int32.toInt dO ≤ 65535) → (∀ k : Nat, 0 ≤ Int32.toInt (sH k) ∧ Int32.toInt (sH k) ≤ 65535) → (256 - Int32.toInt x3 < n25) → K25 x1 x2 x3 bL bY dO sW sH) (x1 x3 bL bY dO : Int32) (sW sH : Nat → Int32) (aBK : 0 ≤ Int32.toInt x1 ∧ Int32.toInt x1 ≤ 8) (aCH : 1 ≤ Int32.toInt x3 ∧ Int32.toInt x3 ≤ 255) (yJ : 0 ≤ Int32.toInt bL ∧ Int32.toInt bL ≤ 16) (yG : 0 ≤ Int32.toInt bY ∧ Int32.toInt bY ≤ 0) (aAH : 0 ≤ Int32.toInt dO ∧ Int32.toInt dO ≤ 65535) (zY : ∀ k : Nat, 0 ≤ Int32.toInt (sH k) ∧ Int32.toInt (sH k) ≤ 65535) (hn25 : 256 - Int32.toInt x3 ≤ n25) : ws_X10_birds_80 post K25 bT aG qG m_x gR pW qR nG oO pJ x1 x3 bL bY dO sW sH := by
  exact ts_X10_birds_82 bT aG qG m_x gR pW qR nG oO pJ xJ vZ xU xV aAW xK yR zM xT yF yD xZ hc0 hc1 hpost hK25 x1 x3 x3 bL bY dO sW sH aBK (by omega) aCH yJ yG aAH zY hn25
set_option maxHeartbeats 8000000 in
set_option maxRecDepth 200000 in
theorem ts_X10_birds_25 {post : Int32 → Int32 → Int32 → Int32 → (Nat → Int32) → (Nat → Int32) → Prop} {SB : Int} {next : Int32 → Int32 → Int32 → Int32 → Int32 → Int32 → (Nat → Int32) → (Nat → Int32) → Prop} {n25 : Int} (bT aG : Int32) (qG m_x gR pW qR nG oO pJ : Nat → Int32) (xJ : 0 ≤ Int32.toInt bT ∧ Int32.toInt bT ≤ 16) (vZ : 0 ≤ Int32.toInt aG ∧ Int32.toInt aG ≤ 8) (xU : ∀ k : Nat, k = 17 → -1 ≤ Int32.toInt (qG k) ∧ Int32.toInt (qG k) ≤ SB) (xV : ∀ k : Nat, k = 19 → 0 ≤ Int32.toInt (qG k) ∧ Int32.toInt (qG k) ≤ 9) (aAW : ∀ k : Nat, 0 ≤ Int32.toInt (m_x k) ∧ Int32.toInt (m_x k) ≤ 99) (xK : ∀ k : Nat, 0 ≤ Int32.toInt (gR k) ∧ Int32.toInt (gR k) ≤ 99) (yR : ∀ k : Nat, 0 ≤ Int32.toInt (pW k) ∧ Int32.toInt (pW k) ≤ 9) (zM : ∀ k : Nat, 0 ≤ Int32.toInt (qR k) ∧ Int32.toInt (qR k) ≤ 9) (xT : ∀ k : Nat, 0 ≤ Int32.toInt (nG k) ∧ Int32.toInt (nG k) ≤ 99) (yF : ∀ k : Nat, 0 ≤ Int32.toInt (oO k) ∧ Int32.toInt (oO k) ≤ 99) (yD : ∀ k : Nat, k = 4 → 1 ≤ Int32.toInt (pJ k) ∧ Int32.toInt (pJ k) ≤ 30) (xZ : ∀ k : Nat, k = 3 → 0 ≤ Int32.toInt (pJ k) ∧ Int32.toInt (pJ k) ≤ 9) (hc0 : -1 ≤ SB ∧ SB ≤ 7) (hc1 : (Int32.toInt aG ≤ 0 ∧ SB = 0) ∨ (1 ≤ Int32.toInt aG ∧ SB = Int32.toInt aG - 1)) (hpost : ∀ (r : Int32) (xM : Int32) (xG : Int32) (aAS : Int32) (aBX : Nat → Int32) (aA5 : Nat → Int32), (0 ≤ Int32.toInt xM ∧ Int32.toInt xM ≤ 16) → (0 ≤ Int32.toInt xG ∧ Int32.toInt xG ≤ 0) → (0 ≤ Int32.toInt aAS ∧ Int32.toInt aAS ≤ 65535) → (∀ k : Nat, 0 ≤ Int32.toInt (aA5 k) ∧ Int32.toInt (aA5 k) ≤ 65535) → post r xM xG aAS aBX aA5) (hKn : ∀ (x1 : Int32) (x2 : Int32) (x3 : Int32) (bL : Int32) (bY : Int32) (dO : Int32) (sW : Nat → Int32) (sH : Nat → Int32), (0 ≤ Int32.toInt x1 ∧ Int32.toInt x1 ≤ 8) → (0 ≤ Int32.toInt x2 ∧ Int32.toInt x2 ≤ 255) → (1 ≤ Int32.toInt x3 ∧ Int32.toInt x3 ≤ 256) → (0 ≤ Int32.toInt bL ∧ Int32.toInt bL ≤ 16) → (0 ≤ Int32.toInt bY ∧ Int32.toInt bY ≤ 0) → (0 ≤ Int32.toInt dO ∧ Int32.toInt dO ≤ 65535) → (∀ k : Nat, 0 ≤ Int32.toInt (sH k) ∧ Int32.toInt (sH k) ≤ 65535) → (256 - Int32.toInt x3 < n25) → next x1 x2 x3 bL bY dO sW sH) (x1 x2 x3 bL bY dO : Int32) (sW sH : Nat → Int32) (aBK : 0 ≤ Int32.toInt x1 ∧ Int32.toInt x1 ≤ 8) (aBN : 0 ≤ Int32.toInt x2 ∧ Int32.toInt x2 ≤ 255) (aCH : 1 ≤ Int32.toInt x3 ∧ Int32.toInt x3 ≤ 256) (yJ : 0 ≤ Int32.toInt bL ∧ Int32.toInt bL ≤ 16) (yG : 0 ≤ Int32.toInt bY ∧ Int32.toInt bY ≤ 0) (aAH : 0 ≤ Int32.toInt dO ∧ Int32.toInt dO ≤ 65535) (zY : ∀ k : Nat, 0 ≤ Int32.toInt (sH k) ∧ Int32.toInt (sH k) ≤ 65535) (hn25 : 256 - Int32.toInt x3 ≤ n25) : ws_X10_birds_25 post next bT aG qG m_x gR pW qR nG oO pJ x1 x2 x3 bL bY dO sW sH := by
  have l0 := aE0
  have l1 := aEc
  have l2 := aKH
  have l3 := li_16
  have l4 := aJ8
  have l5 := li_63
  have l6 := aJ9
  intro v3 ev3
  have f4 := aDv 8 256 aG (by decide) (by omega)
  have hv3 := congrArg Int32.toInt ev3
  have f6 : Int32.toInt (v3 - 1) = Int32.toInt v3 - Int32.toInt (1 : Int32) := aCA _ _ (by omega)
  refine And.intro (fun c5 => ?_) (fun c5 => ?_)
  · skip
    have c5 := (aAd _ _).mp c5
    refine And.intro (aBZ (by omega)) ?_
    intro v7 ev7
    have f8 : Int32.toInt (0 + 1) = Int32.toInt (0 : Int32) + Int32.toInt (1 : Int32) := aAD _ _ (by omega)
    rw [← ev7] at f8
    refine aSL aBN vZ zY (fun r9 h_r9 => ?_)
    intro v10 ev10
    have f12 := aBx dO (r9 ^^^ (-1)) (by omega)
    have hv10 := congrArg Int32.toInt ev10
    refine And.intro (aBZ (by omega)) ?_
    intro v13 ev13
    have f14 : Int32.toInt (v7 + 1) = Int32.toInt v7 + Int32.toInt (1 : Int32) := aAD _ _ (by omega)
    rw [← ev13] at f14
    refine aSL aBN vZ zY (fun r15 h_r15 => ?_)
    intro v16 ev16
    have f18 := aBx dO (r15 ^^^ (-1)) (by omega)
    have hv16 := congrArg Int32.toInt ev16
    intro v19 ev19
    have hv19 := congrArg Int32.toInt ev19
    refine aNU (by omega) xJ yR (fun r21 => ?_)
    exact hpost _ _ _ _ _ _ (by omega) yG aAH zY
  · skip
    have c5 := mt (aAd _ _).mpr c5
    intro v22 ev22
    intro v23 ev23
    have f25 := aAQ v22 1431655765 (by omega)
    have f24 : Int32.toInt (x3 - (v22 &&& 1431655765)) = Int32.toInt x3 - Int32.toInt (v22 &&& 1431655765) := aCA _ _ (by omega)
    rw [← ev23] at f24
    intro v26 ev26
    have f27 := aAQ v23 858993459 (by omega)
    have hv26 := congrArg Int32.toInt ev26
    intro v28 ev28
    intro v29 ev29
    have f31 := aAQ v28 858993459 (by omega)
    have f30 : Int32.toInt (v26 + (v28 &&& 858993459)) = Int32.toInt v26 + Int32.toInt (v28 &&& 858993459) := aAD _ _ (by omega)
    rw [← ev29] at f30
    intro v32 ev32
    have hv32 := congrArg Int32.toInt ev32
    intro v34 ev34
    have f35 := aAQ v32 252645135 (by omega)
    have hv34 := congrArg Int32.toInt ev34
    intro v36 ev36
    have hv36 := congrArg Int32.toInt ev36
    intro v38 ev38
    have hv38 := congrArg Int32.toInt ev38
    have f41 := aAQ v38 63 (by omega)
    refine And.intro (fun c40 => ?_) (fun c40 => ?_)
    · skip
      have c40 := (aAO _ _).mp c40
      refine aSL (by omega) vZ zY (fun r42 h_r42 => ?_)
      intro v43 ev43
      have f45 := aBx dO (r42 ^^^ (-1)) (by omega)
      have hv43 := congrArg Int32.toInt ev43
      intro v46 ev46
      have hv46 := congrArg Int32.toInt ev46
      refine aNU (by omega) xJ yR (fun r48 => ?_)
      refine aSL aBN vZ zY (fun r49 h_r49 => ?_)
      intro v50 ev50
      have f52 := aBx dO (r49 ^^^ (-1)) (by omega)
      have hv50 := congrArg Int32.toInt ev50
      intro v53 ev53
      have hv53 := congrArg Int32.toInt ev53
      refine aNU (by omega) xJ yR (fun r54 => ?_)
      intro v55 ev55
      have hv55 := congrArg Int32.toInt ev55
      have f58 := aAT v55
      refine And.intro (fun c57 => ?_) (fun c57 => ?_)
      · skip
        have c57 := (aAd _ _).mp c57
        exact ts_X10_birds_80 bT aG qG m_x gR pW qR nG oO pJ xJ vZ xU xV aAW xK yR zM xT yF yD xZ hc0 hc1 hpost hKn x1 x3 bL bY dO sW sH aBK (by omega) yJ yG aAH zY hn25
      · skip
        have c57 := mt (aAd _ _).mpr c57
        refine And.intro (fun c59 => ?_) (fun c59 => ?_)
        · skip
          have c59 := mt (zJ _ _).mpr c59
          exact ts_X10_birds_82 bT aG qG m_x gR pW qR nG oO pJ xJ vZ xU xV aAW xK yR zM xT yF yD xZ hc0 hc1 hpost hKn x1 x2 x3 bL bY dO sW sH aBK aBN (by omega) yJ yG aAH zY hn25
        · skip
          have c59 := (zJ _ _).mp c59
          intro v60 ev60
          intro v61 ev61
          have f63 := aAQ v60 1431655765 (by omega)
          have f62 : Int32.toInt (x2 - (v60 &&& 1431655765)) = Int32.toInt x2 - Int32.toInt (v60 &&& 1431655765) := aCA _ _ (by omega)
          rw [← ev61] at f62
          intro v64 ev64
          have f65 := aAQ v61 858993459 (by omega)
          have hv64 := congrArg Int32.toInt ev64
          intro v66 ev66
          intro v67 ev67
          have f69 := aAQ v66 858993459 (by omega)
          have f68 : Int32.toInt (v64 + (v66 &&& 858993459)) = Int32.toInt v64 + Int32.toInt (v66 &&& 858993459) := aAD _ _ (by omega)
          rw [← ev67] at f68
          intro v70 ev70
          have hv70 := congrArg Int32.toInt ev70
          intro v72 ev72
          have f73 := aAQ v70 252645135 (by omega)
          have hv72 := congrArg Int32.toInt ev72
          intro v74 ev74
          have hv74 := congrArg Int32.toInt ev74
          intro v76 ev76
          have hv76 := congrArg Int32.toInt ev76
          have f79 := aAQ v76 63 (by omega)
          refine And.intro (fun c78 => ?_) (fun c78 => ?_)
          · skip
            have c78 := (aAO _ _).mp c78
            exact ts_X10_birds_82 bT aG qG m_x gR pW qR nG oO pJ xJ vZ xU xV aAW xK yR zM xT yF yD xZ hc0 hc1 hpost hKn x1 x2 x3 bL bY dO sW sH aBK aBN (by omega) yJ yG aAH zY hn25
          · skip
            have c78 := mt (aAO _ _).mpr c78
            exact ts_X10_birds_80 bT aG qG m_x gR pW qR nG oO pJ xJ vZ xU xV aAW xK yR zM xT yF yD xZ hc0 hc1 hpost hKn x1 x3 bL bY dO sW sH aBK (by omega) yJ yG aAH zY hn25
    · skip
      have c40 := mt (aAO _ _).mpr c40
      exact ts_X10_birds_82 bT aG qG m_x gR pW qR nG oO pJ xJ vZ xU xV aAW xK yR zM xT yF yD xZ hc0 hc1 hpost hKn x1 x2 x3 bL bY dO sW sH aBK aBN (by omega) yJ yG aAH zY hn25
set_option maxHeartbeats 8000000 in
set_option maxRecDepth 200000 in
theorem tb_X10_birds_25 {post : Int32 → Int32 → Int32 → Int32 → (Nat → Int32) → (Nat → Int32) → Prop} {SB : Int} (bT aG : Int32) (qG m_x gR pW qR nG oO pJ : Nat → Int32) (xJ : 0 ≤ Int32.toInt bT ∧ Int32.toInt bT ≤ 16) (vZ : 0 ≤ Int32.toInt aG ∧ Int32.toInt aG ≤ 8) (xU : ∀ k : Nat, k = 17 → -1 ≤ Int32.toInt (qG k) ∧ Int32.toInt (qG k) ≤ SB) (xV : ∀ k : Nat, k = 19 → 0 ≤ Int32.toInt (qG k) ∧ Int32.toInt (qG k) ≤ 9) (aAW : ∀ k : Nat, 0 ≤ Int32.toInt (m_x k) ∧ Int32.toInt (m_x k) ≤ 99) (xK : ∀ k : Nat, 0 ≤ Int32.toInt (gR k) ∧ Int32.toInt (gR k) ≤ 99) (yR : ∀ k : Nat, 0 ≤ Int32.toInt (pW k) ∧ Int32.toInt (pW k) ≤ 9) (zM : ∀ k : Nat, 0 ≤ Int32.toInt (qR k) ∧ Int32.toInt (qR k) ≤ 9) (xT : ∀ k : Nat, 0 ≤ Int32.toInt (nG k) ∧ Int32.toInt (nG k) ≤ 99) (yF : ∀ k : Nat, 0 ≤ Int32.toInt (oO k) ∧ Int32.toInt (oO k) ≤ 99) (yD : ∀ k : Nat, k = 4 → 1 ≤ Int32.toInt (pJ k) ∧ Int32.toInt (pJ k) ≤ 30) (xZ : ∀ k : Nat, k = 3 → 0 ≤ Int32.toInt (pJ k) ∧ Int32.toInt (pJ k) ≤ 9) (hc0 : -1 ≤ SB ∧ SB ≤ 7) (hc1 : (Int32.toInt aG ≤ 0 ∧ SB = 0) ∨ (1 ≤ Int32.toInt aG ∧ SB = Int32.toInt aG - 1)) (hpost : ∀ (r : Int32) (xM : Int32) (xG : Int32) (aAS : Int32) (aBX : Nat → Int32) (aA5 : Nat → Int32), (0 ≤ Int32.toInt xM ∧ Int32.toInt xM ≤ 16) → (0 ≤ Int32.toInt xG ∧ Int32.toInt xG ≤ 0) → (0 ≤ Int32.toInt aAS ∧ Int32.toInt aAS ≤ 65535) → (∀ k : Nat, 0 ≤ Int32.toInt (aA5 k) ∧ Int32.toInt (aA5 k) ≤ 65535) → post r xM xG aAS aBX aA5) : ∀ (n : Nat) (x1 x2 x3 bL bY dO : Int32) (sW sH : Nat → Int32), (0 ≤ Int32.toInt x1 ∧ Int32.toInt x1 ≤ 8) → (0 ≤ Int32.toInt x2 ∧ Int32.toInt x2 ≤ 255) → (1 ≤ Int32.toInt x3 ∧ Int32.toInt x3 ≤ 256) → (0 ≤ Int32.toInt bL ∧ Int32.toInt bL ≤ 16) → (0 ≤ Int32.toInt bY ∧ Int32.toInt bY ≤ 0) → (0 ≤ Int32.toInt dO ∧ Int32.toInt dO ≤ 65535) → (∀ k : Nat, 0 ≤ Int32.toInt (sH k) ∧ Int32.toInt (sH k) ≤ 65535) → (256 - Int32.toInt x3 < (n : Int)) → wb_X10_birds_25 post bT aG qG m_x gR pW qR nG oO pJ n x1 x2 x3 bL bY dO sW sH := by
  intro n
  induction n with
  | zero =>
    intro x1 x2 x3 bL bY dO sW sH aBK aBN aCH yJ yG aAH zY hm
    exfalso; omega
  | succ n ih =>
    intro x1 x2 x3 bL bY dO sW sH aBK aBN aCH yJ yG aAH zY hm
    exact ts_X10_birds_25 bT aG qG m_x gR pW qR nG oO pJ xJ vZ xU xV aAW xK yR zM xT yF yD xZ hc0 hc1 hpost ih x1 x2 x3 bL bY dO sW sH aBK aBN aCH yJ yG aAH zY (by omega)
set_option maxHeartbeats 8000000 in
set_option maxRecDepth 200000 in
theorem t_X10_birds {post : Int32 → Int32 → Int32 → Int32 → (Nat → Int32) → (Nat → Int32) → Prop} {SB : Int} {p0 bT aG bL bY dO : Int32} {qG m_x gR pW qR nG oO pJ sW sH : Nat → Int32} (xJ : 0 ≤ Int32.toInt bT ∧ Int32.toInt bT ≤ 16) (vZ : 0 ≤ Int32.toInt aG ∧ Int32.toInt aG ≤ 8) (yJ : 0 ≤ Int32.toInt bL ∧ Int32.toInt bL ≤ 16) (yG : 0 ≤ Int32.toInt bY ∧ Int32.toInt bY ≤ 1) (aAH : 0 ≤ Int32.toInt dO ∧ Int32.toInt dO ≤ 65535) (xU : ∀ k : Nat, k = 17 → -1 ≤ Int32.toInt (qG k) ∧ Int32.toInt (qG k) ≤ SB) (xV : ∀ k : Nat, k = 19 → 0 ≤ Int32.toInt (qG k) ∧ Int32.toInt (qG k) ≤ 9) (aAW : ∀ k : Nat, 0 ≤ Int32.toInt (m_x k) ∧ Int32.toInt (m_x k) ≤ 99) (xK : ∀ k : Nat, 0 ≤ Int32.toInt (gR k) ∧ Int32.toInt (gR k) ≤ 99) (yR : ∀ k : Nat, 0 ≤ Int32.toInt (pW k) ∧ Int32.toInt (pW k) ≤ 9) (zM : ∀ k : Nat, 0 ≤ Int32.toInt (qR k) ∧ Int32.toInt (qR k) ≤ 9) (xT : ∀ k : Nat, 0 ≤ Int32.toInt (nG k) ∧ Int32.toInt (nG k) ≤ 99) (yF : ∀ k : Nat, 0 ≤ Int32.toInt (oO k) ∧ Int32.toInt (oO k) ≤ 99) (yD : ∀ k : Nat, k = 4 → 1 ≤ Int32.toInt (pJ k) ∧ Int32.toInt (pJ k) ≤ 30) (xZ : ∀ k : Nat, k = 3 → 0 ≤ Int32.toInt (pJ k) ∧ Int32.toInt (pJ k) ≤ 9) (zY : ∀ k : Nat, 0 ≤ Int32.toInt (sH k) ∧ Int32.toInt (sH k) ≤ 65535) (hc0 : -1 ≤ SB ∧ SB ≤ 7) (hc1 : (Int32.toInt aG ≤ 0 ∧ SB = 0) ∨ (1 ≤ Int32.toInt aG ∧ SB = Int32.toInt aG - 1)) (hpost : ∀ (r : Int32) (xM : Int32) (xG : Int32) (aAS : Int32) (aBX : Nat → Int32) (aA5 : Nat → Int32), (0 ≤ Int32.toInt xM ∧ Int32.toInt xM ≤ 16) → (0 ≤ Int32.toInt xG ∧ Int32.toInt xG ≤ 0) → (0 ≤ Int32.toInt aAS ∧ Int32.toInt aAS ≤ 65535) → (∀ k : Nat, 0 ≤ Int32.toInt (aA5 k) ∧ Int32.toInt (aA5 k) ≤ 65535) → post r xM xG aAS aBX aA5) : wp_X10_birds post p0 bT aG bL bY dO qG m_x gR pW qR nG oO pJ sW sH := by
  have l0 := aE0
  have l1 := aEc
  have l2 := li_18
  have l3 := li_8
  have f81 := aAT p0
  refine And.intro (fun c80 => ?_) (fun c80 => ?_)
  · skip
    have c80 := (aAd _ _).mp c80
    refine And.intro (fun h9 => absurd h9 (by decide)) (fun _ => ?_)
    exact hpost _ _ _ _ _ _ yJ (by omega) aAH zY
  · skip
    have c80 := mt (aAd _ _).mpr c80
    refine And.intro (fun c82 => ?_) (fun c82 => ?_)
    · skip
      have c82 := (aAd _ _).mp c82
      refine And.intro (fun h9 => absurd h9 (by decide)) (fun _ => ?_)
      exact hpost _ _ _ _ _ _ yJ (by omega) aAH zY
    · skip
      have c82 := mt (aAd _ _).mpr c82
      refine And.intro (fun _ => ?_) (fun h9 => absurd h9 (by decide))
      intro v83 ev83
      have hv83 := congrArg Int32.toInt ev83
      refine aLb xJ vZ aAH xU xV aAW xK zM xT yF yD xZ zY (by omega) (by omega) (fun m_wanted_85 m_hand_86 h_m_wanted_85 h_m_hand_86 => ?_)
      exact ⟨257, tb_X10_birds_25 bT aG qG m_x gR pW qR nG oO pJ xJ vZ xU xV aAW xK yR zM xT yF yD xZ hc0 hc1 hpost _ p0 0 1 bL 0 m_wanted_85 sW m_hand_86 (by omega) (by omega) (by omega) yJ (by omega) h_m_wanted_85 h_m_hand_86 (by omega)⟩
set_option maxHeartbeats 8000000 in
set_option maxRecDepth 200000 in
theorem ts_X10_next_71 {post : Int32 → Int32 → Int32 → Int32 → (Nat → Int32) → (Nat → Int32) → Prop} {SB : Int} {K28 : Int32 → Int32 → Int32 → Int32 → Int32 → Int32 → (Nat → Int32) → (Nat → Int32) → Prop} {n28 : Int} (bT aG : Int32) (qG m_x gR pW qR nG oO pJ : Nat → Int32) (xJ : 0 ≤ Int32.toInt bT ∧ Int32.toInt bT ≤ 16) (vZ : 0 ≤ Int32.toInt aG ∧ Int32.toInt aG ≤ 8) (xU : ∀ k : Nat, k = 17 → -1 ≤ Int32.toInt (qG k) ∧ Int32.toInt (qG k) ≤ SB) (xV : ∀ k : Nat, k = 19 → 0 ≤ Int32.toInt (qG k) ∧ Int32.toInt (qG k) ≤ 9) (aAW : ∀ k : Nat, 0 ≤ Int32.toInt (m_x k) ∧ Int32.toInt (m_x k) ≤ 99) (xK : ∀ k : Nat, 0 ≤ Int32.toInt (gR k) ∧ Int32.toInt (gR k) ≤ 99) (yR : ∀ k : Nat, 0 ≤ Int32.toInt (pW k) ∧ Int32.toInt (pW k) ≤ 9) (zM : ∀ k : Nat, 0 ≤ Int32.toInt (qR k) ∧ Int32.toInt (qR k) ≤ 9) (xT : ∀ k : Nat, 0 ≤ Int32.toInt (nG k) ∧ Int32.toInt (nG k) ≤ 99) (yF : ∀ k : Nat, 0 ≤ Int32.toInt (oO k) ∧ Int32.toInt (oO k) ≤ 99) (yD : ∀ k : Nat, k = 4 → 1 ≤ Int32.toInt (pJ k) ∧ Int32.toInt (pJ k) ≤ 30) (xZ : ∀ k : Nat, k = 3 → 0 ≤ Int32.toInt (pJ k) ∧ Int32.toInt (pJ k) ≤ 9) (hc0 : -1 ≤ SB ∧ SB ≤ 7) (hc1 : (Int32.toInt aG ≤ 0 ∧ SB = 0) ∨ (1 ≤ Int32.toInt aG ∧ SB = Int32.toInt aG - 1)) (hpost : ∀ (r : Int32) (xM : Int32) (xG : Int32) (aAS : Int32) (aBX : Nat → Int32) (aA5 : Nat → Int32), (-2 ≤ Int32.toInt r ∧ Int32.toInt r ≤ 7) → (0 ≤ Int32.toInt xM ∧ Int32.toInt xM ≤ 16) → (0 ≤ Int32.toInt xG ∧ Int32.toInt xG ≤ 0) → (0 ≤ Int32.toInt aAS ∧ Int32.toInt aAS ≤ 65535) → (∀ k : Nat, 0 ≤ Int32.toInt (aA5 k) ∧ Int32.toInt (aA5 k) ≤ 65535) → post r xM xG aAS aBX aA5) (hK28 : ∀ (x1 : Int32) (x2 : Int32) (x3 : Int32) (bL : Int32) (bY : Int32) (dO : Int32) (sW : Nat → Int32) (sH : Nat → Int32), (0 ≤ Int32.toInt x1 ∧ Int32.toInt x1 ≤ 255) → (-2 ≤ Int32.toInt x2 ∧ Int32.toInt x2 ≤ 7) → (0 ≤ Int32.toInt x3 ∧ Int32.toInt x3 ≤ 8) → (0 ≤ Int32.toInt bL ∧ Int32.toInt bL ≤ 16) → (0 ≤ Int32.toInt bY ∧ Int32.toInt bY ≤ 0) → (0 ≤ Int32.toInt dO ∧ Int32.toInt dO ≤ 65535) → (∀ k : Nat, 0 ≤ Int32.toInt (sH k) ∧ Int32.toInt (sH k) ≤ 65535) → (8 - Int32.toInt x3 < n28) → K28 x1 x2 x3 bL bY dO sW sH) (x1 x2 x3 bL bY dO : Int32) (sW sH : Nat → Int32) (aBK : 0 ≤ Int32.toInt x1 ∧ Int32.toInt x1 ≤ 255) (aBN : -2 ≤ Int32.toInt x2 ∧ Int32.toInt x2 ≤ 7) (aCH : 0 ≤ Int32.toInt x3 ∧ Int32.toInt x3 ≤ 7) (yJ : 0 ≤ Int32.toInt bL ∧ Int32.toInt bL ≤ 16) (yG : 0 ≤ Int32.toInt bY ∧ Int32.toInt bY ≤ 0) (aAH : 0 ≤ Int32.toInt dO ∧ Int32.toInt dO ≤ 65535) (zY : ∀ k : Nat, 0 ≤ Int32.toInt (sH k) ∧ Int32.toInt (sH k) ≤ 65535) (hn28 : 8 - Int32.toInt x3 ≤ n28) : ws_X10_next_71 post K28 bT aG qG m_x gR pW qR nG oO pJ x1 x2 x3 bL bY dO sW sH := by
  have l0 := aEc
  intro v1 ev1
  have f2 : Int32.toInt (x3 + 1) = Int32.toInt x3 + Int32.toInt (1 : Int32) := aAD _ _ (by omega)
  rw [← ev1] at f2
  exact hK28 x1 x2 v1 bL bY dO sW sH aBK aBN (by omega) yJ yG aAH zY (by omega)
set_option maxHeartbeats 8000000 in
set_option maxRecDepth 200000 in
theorem ts_X10_next_69 {post : Int32 → Int32 → Int32 → Int32 → (Nat → Int32) → (Nat → Int32) → Prop} {SB : Int} {K28 : Int32 → Int32 → Int32 → Int32 → Int32 → Int32 → (Nat → Int32) → (Nat → Int32) → Prop} {n28 : Int} (bT aG : Int32) (qG m_x gR pW qR nG oO pJ : Nat → Int32) (xJ : 0 ≤ Int32.toInt bT ∧ Int32.toInt bT ≤ 16) (vZ : 0 ≤ Int32.toInt aG ∧ Int32.toInt aG ≤ 8) (xU : ∀ k : Nat, k = 17 → -1 ≤ Int32.toInt (qG k) ∧ Int32.toInt (qG k) ≤ SB) (xV : ∀ k : Nat, k = 19 → 0 ≤ Int32.toInt (qG k) ∧ Int32.toInt (qG k) ≤ 9) (aAW : ∀ k : Nat, 0 ≤ Int32.toInt (m_x k) ∧ Int32.toInt (m_x k) ≤ 99) (xK : ∀ k : Nat, 0 ≤ Int32.toInt (gR k) ∧ Int32.toInt (gR k) ≤ 99) (yR : ∀ k : Nat, 0 ≤ Int32.toInt (pW k) ∧ Int32.toInt (pW k) ≤ 9) (zM : ∀ k : Nat, 0 ≤ Int32.toInt (qR k) ∧ Int32.toInt (qR k) ≤ 9) (xT : ∀ k : Nat, 0 ≤ Int32.toInt (nG k) ∧ Int32.toInt (nG k) ≤ 99) (yF : ∀ k : Nat, 0 ≤ Int32.toInt (oO k) ∧ Int32.toInt (oO k) ≤ 99) (yD : ∀ k : Nat, k = 4 → 1 ≤ Int32.toInt (pJ k) ∧ Int32.toInt (pJ k) ≤ 30) (xZ : ∀ k : Nat, k = 3 → 0 ≤ Int32.toInt (pJ k) ∧ Int32.toInt (pJ k) ≤ 9) (hc0 : -1 ≤ SB ∧ SB ≤ 7) (hc1 : (Int32.toInt aG ≤ 0 ∧ SB = 0) ∨ (1 ≤ Int32.toInt aG ∧ SB = Int32.toInt aG - 1)) (hpost : ∀ (r : Int32) (xM : Int32) (xG : Int32) (aAS : Int32) (aBX : Nat → Int32) (aA5 : Nat → Int32), (-2 ≤ Int32.toInt r ∧ Int32.toInt r ≤ 7) → (0 ≤ Int32.toInt xM ∧ Int32.toInt xM ≤ 16) → (0 ≤ Int32.toInt xG ∧ Int32.toInt xG ≤ 0) → (0 ≤ Int32.toInt aAS ∧ Int32.toInt aAS ≤ 65535) → (∀ k : Nat, 0 ≤ Int32.toInt (aA5 k) ∧ Int32.toInt (aA5 k) ≤ 65535) → post r xM xG aAS aBX aA5) (hK28 : ∀ (x1 : Int32) (x2 : Int32) (x3 : Int32) (bL : Int32) (bY : Int32) (dO : Int32) (sW : Nat → Int32) (sH : Nat → Int32), (0 ≤ Int32.toInt x1 ∧ Int32.toInt x1 ≤ 255) → (-2 ≤ Int32.toInt x2 ∧ Int32.toInt x2 ≤ 7) → (0 ≤ Int32.toInt x3 ∧ Int32.toInt x3 ≤ 8) → (0 ≤ Int32.toInt bL ∧ Int32.toInt bL ≤ 16) → (0 ≤ Int32.toInt bY ∧ Int32.toInt bY ≤ 0) → (0 ≤ Int32.toInt dO ∧ Int32.toInt dO ≤ 65535) → (∀ k : Nat, 0 ≤ Int32.toInt (sH k) ∧ Int32.toInt (sH k) ≤ 65535) → (8 - Int32.toInt x3 < n28) → K28 x1 x2 x3 bL bY dO sW sH) (x1 x3 bL bY dO : Int32) (sW sH : Nat → Int32) (aBK : 0 ≤ Int32.toInt x1 ∧ Int32.toInt x1 ≤ 255) (aCH : 0 ≤ Int32.toInt x3 ∧ Int32.toInt x3 ≤ 7) (yJ : 0 ≤ Int32.toInt bL ∧ Int32.toInt bL ≤ 16) (yG : 0 ≤ Int32.toInt bY ∧ Int32.toInt bY ≤ 0) (aAH : 0 ≤ Int32.toInt dO ∧ Int32.toInt dO ≤ 65535) (zY : ∀ k : Nat, 0 ≤ Int32.toInt (sH k) ∧ Int32.toInt (sH k) ≤ 65535) (hn28 : 8 - Int32.toInt x3 ≤ n28) : ws_X10_next_69 post K28 bT aG qG m_x gR pW qR nG oO pJ x1 x3 bL bY dO sW sH := by
  exact ts_X10_next_71 bT aG qG m_x gR pW qR nG oO pJ xJ vZ xU xV aAW xK yR zM xT yF yD xZ hc0 hc1 hpost hK28 x1 x3 x3 bL bY dO sW sH aBK (by omega) aCH yJ yG aAH zY hn28
set_option maxHeartbeats 8000000 in
set_option maxRecDepth 200000 in
theorem ts_X10_next_28 {post : Int32 → Int32 → Int32 → Int32 → (Nat → Int32) → (Nat → Int32) → Prop} {SB : Int} {next : Int32 → Int32 → Int32 → Int32 → Int32 → Int32 → (Nat → Int32) → (Nat → Int32) → Prop} {n28 : Int} (bT aG : Int32) (qG m_x gR pW qR nG oO pJ : Nat → Int32) (xJ : 0 ≤ Int32.toInt bT ∧ Int32.toInt bT ≤ 16) (vZ : 0 ≤ Int32.toInt aG ∧ Int32.toInt aG ≤ 8) (xU : ∀ k : Nat, k = 17 → -1 ≤ Int32.toInt (qG k) ∧ Int32.toInt (qG k) ≤ SB) (xV : ∀ k : Nat, k = 19 → 0 ≤ Int32.toInt (qG k) ∧ Int32.toInt (qG k) ≤ 9) (aAW : ∀ k : Nat, 0 ≤ Int32.toInt (m_x k) ∧ Int32.toInt (m_x k) ≤ 99) (xK : ∀ k : Nat, 0 ≤ Int32.toInt (gR k) ∧ Int32.toInt (gR k) ≤ 99) (yR : ∀ k : Nat, 0 ≤ Int32.toInt (pW k) ∧ Int32.toInt (pW k) ≤ 9) (zM : ∀ k : Nat, 0 ≤ Int32.toInt (qR k) ∧ Int32.toInt (qR k) ≤ 9) (xT : ∀ k : Nat, 0 ≤ Int32.toInt (nG k) ∧ Int32.toInt (nG k) ≤ 99) (yF : ∀ k : Nat, 0 ≤ Int32.toInt (oO k) ∧ Int32.toInt (oO k) ≤ 99) (yD : ∀ k : Nat, k = 4 → 1 ≤ Int32.toInt (pJ k) ∧ Int32.toInt (pJ k) ≤ 30) (xZ : ∀ k : Nat, k = 3 → 0 ≤ Int32.toInt (pJ k) ∧ Int32.toInt (pJ k) ≤ 9) (hc0 : -1 ≤ SB ∧ SB ≤ 7) (hc1 : (Int32.toInt aG ≤ 0 ∧ SB = 0) ∨ (1 ≤ Int32.toInt aG ∧ SB = Int32.toInt aG - 1)) (hpost : ∀ (r : Int32) (xM : Int32) (xG : Int32) (aAS : Int32) (aBX : Nat → Int32) (aA5 : Nat → Int32), (-2 ≤ Int32.toInt r ∧ Int32.toInt r ≤ 7) → (0 ≤ Int32.toInt xM ∧ Int32.toInt xM ≤ 16) → (0 ≤ Int32.toInt xG ∧ Int32.toInt xG ≤ 0) → (0 ≤ Int32.toInt aAS ∧ Int32.toInt aAS ≤ 65535) → (∀ k : Nat, 0 ≤ Int32.toInt (aA5 k) ∧ Int32.toInt (aA5 k) ≤ 65535) → post r xM xG aAS aBX aA5) (hKn : ∀ (x1 : Int32) (x2 : Int32) (x3 : Int32) (bL : Int32) (bY : Int32) (dO : Int32) (sW : Nat → Int32) (sH : Nat → Int32), (0 ≤ Int32.toInt x1 ∧ Int32.toInt x1 ≤ 255) → (-2 ≤ Int32.toInt x2 ∧ Int32.toInt x2 ≤ 7) → (0 ≤ Int32.toInt x3 ∧ Int32.toInt x3 ≤ 8) → (0 ≤ Int32.toInt bL ∧ Int32.toInt bL ≤ 16) → (0 ≤ Int32.toInt bY ∧ Int32.toInt bY ≤ 0) → (0 ≤ Int32.toInt dO ∧ Int32.toInt dO ≤ 65535) → (∀ k : Nat, 0 ≤ Int32.toInt (sH k) ∧ Int32.toInt (sH k) ≤ 65535) → (8 - Int32.toInt x3 < n28) → next x1 x2 x3 bL bY dO sW sH) (x1 x2 x3 bL bY dO : Int32) (sW sH : Nat → Int32) (aBK : 0 ≤ Int32.toInt x1 ∧ Int32.toInt x1 ≤ 255) (aBN : -2 ≤ Int32.toInt x2 ∧ Int32.toInt x2 ≤ 7) (aCH : 0 ≤ Int32.toInt x3 ∧ Int32.toInt x3 ≤ 8) (yJ : 0 ≤ Int32.toInt bL ∧ Int32.toInt bL ≤ 16) (yG : 0 ≤ Int32.toInt bY ∧ Int32.toInt bY ≤ 0) (aAH : 0 ≤ Int32.toInt dO ∧ Int32.toInt dO ≤ 65535) (zY : ∀ k : Nat, 0 ≤ Int32.toInt (sH k) ∧ Int32.toInt (sH k) ≤ 65535) (hn28 : 8 - Int32.toInt x3 ≤ n28) : ws_X10_next_28 post next bT aG qG m_x gR pW qR nG oO pJ x1 x2 x3 bL bY dO sW sH := by
  have l0 := li_m2
  have l1 := aE0
  have l2 := aEc
  have l3 := li_16
  refine And.intro (fun c3 => ?_) (fun c3 => ?_)
  · skip
    have c3 := (aAO _ _).mp c3
    refine And.intro (fun c4 => ?_) (fun c4 => ?_)
    · skip
      have c4 := (aAO _ _).mp c4
      intro v5 ev5
      have f7 := aDv 7 128 x2 (by decide) (by omega)
      have f6 := ti_or 8 256 x1 (1 <<< (x2 &&& 31)) (by decide) (by omega) (by omega)
      have hv5 := congrArg Int32.toInt ev5
      refine aSL (by omega) vZ zY (fun r8 h_r8 => ?_)
      intro v9 ev9
      have f11 := aBx dO (r8 ^^^ (-1)) (by omega)
      have hv9 := congrArg Int32.toInt ev9
      intro v12 ev12
      have hv12 := congrArg Int32.toInt ev12
      refine aNU (by omega) xJ yR (fun r14 => ?_)
      refine And.intro (aBZ (by omega)) ?_
      intro v15 ev15
      have f16 : Int32.toInt (0 + 1) = Int32.toInt (0 : Int32) + Int32.toInt (1 : Int32) := aAD _ _ (by omega)
      rw [← ev15] at f16
      refine aSL aBK vZ zY (fun r17 h_r17 => ?_)
      intro v18 ev18
      have f20 := aBx dO (r17 ^^^ (-1)) (by omega)
      have hv18 := congrArg Int32.toInt ev18
      intro v21 ev21
      have hv21 := congrArg Int32.toInt ev21
      refine aNU (by omega) xJ yR (fun r22 => ?_)
      refine And.intro (aBZ (by omega)) ?_
      intro v23 ev23
      have f24 : Int32.toInt (v15 + 1) = Int32.toInt v15 + Int32.toInt (1 : Int32) := aAD _ _ (by omega)
      rw [← ev23] at f24
      exact hpost _ _ _ _ _ _ aBN (by omega) yG aAH zY
    · skip
      have c4 := mt (aAO _ _).mpr c4
      exact hpost _ _ _ _ _ _ (by omega) yJ yG aAH zY
  · skip
    have c3 := mt (aAO _ _).mpr c3
    intro v25 ev25
    have f26 := aRJ x1 x3 (by omega)
    have hv25 := congrArg Int32.toInt ev25
    intro v27 ev27
    have f28 := aAQ v25 1 (by omega)
    have f29 := aBx v25 1 (by omega)
    have hv27 := congrArg Int32.toInt ev27
    refine And.intro (fun c30 => ?_) (fun c30 => ?_)
    · skip
      have c30 := mt (zJ _ _).mpr c30
      refine And.intro (fun h9 => absurd h9 (by decide)) (fun _ => ?_)
      refine And.intro (fun c31 => ?_) (fun c31 => ?_)
      · skip
        have c31 := (aAd _ _).mp c31
        exact ts_X10_next_69 bT aG qG m_x gR pW qR nG oO pJ xJ vZ xU xV aAW xK yR zM xT yF yD xZ hc0 hc1 hpost hKn x1 x3 bL bY dO sW sH aBK (by omega) yJ yG aAH zY hn28
      · skip
        have c31 := mt (aAd _ _).mpr c31
        intro v32 ev32
        have f34 := aDv 7 128 x3 (by decide) (by omega)
        have f33 := ti_or 8 256 x1 (1 <<< (x3 &&& 31)) (by decide) (by omega) (by omega)
        have hv32 := congrArg Int32.toInt ev32
        refine aSL (by omega) vZ zY (fun r35 h_r35 => ?_)
        intro v36 ev36
        have f38 := aBx dO (r35 ^^^ (-1)) (by omega)
        have hv36 := congrArg Int32.toInt ev36
        intro v39 ev39
        have hv39 := congrArg Int32.toInt ev39
        refine aNU (by omega) xJ yR (fun r41 => ?_)
        intro v42 ev42
        have f44 := aDv 7 128 x2 (by decide) (by omega)
        have f43 := ti_or 8 256 x1 (1 <<< (x2 &&& 31)) (by decide) (by omega) (by omega)
        have hv42 := congrArg Int32.toInt ev42
        refine aSL (by omega) vZ zY (fun r45 h_r45 => ?_)
        intro v46 ev46
        have f48 := aBx dO (r45 ^^^ (-1)) (by omega)
        have hv46 := congrArg Int32.toInt ev46
        intro v49 ev49
        have hv49 := congrArg Int32.toInt ev49
        refine aNU (by omega) xJ yR (fun r50 => ?_)
        have f52 := aAT r41
        have f53 := aAT r50
        refine And.intro (fun c51 => ?_) (fun c51 => ?_)
        · skip
          have c51 := (aAO _ _).mp c51
          exact ts_X10_next_71 bT aG qG m_x gR pW qR nG oO pJ xJ vZ xU xV aAW xK yR zM xT yF yD xZ hc0 hc1 hpost hKn x1 x2 x3 bL bY dO sW sH aBK aBN (by omega) yJ yG aAH zY hn28
        · skip
          have c51 := mt (aAO _ _).mpr c51
          exact ts_X10_next_69 bT aG qG m_x gR pW qR nG oO pJ xJ vZ xU xV aAW xK yR zM xT yF yD xZ hc0 hc1 hpost hKn x1 x3 bL bY dO sW sH aBK (by omega) yJ yG aAH zY hn28
    · skip
      have c30 := (zJ _ _).mp c30
      refine And.intro (fun _ => ?_) (fun h9 => absurd h9 (by decide))
      exact ts_X10_next_71 bT aG qG m_x gR pW qR nG oO pJ xJ vZ xU xV aAW xK yR zM xT yF yD xZ hc0 hc1 hpost hKn x1 x2 x3 bL bY dO sW sH aBK aBN (by omega) yJ yG aAH zY hn28
set_option maxHeartbeats 8000000 in
set_option maxRecDepth 200000 in
theorem tb_X10_next_28 {post : Int32 → Int32 → Int32 → Int32 → (Nat → Int32) → (Nat → Int32) → Prop} {SB : Int} (bT aG : Int32) (qG m_x gR pW qR nG oO pJ : Nat → Int32) (xJ : 0 ≤ Int32.toInt bT ∧ Int32.toInt bT ≤ 16) (vZ : 0 ≤ Int32.toInt aG ∧ Int32.toInt aG ≤ 8) (xU : ∀ k : Nat, k = 17 → -1 ≤ Int32.toInt (qG k) ∧ Int32.toInt (qG k) ≤ SB) (xV : ∀ k : Nat, k = 19 → 0 ≤ Int32.toInt (qG k) ∧ Int32.toInt (qG k) ≤ 9) (aAW : ∀ k : Nat, 0 ≤ Int32.toInt (m_x k) ∧ Int32.toInt (m_x k) ≤ 99) (xK : ∀ k : Nat, 0 ≤ Int32.toInt (gR k) ∧ Int32.toInt (gR k) ≤ 99) (yR : ∀ k : Nat, 0 ≤ Int32.toInt (pW k) ∧ Int32.toInt (pW k) ≤ 9) (zM : ∀ k : Nat, 0 ≤ Int32.toInt (qR k) ∧ Int32.toInt (qR k) ≤ 9) (xT : ∀ k : Nat, 0 ≤ Int32.toInt (nG k) ∧ Int32.toInt (nG k) ≤ 99) (yF : ∀ k : Nat, 0 ≤ Int32.toInt (oO k) ∧ Int32.toInt (oO k) ≤ 99) (yD : ∀ k : Nat, k = 4 → 1 ≤ Int32.toInt (pJ k) ∧ Int32.toInt (pJ k) ≤ 30) (xZ : ∀ k : Nat, k = 3 → 0 ≤ Int32.toInt (pJ k) ∧ Int32.toInt (pJ k) ≤ 9) (hc0 : -1 ≤ SB ∧ SB ≤ 7) (hc1 : (Int32.toInt aG ≤ 0 ∧ SB = 0) ∨ (1 ≤ Int32.toInt aG ∧ SB = Int32.toInt aG - 1)) (hpost : ∀ (r : Int32) (xM : Int32) (xG : Int32) (aAS : Int32) (aBX : Nat → Int32) (aA5 : Nat → Int32), (-2 ≤ Int32.toInt r ∧ Int32.toInt r ≤ 7) → (0 ≤ Int32.toInt xM ∧ Int32.toInt xM ≤ 16) → (0 ≤ Int32.toInt xG ∧ Int32.toInt xG ≤ 0) → (0 ≤ Int32.toInt aAS ∧ Int32.toInt aAS ≤ 65535) → (∀ k : Nat, 0 ≤ Int32.toInt (aA5 k) ∧ Int32.toInt (aA5 k) ≤ 65535) → post r xM xG aAS aBX aA5) : ∀ (n : Nat) (x1 x2 x3 bL bY dO : Int32) (sW sH : Nat → Int32), (0 ≤ Int32.toInt x1 ∧ Int32.toInt x1 ≤ 255) → (-2 ≤ Int32.toInt x2 ∧ Int32.toInt x2 ≤ 7) → (0 ≤ Int32.toInt x3 ∧ Int32.toInt x3 ≤ 8) → (0 ≤ Int32.toInt bL ∧ Int32.toInt bL ≤ 16) → (0 ≤ Int32.toInt bY ∧ Int32.toInt bY ≤ 0) → (0 ≤ Int32.toInt dO ∧ Int32.toInt dO ≤ 65535) → (∀ k : Nat, 0 ≤ Int32.toInt (sH k) ∧ Int32.toInt (sH k) ≤ 65535) → (8 - Int32.toInt x3 < (n : Int)) → wb_X10_next_28 post bT aG qG m_x gR pW qR nG oO pJ n x1 x2 x3 bL bY dO sW sH := by
  intro n
  induction n with
  | zero =>
    intro x1 x2 x3 bL bY dO sW sH aBK aBN aCH yJ yG aAH zY hm
    exfalso; omega
  | succ n ih =>
    intro x1 x2 x3 bL bY dO sW sH aBK aBN aCH yJ yG aAH zY hm
    exact ts_X10_next_28 bT aG qG m_x gR pW qR nG oO pJ xJ vZ xU xV aAW xK yR zM xT yF yD xZ hc0 hc1 hpost ih x1 x2 x3 bL bY dO sW sH aBK aBN aCH yJ yG aAH zY (by omega)
set_option maxHeartbeats 8000000 in
set_option maxRecDepth 200000 in
theorem t_X10_next {post : Int32 → Int32 → Int32 → Int32 → (Nat → Int32) → (Nat → Int32) → Prop} {SB : Int} {p0 bT aG bL bY dO : Int32} {qG m_x gR pW qR nG oO pJ sW sH : Nat → Int32} (xJ : 0 ≤ Int32.toInt bT ∧ Int32.toInt bT ≤ 16) (vZ : 0 ≤ Int32.toInt aG ∧ Int32.toInt aG ≤ 8) (yJ : 0 ≤ Int32.toInt bL ∧ Int32.toInt bL ≤ 16) (yG : 0 ≤ Int32.toInt bY ∧ Int32.toInt bY ≤ 1) (aAH : 0 ≤ Int32.toInt dO ∧ Int32.toInt dO ≤ 65535) (xU : ∀ k : Nat, k = 17 → -1 ≤ Int32.toInt (qG k) ∧ Int32.toInt (qG k) ≤ SB) (xV : ∀ k : Nat, k = 19 → 0 ≤ Int32.toInt (qG k) ∧ Int32.toInt (qG k) ≤ 9) (aAW : ∀ k : Nat, 0 ≤ Int32.toInt (m_x k) ∧ Int32.toInt (m_x k) ≤ 99) (xK : ∀ k : Nat, 0 ≤ Int32.toInt (gR k) ∧ Int32.toInt (gR k) ≤ 99) (yR : ∀ k : Nat, 0 ≤ Int32.toInt (pW k) ∧ Int32.toInt (pW k) ≤ 9) (zM : ∀ k : Nat, 0 ≤ Int32.toInt (qR k) ∧ Int32.toInt (qR k) ≤ 9) (xT : ∀ k : Nat, 0 ≤ Int32.toInt (nG k) ∧ Int32.toInt (nG k) ≤ 99) (yF : ∀ k : Nat, 0 ≤ Int32.toInt (oO k) ∧ Int32.toInt (oO k) ≤ 99) (yD : ∀ k : Nat, k = 4 → 1 ≤ Int32.toInt (pJ k) ∧ Int32.toInt (pJ k) ≤ 30) (xZ : ∀ k : Nat, k = 3 → 0 ≤ Int32.toInt (pJ k) ∧ Int32.toInt (pJ k) ≤ 9) (zY : ∀ k : Nat, 0 ≤ Int32.toInt (sH k) ∧ Int32.toInt (sH k) ≤ 65535) (hc0 : -1 ≤ SB ∧ SB ≤ 7) (hc1 : (Int32.toInt aG ≤ 0 ∧ SB = 0) ∨ (1 ≤ Int32.toInt aG ∧ SB = Int32.toInt aG - 1)) (hpost : ∀ (r : Int32) (xM : Int32) (xG : Int32) (aAS : Int32) (aBX : Nat → Int32) (aA5 : Nat → Int32), (-2 ≤ Int32.toInt r ∧ Int32.toInt r ≤ 7) → (0 ≤ Int32.toInt xM ∧ Int32.toInt xM ≤ 16) → (0 ≤ Int32.toInt xG ∧ Int32.toInt xG ≤ 0) → (0 ≤ Int32.toInt aAS ∧ Int32.toInt aAS ≤ 65535) → (∀ k : Nat, 0 ≤ Int32.toInt (aA5 k) ∧ Int32.toInt (aA5 k) ≤ 65535) → post r xM xG aAS aBX aA5) : wp_X10_next post p0 bT aG bL bY dO qG m_x gR pW qR nG oO pJ sW sH := by
  have l0 := aI2
  have l1 := li_m2
  have l2 := aE0
  have l3 := aEc
  have l4 := li_18
  intro v54 ev54
  have f55 := aDv 8 256 aG (by decide) (by omega)
  have hv54 := congrArg Int32.toInt ev54
  have f57 := aAT p0
  refine And.intro (fun c56 => ?_) (fun c56 => ?_)
  · skip
    have c56 := (aAd _ _).mp c56
    refine And.intro (fun h9 => absurd h9 (by decide)) (fun _ => ?_)
    exact hpost _ _ _ _ _ _ (by omega) yJ (by omega) aAH zY
  · skip
    have c56 := mt (aAd _ _).mpr c56
    have f59 : Int32.toInt (v54 - 1) = Int32.toInt v54 - Int32.toInt (1 : Int32) := aCA _ _ (by omega)
    refine And.intro (fun c58 => ?_) (fun c58 => ?_)
    · skip
      have c58 := (aAd _ _).mp c58
      refine And.intro (fun h9 => absurd h9 (by decide)) (fun _ => ?_)
      exact hpost _ _ _ _ _ _ (by omega) yJ (by omega) aAH zY
    · skip
      have c58 := mt (aAd _ _).mpr c58
      refine And.intro (fun _ => ?_) (fun h9 => absurd h9 (by decide))
      intro v60 ev60
      have hv60 := congrArg Int32.toInt ev60
      refine aLb xJ vZ aAH xU xV aAW xK zM xT yF yD xZ zY (by omega) (by omega) (fun m_wanted_62 m_hand_63 h_m_wanted_62 h_m_hand_63 => ?_)
      exact ⟨10, tb_X10_next_28 bT aG qG m_x gR pW qR nG oO pJ xJ vZ xU xV aAW xK yR zM xT yF yD xZ hc0 hc1 hpost _ p0 (-2) 0 bL 0 m_wanted_62 sW m_hand_63 (by omega) (by omega) (by omega) yJ (by omega) h_m_wanted_62 h_m_hand_63 (by omega)⟩
