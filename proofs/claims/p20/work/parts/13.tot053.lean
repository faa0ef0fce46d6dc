set_option maxHeartbeats 8000000 in
set_option maxRecDepth 200000 in
theorem ts_X10_ripens_57 {post : Int32 → Int32 → Int32 → Int32 → (Nat → Int32) → (Nat → Int32) → Prop} {SB : Int} {K27 : Int32 → Int32 → Int32 → Int32 → Int32 → Int32 → (Nat → Int32) → (Nat → Int32) → Prop} {n27 : Int} (bT aG : Int32) (qG m_x gR qR nG oO pJ : Nat → Int32) (xJ : 0 ≤ Int32.toInt bT ∧ Int32.toInt bT ≤ 16) (vZ : 0 ≤ Int32.toInt aG ∧ Int32.toInt aG ≤ 8) (xU : ∀ k : Nat, k = 17 → -1 ≤ Int32.toInt (qG k) ∧ Int32.toInt (qG k) ≤ SB) (xV : ∀ k : Nat, k = 19 → 0 ≤ Int32.toInt (qG k) ∧ Int32.toInt (qG k) ≤ 9) (aAW : ∀ k : Nat, 0 ≤ Int32.toInt (m_x k) ∧ Int32.toInt (m_x k) ≤ 99) (xK : ∀ k : Nat, 0 ≤ Int32.toInt (gR k) ∧ Int32.toInt (gR k) ≤ 99) (zM : ∀ k : Nat, 0 ≤ Int32.toInt (qR k) ∧ Int32.toInt (qR k) ≤ 9) (xT : ∀ k : Nat, 0 ≤ Int32.toInt (nG k) ∧ Int32.toInt (nG k) ≤ 99) (yF : ∀ k : Nat, 0 ≤ Int32.toInt (oO k) ∧ Int32.toInt (oO k) ≤ 99) (yD : ∀ k : Nat, k = 4 → 1 ≤ Int32.toInt (pJ k) ∧ Int32.toInt (pJ k) ≤ 30) (xZ : ∀ k : Nat, k = 3 → 0 ≤ Int32.toInt (pJ k) ∧ Int32.toInt (pJ k) ≤ 9) (hc0 : -1 ≤ SB ∧ SB ≤ 7) (hc1 : (Int32.toInt aG ≤ 0 ∧ SB = 0) ∨ (1 ≤ Int32.toInt aG ∧ SB = Int32.toInt aG - 1)) (hpost : ∀ (r : Int32) (xM : Int32) (xG : Int32) (aAS : Int32) (aBX : Nat → Int32) (aA5 : Nat → Int32), (-1 ≤ Int32.toInt r ∧ Int32.toInt r ≤ 63) → (2 ≤ Int32.toInt xM ∧ Int32.toInt xM ≤ 2) → (0 ≤ Int32.toInt xG ∧ Int32.toInt xG ≤ 0) → (0 ≤ Int32.toInt aAS ∧ Int32.toInt aAS ≤ 65535) → (∀ k : Nat, 0 ≤ Int32.toInt (aA5 k) ∧ Int32.toInt (aA5 k) ≤ 65535) → post r xM xG aAS aBX aA5) (hK27 : ∀ (x1 : Int32) (x2 : Int32) (x3 : Int32) (bL : Int32) (bY : Int32) (dO : Int32) (sW : Nat → Int32) (sH : Nat → Int32), (-1 ≤ Int32.toInt x1 ∧ Int32.toInt x1 ≤ 63) → (0 ≤ Int32.toInt x2 ∧ Int32.toInt x2 ≤ 9) → (0 ≤ Int32.toInt x3 ∧ Int32.toInt x3 ≤ 10) → (0 ≤ Int32.toInt bL ∧ Int32.toInt bL ≤ 16) → (0 ≤ Int32.toInt bY ∧ Int32.toInt bY ≤ 0) → (0 ≤ Int32.toInt dO ∧ Int32.toInt dO ≤ 65535) → (∀ k : Nat, 0 ≤ Int32.toInt (sH k) ∧ Int32.toInt (sH k) ≤ 65535) → (10 - Int32.toInt x3 < n27) → K27 x1 x2 x3 bL bY dO sW sH) (x1 x2 x3 bL bY dO : Int32) (sW sH : Nat → Int32) (aBK : 0 ≤ Int32.toInt x1 ∧ Int32.toInt x1 ≤ 63) (aBN : 0 ≤ Int32.toInt x2 ∧ Int32.toInt x2 ≤ 9) (aCH : 0 ≤ Int32.toInt x3 ∧ Int32.toInt x3 ≤ 9) (yJ : 0 ≤ Int32.toInt bL ∧ Int32.toInt bL ≤ 16) (yG : 0 ≤ Int32.toInt bY ∧ Int32.toInt bY ≤ 0) (aAH : 0 ≤ Int32.toInt dO ∧ Int32.toInt dO ≤ 65535) (zY : ∀ k : Nat, 0 ≤ Int32.toInt (sH k) ∧ Int32.toInt (sH k) ≤ 65535) (hn27 : 10 - Int32.toInt x3 ≤ n27) : ws_X10_ripens_57 post K27 bT aG qG m_x gR qR nG oO pJ x1 x2 x3 bL bY dO sW sH := by
  have l0 := aEc
  intro v1 ev1
  have f2 : Int32.toInt (x3 + 1) = Int32.toInt x3 + Int32.toInt (1 : Int32) := aAD _ _ (by omega)
  rw [← ev1] at f2
  exact hK27 x1 x2 v1 bL bY dO sW sH (by omega) aBN (by omega) yJ yG aAH zY (by omega)
set_option maxHeartbeats 8000000 in
set_option maxRecDepth 200000 in
theorem ts_X10_ripens_27 {post : Int32 → Int32 → Int32 → Int32 → (Nat → Int32) → (Nat → Int32) → Prop} {SB : Int} {next : Int32 → Int32 → Int32 → Int32 → Int32 → Int32 → (Nat → Int32) → (Nat → Int32) → Prop} {n27 : Int} (bT aG : Int32) (qG m_x gR qR nG oO pJ : Nat → Int32) (xJ : 0 ≤ Int32.toInt bT ∧ Int32.toInt bT ≤ 16) (vZ : 0 ≤ Int32.toInt aG ∧ Int32.toInt aG ≤ 8) (xU : ∀ k : Nat, k = 17 → -1 ≤ Int32.toInt (qG k) ∧ Int32.toInt (qG k) ≤ SB) (xV : ∀ k : Nat, k = 19 → 0 ≤ Int32.toInt (qG k) ∧ Int32.toInt (qG k) ≤ 9) (aAW : ∀ k : Nat, 0 ≤ Int32.toInt (m_x k) ∧ Int32.toInt (m_x k) ≤ 99) (xK : ∀ k : Nat, 0 ≤ Int32.toInt (gR k) ∧ Int32.toInt (gR k) ≤ 99) (zM : ∀ k : Nat, 0 ≤ Int32.toInt (qR k) ∧ Int32.toInt (qR k) ≤ 9) (xT : ∀ k : Nat, 0 ≤ Int32.toInt (nG k) ∧ Int32.toInt (nG k) ≤ 99) (yF : ∀ k : Nat, 0 ≤ Int32.toInt (oO k) ∧ Int32.toInt (oO k) ≤ 99) (yD : ∀ k : Nat, k = 4 → 1 ≤ Int32.toInt (pJ k) ∧ Int32.toInt (pJ k) ≤ 30) (xZ : ∀ k : Nat, k = 3 → 0 ≤ Int32.toInt (pJ k) ∧ Int32.toInt (pJ k) ≤ 9) (hc0 : -1 ≤ SB ∧ SB ≤ 7) (hc1 : (Int32.toInt aG ≤ 0 ∧ SB = 0) ∨ (1 ≤ Int32.toInt aG ∧ SB = Int32.toInt aG - 1)) (hpost : ∀ (r : Int32) (xM : Int32) (xG : Int32) (aAS : Int32) (aBX : Nat → Int32) (aA5 : Nat → Int32), (-1 ≤ Int32.toInt r ∧ Int32.toInt r ≤ 63) → (2 ≤ Int32.toInt xM ∧ Int32.toInt xM ≤ 2) → (0 ≤ Int32.toInt xG ∧ Int32.toInt xG ≤ 0) → (0 ≤ Int32.toInt aAS ∧ Int32.toInt aAS ≤ 65535) → (∀ k : Nat, 0 ≤ Int32.toInt (aA5 k) ∧ Int32.toInt (aA5 k) ≤ 65535) → post r xM xG aAS aBX aA5) (hKn : ∀ (x1 : Int32) (x2 : Int32) (x3 : Int32) (bL : Int32) (bY : Int32) (dO : Int32) (sW : Nat → Int32) (sH : Nat → Int32), (-1 ≤ Int32.toInt x1 ∧ Int32.toInt x1 ≤ 63) → (0 ≤ Int32.toInt x2 ∧ Int32.toInt x2 ≤ 9) → (0 ≤ Int32.toInt x3 ∧ Int32.toInt x3 ≤ 10) → (0 ≤ Int32.toInt bL ∧ Int32.toInt bL ≤ 16) → (0 ≤ Int32.toInt bY ∧ Int32.toInt bY ≤ 0) → (0 ≤ Int32.toInt dO ∧ Int32.toInt dO ≤ 65535) → (∀ k : Nat, 0 ≤ Int32.toInt (sH k) ∧ Int32.toInt (sH k) ≤ 65535) → (10 - Int32.toInt x3 < n27) → next x1 x2 x3 bL bY dO sW sH) (x1 x2 x3 bL bY dO : Int32) (sW sH : Nat → Int32) (aBK : -1 ≤ Int32.toInt x1 ∧ Int32.toInt x1 ≤ 63) (aBN : 0 ≤ Int32.toInt x2 ∧ Int32.toInt x2 ≤ 9) (aCH : 0 ≤ Int32.toInt x3 ∧ Int32.toInt x3 ≤ 10) (yJ : 0 ≤ Int32.toInt bL ∧ Int32.toInt bL ≤ 16) (yG : 0 ≤ Int32.toInt bY ∧ Int32.toInt bY ≤ 0) (aAH : 0 ≤ Int32.toInt dO ∧ Int32.toInt dO ≤ 65535) (zY : ∀ k : Nat, 0 ≤ Int32.toInt (sH k) ∧ Int32.toInt (sH k) ≤ 65535) (hn27 : 10 - Int32.toInt x3 ≤ n27) : ws_X10_ripens_27 post next bT aG qG m_x gR qR nG oO pJ x1 x2 x3 bL bY dO sW sH := by
  have l0 := aE0
  have l1 := aEc
  have l2 := aKH
  have l3 := li_19
  have l4 := aJ8
  have l5 := li_63
  have l6 := aJ9
  have l7 := li_9
  refine And.intro (fun c3 => ?_) (fun c3 => ?_)
  · skip
    have c3 := (aAd _ _).mp c3
    refine aKO (by omega) xJ xU xV (by omega) (fun r4 h_r4 ox5 => ?_)
    intro v6 ev6
    have f7 := aDv 8 256 aG (by decide) (by omega)
    have hv6 := congrArg Int32.toInt ev6
    have f9 : Int32.toInt (v6 - 1) = Int32.toInt v6 - Int32.toInt (1 : Int32) := aCA _ _ (by omega)
    refine aSL (by omega) vZ zY (fun r8 h_r8 => ?_)
    intro v10 ev10
    have f11 := aAQ r4 r8 (by omega)
    have f12 := aBx r4 r8 (by omega)
    have hv10 := congrArg Int32.toInt ev10
    refine t_X10_cover (by omega) vZ zY (fun r13 h_r13 => ?_)
    refine And.intro (aBZ (by omega)) ?_
    intro v14 ev14
    have f15 : Int32.toInt (0 + 1) = Int32.toInt (0 : Int32) + Int32.toInt (1 : Int32) := aAD _ _ (by omega)
    rw [← ev14] at f15
    intro v16 ev16
    intro v17 ev17
    have f19 := aAQ v16 1431655765 (by omega)
    have f18 : Int32.toInt (r13 - (v16 &&& 1431655765)) = Int32.toInt r13 - Int32.toInt (v16 &&& 1431655765) := aCA _ _ (by omega)
    rw [← ev17] at f18
    intro v20 ev20
    have f21 := aAQ v17 858993459 (by omega)
    have hv20 := congrArg Int32.toInt ev20
    intro v22 ev22
    intro v23 ev23
    have f25 := aAQ v22 858993459 (by omega)
    have f24 : Int32.toInt (v20 + (v22 &&& 858993459)) = Int32.toInt v20 + Int32.toInt (v22 &&& 858993459) := aAD _ _ (by omega)
    rw [← ev23] at f24
    intro v26 ev26
    have hv26 := congrArg Int32.toInt ev26
    intro v28 ev28
    have f29 := aAQ v26 252645135 (by omega)
    have hv28 := congrArg Int32.toInt ev28
    intro v30 ev30
    have hv30 := congrArg Int32.toInt ev30
    intro v32 ev32
    have hv32 := congrArg Int32.toInt ev32
    refine And.intro (aBZ (by omega)) ?_
    intro v34 ev34
    have f35 : Int32.toInt (v14 + 1) = Int32.toInt v14 + Int32.toInt (1 : Int32) := aAD _ _ (by omega)
    rw [← ev34] at f35
    exact hpost _ _ _ _ _ _ aBK (by omega) yG aAH zY
  · skip
    have c3 := mt (aAd _ _).mpr c3
    refine aKO (by omega) xJ xU xV (by omega) (fun r36 h_r36 ox37 => ?_)
    refine aXh (by omega) xJ zM (fun r38 h_r38 ox39 => ?_)
    intro v40 ev40
    have f41 := aAQ r36 r38 (by omega)
    have f42 := aBx r36 r38 (by omega)
    have hv40 := congrArg Int32.toInt ev40
    have q43 := xV (19 : Int32).toNatClampNeg (by have e9 : (19 : Int32).toNatClampNeg = (Int32.toInt (19 : Int32)).toNat := rfl; omega)
    refine And.intro (fun c44 => ?_) (fun c44 => ?_)
    · skip
      have c44 := mt (zJ _ _).mpr c44
      intro v46 ev46
      have f47 : Int32.toInt (x3 - 1) = Int32.toInt x3 - Int32.toInt (1 : Int32) := aCA _ _ (by omega)
      rw [← ev46] at f47
      refine aXh (by omega) xJ zM (fun r48 h_r48 ox49 => ?_)
      intro v50 ev50
      intro v51 ev51
      have f54 := aBx v40 (r48 ^^^ (-1)) (by omega)
      have f55 := aAQ v50 1431655765 (by omega)
      have f52 : Int32.toInt ((v40 &&& (r48 ^^^ (-1))) - (v50 &&& 1431655765)) = Int32.toInt (v40 &&& (r48 ^^^ (-1))) - Int32.toInt (v50 &&& 1431655765) := aCA _ _ (by omega)
      rw [← ev51] at f52
      intro v56 ev56
      have f57 := aAQ v51 858993459 (by omega)
      have hv56 := congrArg Int32.toInt ev56
      intro v58 ev58
      intro v59 ev59
      have f61 := aAQ v58 858993459 (by omega)
      have f60 : Int32.toInt (v56 + (v58 &&& 858993459)) = Int32.toInt v56 + Int32.toInt (v58 &&& 858993459) := aAD _ _ (by omega)
      rw [← ev59] at f60
      intro v62 ev62
      have hv62 := congrArg Int32.toInt ev62
      intro v64 ev64
      have f65 := aAQ v62 252645135 (by omega)
      have hv64 := congrArg Int32.toInt ev64
      intro v66 ev66
      have hv66 := congrArg Int32.toInt ev66
      intro v68 ev68
      have hv68 := congrArg Int32.toInt ev68
      have f71 := aAQ v68 63 (by omega)
      refine And.intro (fun c70 => ?_) (fun c70 => ?_)
      · skip
        have c70 := (aAd _ _).mp c70
        exact ts_X10_ripens_57 bT aG qG m_x gR qR nG oO pJ xJ vZ xU xV aAW xK zM xT yF yD xZ hc0 hc1 hpost hKn (v68 &&& 63) x3 x3 bL bY dO sW sH (by omega) (by omega) (by omega) yJ yG aAH zY hn27
      · skip
        have c70 := mt (aAd _ _).mpr c70
        exact ts_X10_ripens_57 bT aG qG m_x gR qR nG oO pJ xJ vZ xU xV aAW xK zM xT yF yD xZ hc0 hc1 hpost hKn x1 x2 x3 bL bY dO sW sH (by omega) aBN (by omega) yJ yG aAH zY hn27
    · skip
      have c44 := (zJ _ _).mp c44
      intro v72 ev72
      intro v73 ev73
      have f75 := aAQ v72 1431655765 (by omega)
      have f74 : Int32.toInt (v40 - (v72 &&& 1431655765)) = Int32.toInt v40 - Int32.toInt (v72 &&& 1431655765) := aCA _ _ (by omega)
      rw [← ev73] at f74
      intro v76 ev76
      have f77 := aAQ v73 858993459 (by omega)
      have hv76 := congrArg Int32.toInt ev76
      intro v78 ev78
      intro v79 ev79
      have f81 := aAQ v78 858993459 (by omega)
      have f80 : Int32.toInt (v76 + (v78 &&& 858993459)) = Int32.toInt v76 + Int32.toInt (v78 &&& 858993459) := aAD _ _ (by omega)
      rw [← ev79] at f80
      intro v82 ev82
      have hv82 := congrArg Int32.toInt ev82
      intro v84 ev84
      have f85 := aAQ v82 252645135 (by omega)
      have hv84 := congrArg Int32.toInt ev84
      intro v86 ev86
      have hv86 := congrArg Int32.toInt ev86
      intro v88 ev88
      have hv88 := congrArg Int32.toInt ev88
      have f91 := aAQ v88 63 (by omega)
      refine And.intro (fun c90 => ?_) (fun c90 => ?_)
      · skip
        have c90 := (aAd _ _).mp c90
        exact ts_X10_ripens_57 bT aG qG m_x gR qR nG oO pJ xJ vZ xU xV aAW xK zM xT yF yD xZ hc0 hc1 hpost hKn (v88 &&& 63) x3 x3 bL bY dO sW sH (by omega) (by omega) (by omega) yJ yG aAH zY hn27
      · skip
        have c90 := mt (aAd _ _).mpr c90
        exact ts_X10_ripens_57 bT aG qG m_x gR qR nG oO pJ xJ vZ xU xV aAW xK zM xT yF yD xZ hc0 hc1 hpost hKn x1 x2 x3 bL bY dO sW sH (by omega) aBN (by omega) yJ yG aAH zY hn27
set_option maxHeartbeats 8000000 in
set_option maxRecDepth 200000 in
theorem tb_X10_ripens_27 {post : Int32 → Int32 → Int32 → Int32 → (Nat → Int32) → (Nat → Int32) → Prop} {SB : Int} (bT aG : Int32) (qG m_x gR qR nG oO pJ : Nat → Int32) (xJ : 0 ≤ Int32.toInt bT ∧ Int32.toInt bT ≤ 16) (vZ : 0 ≤ Int32.toInt aG ∧ Int32.toInt aG ≤ 8) (xU : ∀ k : Nat, k = 17 → -1 ≤ Int32.toInt (qG k) ∧ Int32.toInt (qG k) ≤ SB) (xV : ∀ k : Nat, k = 19 → 0 ≤ Int32.toInt (qG k) ∧ Int32.toInt (qG k) ≤ 9) (aAW : ∀ k : Nat, 0 ≤ Int32.toInt (m_x k) ∧ Int32.toInt (m_x k) ≤ 99) (xK : ∀ k : Nat, 0 ≤ Int32.toInt (gR k) ∧ Int32.toInt (gR k) ≤ 99) (zM : ∀ k : Nat, 0 ≤ Int32.toInt (qR k) ∧ Int32.toInt (qR k) ≤ 9) (xT : ∀ k : Nat, 0 ≤ Int32.toInt (nG k) ∧ Int32.toInt (nG k) ≤ 99) (yF : ∀ k : Nat, 0 ≤ Int32.toInt (oO k) ∧ Int32.toInt (oO k) ≤ 99) (yD : ∀ k : Nat, k = 4 → 1 ≤ Int32.toInt (pJ k) ∧ Int32.toInt (pJ k) ≤ 30) (xZ : ∀ k : Nat, k = 3 → 0 ≤ Int32.toInt (pJ k) ∧ Int32.toInt (pJ k) ≤ 9) (hc0 : -1 ≤ SB ∧ SB ≤ 7) (hc1 : (Int32.toInt aG ≤ 0 ∧ SB = 0) ∨ (1 ≤ Int32.toInt aG ∧ SB = Int32.toInt aG - 1)) (hpost : ∀ (r : Int32) (xM : Int32) (xG : Int32) (aAS : Int32) (aBX : Nat → Int32) (aA5 : Nat → Int32), (-1 ≤ Int32.toInt r ∧ Int32.toInt r ≤ 63) → (2 ≤ Int32.toInt xM ∧ Int32.toInt xM ≤ 2) → (0 ≤ Int32.toInt xG ∧ Int32.toInt xG ≤ 0) → (0 ≤ Int32.toInt aAS ∧ Int32.toInt aAS ≤ 65535) → (∀ k : Nat, 0 ≤ Int32.toInt (aA5 k) ∧ Int32.toInt (aA5 k) ≤ 65535) → post r xM xG aAS aBX aA5) : ∀ (n : Nat) (x1 x2 x3 bL bY dO : Int32) (sW sH : Nat → Int32), (-1 ≤ Int32.toInt x1 ∧ Int32.toInt x1 ≤ 63) → (0 ≤ Int32.toInt x2 ∧ Int32.toInt x2 ≤ 9) → (0 ≤ Int32.toInt x3 ∧ Int32.toInt x3 ≤ 10) → (0 ≤ Int32.toInt bL ∧ Int32.toInt bL ≤ 16) → (0 ≤ Int32.toInt bY ∧ Int32.toInt bY ≤ 0) → (0 ≤ Int32.toInt dO ∧ Int32.toInt dO ≤ 65535) → (∀ k : Nat, 0 ≤ Int32.toInt (sH k) ∧ Int32.toInt (sH k) ≤ 65535) → (10 - Int32.toInt x3 < (n : Int)) → wb_X10_ripens_27 post bT aG qG m_x gR qR nG oO pJ n x1 x2 x3 bL bY dO sW sH := by
  intro n
  induction n with
  | zero =>
    intro x1 x2 x3 bL bY dO sW sH aBK aBN aCH yJ yG aAH zY hm
    exfalso; omega
  | succ n ih =>
    intro x1 x2 x3 bL bY dO sW sH aBK aBN aCH yJ yG aAH zY hm
    exact ts_X10_ripens_27 bT aG qG m_x gR qR nG oO pJ xJ vZ xU xV aAW xK zM xT yF yD xZ hc0 hc1 hpost ih x1 x2 x3 bL bY dO sW sH aBK aBN aCH yJ yG aAH zY (by omega)
set_option maxHeartbeats 8000000 in
set_option maxRecDepth 200000 in
theorem t_X10_ripens {post : Int32 → Int32 → Int32 → Int32 → (Nat → Int32) → (Nat → Int32) → Prop} {SB : Int} {bT aG bL bY dO : Int32} {qG m_x gR qR nG oO pJ sW sH : Nat → Int32} (xJ : 0 ≤ Int32.toInt bT ∧ Int32.toInt bT ≤ 16) (vZ : 0 ≤ Int32.toInt aG ∧ Int32.toInt aG ≤ 8) (yJ : 0 ≤ Int32.toInt bL ∧ Int32.toInt bL ≤ 16) (yG : 0 ≤ Int32.toInt bY ∧ Int32.toInt bY ≤ 1) (aAH : 0 ≤ Int32.toInt dO ∧ Int32.toInt dO ≤ 65535) (xU : ∀ k : Nat, k = 17 → -1 ≤ Int32.toInt (qG k) ∧ Int32.toInt (qG k) ≤ SB) (xV : ∀ k : Nat, k = 19 → 0 ≤ Int32.toInt (qG k) ∧ Int32.toInt (qG k) ≤ 9) (aAW : ∀ k : Nat, 0 ≤ Int32.toInt (m_x k) ∧ Int32.toInt (m_x k) ≤ 99) (xK : ∀ k : Nat, 0 ≤ Int32.toInt (gR k) ∧ Int32.toInt (gR k) ≤ 99) (zM : ∀ k : Nat, 0 ≤ Int32.toInt (qR k) ∧ Int32.toInt (qR k) ≤ 9) (xT : ∀ k : Nat, 0 ≤ Int32.toInt (nG k) ∧ Int32.toInt (nG k) ≤ 99) (yF : ∀ k : Nat, 0 ≤ Int32.toInt (oO k) ∧ Int32.toInt (oO k) ≤ 99) (yD : ∀ k : Nat, k = 4 → 1 ≤ Int32.toInt (pJ k) ∧ Int32.toInt (pJ k) ≤ 30) (xZ : ∀ k : Nat, k = 3 → 0 ≤ Int32.toInt (pJ k) ∧ Int32.toInt (pJ k) ≤ 9) (zY : ∀ k : Nat, 0 ≤ Int32.toInt (sH k) ∧ Int32.toInt (sH k) ≤ 65535) (hc0 : -1 ≤ SB ∧ SB ≤ 7) (hc1 : (Int32.toInt aG ≤ 0 ∧ SB = 0) ∨ (1 ≤ Int32.toInt aG ∧ SB = Int32.toInt aG - 1)) (hpost : ∀ (r : Int32) (xM : Int32) (xG : Int32) (aAS : Int32) (aBX : Nat → Int32) (aA5 : Nat → Int32), (-1 ≤ Int32.toInt r ∧ Int32.toInt r ≤ 63) → (2 ≤ Int32.toInt xM ∧ Int32.toInt xM ≤ 2) → (0 ≤ Int32.toInt xG ∧ Int32.toInt xG ≤ 0) → (0 ≤ Int32.toInt aAS ∧ Int32.toInt aAS ≤ 65535) → (∀ k : Nat, 0 ≤ Int32.toInt (aA5 k) ∧ Int32.toInt (aA5 k) ≤ 65535) → post r xM xG aAS aBX aA5) : wp_X10_ripens post bT aG bL bY dO qG m_x gR qR nG oO pJ sW sH := by
  have l0 := aI2
  have l1 := aE0
  have l2 := li_18
  have l3 := li_19
  intro v92 ev92
  have hv92 := congrArg Int32.toInt ev92
  refine aLb xJ vZ aAH xU xV aAW xK zM xT yF yD xZ zY (by omega) (by omega) (fun m_wanted_94 m_hand_95 h_m_wanted_94 h_m_hand_95 => ?_)
  have q96 := xV (19 : Int32).toNatClampNeg (by have e9 : (19 : Int32).toNatClampNeg = (Int32.toInt (19 : Int32)).toNat := rfl; omega)
  intro v97 ev97
  have hv97 := congrArg Int32.toInt ev97
  have q99 := xV (19 : Int32).toNatClampNeg (by have e9 : (19 : Int32).toNatClampNeg = (Int32.toInt (19 : Int32)).toNat := rfl; omega)
  intro v100 ev100
  have hv100 := congrArg Int32.toInt ev100
  exact ⟨12, tb_X10_ripens_27 bT aG qG m_x gR qR nG oO pJ xJ vZ xU xV aAW xK zM xT yF yD xZ hc0 hc1 hpost _ (-1) v97 v100 bL 0 m_wanted_94 sW m_hand_95 (by omega) (by omega) (by omega) yJ (by omega) h_m_wanted_94 h_m_hand_95 (by omega)⟩
set_option maxHeartbeats 8000000 in
set_option maxRecDepth 200000 in
theorem t_X10_ondays {post : Int32 → Int32 → Int32 → Int32 → (Nat → Int32) → (Nat → Int32) → Prop} {SB : Int} {p0 bT aG bL bY dO : Int32} {qG m_x gR qR nG oO pJ sW sH : Nat → Int32} (xJ : 0 ≤ Int32.toInt bT ∧ Int32.toInt bT ≤ 16) (vZ : 0 ≤ Int32.toInt aG ∧ Int32.toInt aG ≤ 8) (yJ : 0 ≤ Int32.toInt bL ∧ Int32.toInt bL ≤ 16) (yG : 0 ≤ Int32.toInt bY ∧ Int32.toInt bY ≤ 1) (aAH : 0 ≤ Int32.toInt dO ∧ Int32.toInt dO ≤ 65535) (xU : ∀ k : Nat, k = 17 → -1 ≤ Int32.toInt (qG k) ∧ Int32.toInt (qG k) ≤ SB) (xV : ∀ k : Nat, k = 19 → 0 ≤ Int32.toInt (qG k) ∧ Int32.toInt (qG k) ≤ 9) (aAW : ∀ k : Nat, 0 ≤ Int32.toInt (m_x k) ∧ Int32.toInt (m_x k) ≤ 99) (xK : ∀ k : Nat, 0 ≤ Int32.toInt (gR k) ∧ Int32.toInt (gR k) ≤ 99) (zM : ∀ k : Nat, 0 ≤ Int32.toInt (qR k) ∧ Int32.toInt (qR k) ≤ 9) (xT : ∀ k : Nat, 0 ≤ Int32.toInt (nG k) ∧ Int32.toInt (nG k) ≤ 99) (yF : ∀ k : Nat, 0 ≤ Int32.toInt (oO k) ∧ Int32.toInt (oO k) ≤ 99) (yD : ∀ k : Nat, k = 4 → 1 ≤ Int32.toInt (pJ k) ∧ Int32.toInt (pJ k) ≤ 30) (xZ : ∀ k : Nat, k = 3 → 0 ≤ Int32.toInt (pJ k) ∧ Int32.toInt (pJ k) ≤ 9) (zY : ∀ k : Nat, 0 ≤ Int32.toInt (sH k) ∧ Int32.toInt (sH k) ≤ 65535) (hc0 : -1 ≤ SB ∧ SB ≤ 7) (hc1 : (Int32.toInt aG ≤ 0 ∧ SB = 0) ∨ (1 ≤ Int32.toInt aG ∧ SB = Int32.toInt aG - 1)) (hpost : ∀ (r : Int32) (xM : Int32) (xG : Int32) (aAS : Int32) (aBX : Nat → Int32) (aA5 : Nat → Int32), (-1 ≤ Int32.toInt r ∧ Int32.toInt r ≤ 63) → (0 ≤ Int32.toInt xM ∧ Int32.toInt xM ≤ 16) → (0 ≤ Int32.toInt xG ∧ Int32.toInt xG ≤ 0) → (0 ≤ Int32.toInt aAS ∧ Int32.toInt aAS ≤ 65535) → (∀ k : Nat, 0 ≤ Int32.toInt (aA5 k) ∧ Int32.toInt (aA5 k) ≤ 65535) → post r xM xG aAS aBX aA5) : wp_X10_ondays post p0 bT aG bL bY dO qG m_x gR qR nG oO pJ sW sH := by
  have l0 := aI2
  have l1 := aE0
  have l2 := aEc
  have l3 := li_18
  have l4 := li_19
  have l5 := li_9
  have q1 := xV (19 : Int32).toNatClampNeg (by have e9 : (19 : Int32).toNatClampNeg = (Int32.toInt (19 : Int32)).toNat := rfl; omega)
  intro v2 ev2
  have hv2 := congrArg Int32.toInt ev2
  have f5 := aAT p0
  refine And.intro (fun c4 => ?_) (fun c4 => ?_)
  · skip
    have c4 := (aAd _ _).mp c4
    refine And.intro (fun h9 => absurd h9 (by decide)) (fun _ => ?_)
    exact hpost _ _ _ _ _ _ (by omega) yJ (by omega) aAH zY
  · skip
    have c4 := mt (aAd _ _).mpr c4
    refine And.intro (fun c6 => ?_) (fun c6 => ?_)
    · skip
      have c6 := (aAd _ _).mp c6
      refine And.intro (fun h9 => absurd h9 (by decide)) (fun _ => ?_)
      exact hpost _ _ _ _ _ _ (by omega) yJ (by omega) aAH zY
    · skip
      have c6 := mt (aAd _ _).mpr c6
      refine And.intro (fun _ => ?_) (fun h9 => absurd h9 (by decide))
      intro v7 ev7
      have hv7 := congrArg Int32.toInt ev7
      refine aLb xJ vZ aAH xU xV aAW xK zM xT yF yD xZ zY (by omega) (by omega) (fun m_wanted_9 m_hand_10 h_m_wanted_9 h_m_hand_10 => ?_)
      refine aKO (by omega) xJ xU xV (by omega) (fun r11 h_r11 ox12 => ?_)
      refine aXh (by omega) xJ zM (fun r13 h_r13 ox14 => ?_)
      intro v15 ev15
      have f16 := aAQ r11 r13 (by omega)
      have f17 := aBx r11 r13 (by omega)
      have hv15 := congrArg Int32.toInt ev15
      have q18 := xV (19 : Int32).toNatClampNeg (by have e9 : (19 : Int32).toNatClampNeg = (Int32.toInt (19 : Int32)).toNat := rfl; omega)
      refine And.intro (fun c19 => ?_) (fun c19 => ?_)
      · skip
        have c19 := mt (zJ _ _).mpr c19
        intro v20 ev20
        have f21 : Int32.toInt (p0 - 1) = Int32.toInt p0 - Int32.toInt (1 : Int32) := aCA _ _ (by omega)
        rw [← ev20] at f21
        refine aXh (by omega) xJ zM (fun r22 h_r22 ox23 => ?_)
        intro v24 ev24
        have f25 := aDv 8 256 aG (by decide) (by omega)
        have hv24 := congrArg Int32.toInt ev24
        have f27 : Int32.toInt (v24 - 1) = Int32.toInt v24 - Int32.toInt (1 : Int32) := aCA _ _ (by omega)
        refine aSL (by omega) vZ h_m_hand_10 (fun r26 h_r26 => ?_)
        intro v28 ev28
        have f29 := aAQ (v15 &&& (r22 ^^^ (-1))) r26 (by omega)
        have f31 := aBx v15 (r22 ^^^ (-1)) (by omega)
        have f32 := aBx (v15 &&& (r22 ^^^ (-1))) r26 (by omega)
        have hv28 := congrArg Int32.toInt ev28
        refine t_X10_tellCover (by omega) vZ yJ h_m_hand_10 (fun r35 m_rowMany_33 m_row_34 h_r35 h_m_rowMany_33 => ?_)
        exact hpost _ _ _ _ _ _ (by omega) h_m_rowMany_33 (by omega) h_m_wanted_9 h_m_hand_10
      · skip
        have c19 := (zJ _ _).mp c19
        intro v36 ev36
        have f37 := aDv 8 256 aG (by decide) (by omega)
        have hv36 := congrArg Int32.toInt ev36
        have f39 : Int32.toInt (v36 - 1) = Int32.toInt v36 - Int32.toInt (1 : Int32) := aCA _ _ (by omega)
        refine aSL (by omega) vZ h_m_hand_10 (fun r38 h_r38 => ?_)
        intro v40 ev40
        have f41 := aAQ v15 r38 (by omega)
        have f42 := aBx v15 r38 (by omega)
        have hv40 := congrArg Int32.toInt ev40
        refine t_X10_tellCover (by omega) vZ yJ h_m_hand_10 (fun r45 m_rowMany_43 m_row_44 h_r45 h_m_rowMany_43 => ?_)
        exact hpost _ _ _ _ _ _ (by omega) h_m_rowMany_43 (by omega) h_m_wanted_9 h_m_hand_10
set_option maxHeartbeats 8000000 in
set_option maxRecDepth 200000 in
theorem ts_X10_allripe_39 {post : Int32 → Int32 → Int32 → (Nat → Int32) → Prop} {SB : Int} {next : Int32 → Int32 → Int32 → Int32 → Int32 → (Nat → Int32) → Prop} {n39 : Int} (bT : Int32) (qG pW qR : Nat → Int32) (xJ : 0 ≤ Int32.toInt bT ∧ Int32.toInt bT ≤ 16) (xU : ∀ k : Nat, k = 17 → -1 ≤ Int32.toInt (qG k) ∧ Int32.toInt (qG k) ≤ SB) (xV : ∀ k : Nat, k = 19 → 0 ≤ Int32.toInt (qG k) ∧ Int32.toInt (qG k) ≤ 9) (yR : ∀ k : Nat, 0 ≤ Int32.toInt (pW k) ∧ Int32.toInt (pW k) ≤ 9) (zM : ∀ k : Nat, 0 ≤ Int32.toInt (qR k) ∧ Int32.toInt (qR k) ≤ 9) (hc0 : -1 ≤ SB ∧ SB ≤ 7) (hpost : ∀ (r : Int32) (xM : Int32) (xG : Int32) (aBX : Nat → Int32), (0 ≤ Int32.toInt r ∧ Int32.toInt r ≤ 9) → (2 ≤ Int32.toInt xM ∧ Int32.toInt xM ≤ 2) → (0 ≤ Int32.toInt xG ∧ Int32.toInt xG ≤ 0) → post r xM xG aBX) (hKn : ∀ (x1 : Int32) (x2 : Int32) (x3 : Int32) (bL : Int32) (bY : Int32) (sW : Nat → Int32), (0 ≤ Int32.toInt x1 ∧ Int32.toInt x1 ≤ 65535) → (0 ≤ Int32.toInt x2 ∧ Int32.toInt x2 ≤ 65535) → (0 ≤ Int32.toInt x3 ∧ Int32.toInt x3 ≤ 9) → (0 ≤ Int32.toInt bL ∧ Int32.toInt bL ≤ 16) → (0 ≤ Int32.toInt bY ∧ Int32.toInt bY ≤ 0) → (x1 = (bsf (Int32.toInt bT).toNat (fun k => decide (qG k = 0)))) → (9 - Int32.toInt x3 < n39) → next x1 x2 x3 bL bY sW) (x1 x2 x3 bL bY : Int32) (sW : Nat → Int32) (aBK : 0 ≤ Int32.toInt x1 ∧ Int32.toInt x1 ≤ 65535) (aBN : 0 ≤ Int32.toInt x2 ∧ Int32.toInt x2 ≤ 65535) (aCH : 0 ≤ Int32.toInt x3 ∧ Int32.toInt x3 ≤ 9) (yJ : 0 ≤ Int32.toInt bL ∧ Int32.toInt bL ≤ 16) (yG : 0 ≤ Int32.toInt bY ∧ Int32.toInt bY ≤ 0) (hx0 : x1 = (bsf (Int32.toInt bT).toNat (fun k => decide (qG k = 0)))) (hn39 : 9 - Int32.toInt x3 ≤ n39) : ws_X10_allripe_39 post next bT qG pW qR x1 x2 x3 bL bY sW := by
  have l0 := aE0
  have l1 := aEc
  have l2 := aKH
  have l3 := li_16
  have l4 := aJ8
  have l5 := aJ9
  refine aXh (by omega) xJ zM (fun r1 h_r1 ox2 => ?_)
  have f5 := aBx x1 (r1 ^^^ (-1)) (by omega)
  refine And.intro (fun c3 => ?_) (fun c3 => ?_)
  · skip
    have c3Z := c3
    have c3 := (zJ _ _).mp c3
    have s6 := ti_subset x1 r1 (c3Z) (by omega)
    intro v7 ev7
    intro v8 ev8
    have f10 := aAQ v7 1431655765 (by omega)
    have f9 : Int32.toInt (x2 - (v7 &&& 1431655765)) = Int32.toInt x2 - Int32.toInt (v7 &&& 1431655765) := aCA _ _ (by omega)
    rw [← ev8] at f9
    intro v11 ev11
    have f12 := aAQ v8 858993459 (by omega)
    have hv11 := congrArg Int32.toInt ev11
    intro v13 ev13
    intro v14 ev14
    have f16 := aAQ v13 858993459 (by omega)
    have f15 : Int32.toInt (v11 + (v13 &&& 858993459)) = Int32.toInt v11 + Int32.toInt (v13 &&& 858993459) := aAD _ _ (by omega)
    rw [← ev14] at f15
    intro v17 ev17
    have hv17 := congrArg Int32.toInt ev17
    intro v19 ev19
    have f20 := aAQ v17 252645135 (by omega)
    have hv19 := congrArg Int32.toInt ev19
    intro v21 ev21
    have hv21 := congrArg Int32.toInt ev21
    intro v23 ev23
    have hv23 := congrArg Int32.toInt ev23
    refine And.intro (aBZ (by omega)) ?_
    intro v25 ev25
    have f26 : Int32.toInt (0 + 1) = Int32.toInt (0 : Int32) + Int32.toInt (1 : Int32) := aAD _ _ (by omega)
    rw [← ev25] at f26
    intro v27 ev27
    have hv27 := congrArg Int32.toInt ev27
    refine aNU aBN xJ yR (fun r29 => ?_)
    refine And.intro (aBZ (by omega)) ?_
    intro v30 ev30
    have f31 : Int32.toInt (v25 + 1) = Int32.toInt v25 + Int32.toInt (1 : Int32) := aAD _ _ (by omega)
    rw [← ev30] at f31
    exact hpost _ _ _ _ aCH (by omega) yG
  · skip
    have c3 := mt (zJ _ _).mpr c3
    have j32 := ar_lt (x1 := x1) (d := x3) (by assumption) (by assumption) zM (by assumption) (by omega)
    intro v33 ev33
    have f34 : Int32.toInt (x3 + 1) = Int32.toInt x3 + Int32.toInt (1 : Int32) := aAD _ _ (by omega)
    rw [← ev33] at f34
    exact hKn x1 x2 v33 bL bY sW aBK aBN (by omega) yJ yG (by assumption) (by omega)
set_option maxHeartbeats 8000000 in
set_option maxRecDepth 200000 in
theorem tb_X10_allripe_39 {post : Int32 → Int32 → Int32 → (Nat → Int32) → Prop} {SB : Int} (bT : Int32) (qG pW qR : Nat → Int32) (xJ : 0 ≤ Int32.toInt bT ∧ Int32.toInt bT ≤ 16) (xU : ∀ k : Nat, k = 17 → -1 ≤ Int32.toInt (qG k) ∧ Int32.toInt (qG k) ≤ SB) (xV : ∀ k : Nat, k = 19 → 0 ≤ Int32.toInt (qG k) ∧ Int32.toInt (qG k) ≤ 9) (yR : ∀ k : Nat, 0 ≤ Int32.toInt (pW k) ∧ Int32.toInt (pW k) ≤ 9) (zM : ∀ k : Nat, 0 ≤ Int32.toInt (qR k) ∧ Int32.toInt (qR k) ≤ 9) (hc0 : -1 ≤ SB ∧ SB ≤ 7) (hpost : ∀ (r : Int32) (xM : Int32) (xG : Int32) (aBX : Nat → Int32), (0 ≤ Int32.toInt r ∧ Int32.toInt r ≤ 9) → (2 ≤ Int32.toInt xM ∧ Int32.toInt xM ≤ 2) → (0 ≤ Int32.toInt xG ∧ Int32.toInt xG ≤ 0) → post r xM xG aBX) : ∀ (n : Nat) (x1 x2 x3 bL bY : Int32) (sW : Nat → Int32), (0 ≤ Int32.toInt x1 ∧ Int32.toInt x1 ≤ 65535) → (0 ≤ Int32.toInt x2 ∧ Int32.toInt x2 ≤ 65535) → (0 ≤ Int32.toInt x3 ∧ Int32.toInt x3 ≤ 9) → (0 ≤ Int32.toInt bL ∧ Int32.toInt bL ≤ 16) → (0 ≤ Int32.toInt bY ∧ Int32.toInt bY ≤ 0) → (x1 = (bsf (Int32.toInt bT).toNat (fun k => decide (qG k = 0)))) → (9 - Int32.toInt x3 < (n : Int)) → wb_X10_allripe_39 post bT qG pW qR n x1 x2 x3 bL bY sW := by
  intro n
  induction n with
  | zero =>
    intro x1 x2 x3 bL bY sW aBK aBN aCH yJ yG hx0 hm
    exfalso; omega
  | succ n ih =>
    intro x1 x2 x3 bL bY sW aBK aBN aCH yJ yG hx0 hm
    exact ts_X10_allripe_39 bT qG pW qR xJ xU xV yR zM hc0 hpost ih x1 x2 x3 bL bY sW aBK aBN aCH yJ yG hx0 (by omega)
set_option maxHeartbeats 8000000 in
set_option maxRecDepth 200000 in
theorem t_X10_allripe {post : Int32 → Int32 → Int32 → (Nat → Int32) → Prop} {SB : Int} {bT bL bY : Int32} {qG pW qR sW : Nat → Int32} (xJ : 0 ≤ Int32.toInt bT ∧ Int32.toInt bT ≤ 16) (yJ : 0 ≤ Int32.toInt bL ∧ Int32.toInt bL ≤ 16) (yG : 0 ≤ Int32.toInt bY ∧ Int32.toInt bY ≤ 1) (xU : ∀ k : Nat, k = 17 → -1 ≤ Int32.toInt (qG k) ∧ Int32.toInt (qG k) ≤ SB) (xV : ∀ k : Nat, k = 19 → 0 ≤ Int32.toInt (qG k) ∧ Int32.toInt (qG k) ≤ 9) (yR : ∀ k : Nat, 0 ≤ Int32.toInt (pW k) ∧ Int32.toInt (pW k) ≤ 9) (zM : ∀ k : Nat, 0 ≤ Int32.toInt (qR k) ∧ Int32.toInt (qR k) ≤ 9) (hc0 : -1 ≤ SB ∧ SB ≤ 7) (hpost : ∀ (r : Int32) (xM : Int32) (xG : Int32) (aBX : Nat → Int32), (0 ≤ Int32.toInt r ∧ Int32.toInt r ≤ 9) → (2 ≤ Int32.toInt xM ∧ Int32.toInt xM ≤ 2) → (0 ≤ Int32.toInt xG ∧ Int32.toInt xG ≤ 0) → post r xM xG aBX) : wp_X10_allripe post bT bL bY qG pW qR sW := by
  have l0 := aE0
  have l1 := li_19
  refine aKO (by omega) xJ xU xV (by omega) (fun r35 h_r35 ox36 => ?_)
  have q37 := xV (19 : Int32).toNatClampNeg (by have e9 : (19 : Int32).toNatClampNeg = (Int32.toInt (19 : Int32)).toNat := rfl; omega)
  intro v38 ev38
  have hv38 := congrArg Int32.toInt ev38
  refine aXh (by omega) xJ zM (fun r40 h_r40 ox41 => ?_)
  intro v42 ev42
  have f44 := aBx r35 (r40 ^^^ (-1)) (by omega)
  have hv42 := congrArg Int32.toInt ev42
  have q45 := xV (19 : Int32).toNatClampNeg (by have e9 : (19 : Int32).toNatClampNeg = (Int32.toInt (19 : Int32)).toNat := rfl; omega)
  intro v46 ev46
  have hv46 := congrArg Int32.toInt ev46
  exact ⟨11, tb_X10_allripe_39 bT qG pW qR xJ xU xV yR zM hc0 hpost _ r35 v42 v46 bL 0 sW h_r35 (by omega) (by omega) yJ (by omega) (by assumption) (by omega)⟩
