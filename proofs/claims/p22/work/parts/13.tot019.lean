set_option maxHeartbeats 8000000 in
set_option maxRecDepth 200000 in
theorem t_X10_helps {post : Int32 → Int32 → Int32 → Int32 → (Nat → Int32) → (Nat → Int32) → Prop} {SB : Int} {bT aG bL bY dO : Int32} {qG m_x gR qR nG oO pJ sW sH : Nat → Int32} (xJ : 0 ≤ Int32.toInt bT ∧ Int32.toInt bT ≤ 16) (vZ : 0 ≤ Int32.toInt aG ∧ Int32.toInt aG ≤ 8) (yJ : 0 ≤ Int32.toInt bL ∧ Int32.toInt bL ≤ 16) (yG : 0 ≤ Int32.toInt bY ∧ Int32.toInt bY ≤ 1) (aAH : 0 ≤ Int32.toInt dO ∧ Int32.toInt dO ≤ 65535) (xU : ∀ k : Nat, k = 17 → -1 ≤ Int32.toInt (qG k) ∧ Int32.toInt (qG k) ≤ SB) (xV : ∀ k : Nat, k = 19 → 0 ≤ Int32.toInt (qG k) ∧ Int32.toInt (qG k) ≤ 9) (aAW : ∀ k : Nat, 0 ≤ Int32.toInt (m_x k) ∧ Int32.toInt (m_x k) ≤ 99) (xK : ∀ k : Nat, 0 ≤ Int32.toInt (gR k) ∧ Int32.toInt (gR k) ≤ 99) (zM : ∀ k : Nat, 0 ≤ Int32.toInt (qR k) ∧ Int32.toInt (qR k) ≤ 9) (xT : ∀ k : Nat, 0 ≤ Int32.toInt (nG k) ∧ Int32.toInt (nG k) ≤ 99) (yF : ∀ k : Nat, 0 ≤ Int32.toInt (oO k) ∧ Int32.toInt (oO k) ≤ 99) (yD : ∀ k : Nat, k = 4 → 1 ≤ Int32.toInt (pJ k) ∧ Int32.toInt (pJ k) ≤ 30) (xZ : ∀ k : Nat, k = 3 → 0 ≤ Int32.toInt (pJ k) ∧ Int32.toInt (pJ k) ≤ 9) (zY : ∀ k : Nat, 0 ≤ Int32.toInt (sH k) ∧ Int32.toInt (sH k) ≤ 65535) (hc0 : -1 ≤ SB ∧ SB ≤ 7) (hc1 : (Int32.toInt aG ≤ 0 ∧ SB = 0) ∨ (1 ≤ Int32.toInt aG ∧ SB = Int32.toInt aG - 1)) (hpost : ∀ (r : Int32) (xM : Int32) (xG : Int32) (aAS : Int32) (aBX : Nat → Int32) (aA5 : Nat → Int32), (-63 ≤ Int32.toInt r ∧ Int32.toInt r ≤ 63) → (2 ≤ Int32.toInt xM ∧ Int32.toInt xM ≤ 2) → (0 ≤ Int32.toInt xG ∧ Int32.toInt xG ≤ 0) → (0 ≤ Int32.toInt aAS ∧ Int32.toInt aAS ≤ 65535) → (∀ k : Nat, 0 ≤ Int32.toInt (aA5 k) ∧ Int32.toInt (aA5 k) ≤ 65535) → post r xM xG aAS aBX aA5) : wp_X10_helps post bT aG bL bY dO qG m_x gR qR nG oO pJ sW sH := by
  have l0 := aE0
  have l1 := aEc
  have l2 := aKH
  have l3 := aJ8
  have l4 := li_63
  have l5 := aJ9
  refine aLb xJ vZ aAH xU xV aAW xK zM xT yF yD xZ zY (by omega) (by omega) (fun aDN aII h_m_wanted_1 h_m_hand_2 => ?_)
  refine t_X10_cover h_m_wanted_1 vZ h_m_hand_2 (fun r3 h_r3 => ?_)
  intro v4 ev4
  intro v5 ev5
  have f7 := aAQ v4 1431655765 (by omega)
  have f6 : Int32.toInt (r3 - (v4 &&& 1431655765)) = Int32.toInt r3 - Int32.toInt (v4 &&& 1431655765) := aCA _ _ ⟨by omega, by omega⟩
  rw [← ev5] at f6
  intro v8 ev8
  have f9 := aAQ v5 858993459 (by omega)
  have hv8 := congrArg Int32.toInt ev8
  intro v10 ev10
  intro v11 ev11
  have f13 := aAQ v10 858993459 (by omega)
  have f12 : Int32.toInt (v8 + (v10 &&& 858993459)) = Int32.toInt v8 + Int32.toInt (v10 &&& 858993459) := aAD _ _ ⟨by omega, by omega⟩
  rw [← ev11] at f12
  intro v14 ev14
  have hv14 := congrArg Int32.toInt ev14
  intro v16 ev16
  have f17 := aAQ v14 252645135 (by omega)
  have hv16 := congrArg Int32.toInt ev16
  intro v18 ev18
  have hv18 := congrArg Int32.toInt ev18
  intro v20 ev20
  have hv20 := congrArg Int32.toInt ev20
  intro v22 ev22
  intro v23 ev23
  have f25 := aAQ v22 1431655765 (by omega)
  have f24 : Int32.toInt (aDN - (v22 &&& 1431655765)) = Int32.toInt aDN - Int32.toInt (v22 &&& 1431655765) := aCA _ _ ⟨by omega, by omega⟩
  rw [← ev23] at f24
  intro v26 ev26
  have f27 := aAQ v23 858993459 (by omega)
  have hv26 := congrArg Int32.toInt ev26
  intro v28 ev28
  intro v29 ev29
  have f31 := aAQ v28 858993459 (by omega)
  have f30 : Int32.toInt (v26 + (v28 &&& 858993459)) = Int32.toInt v26 + Int32.toInt (v28 &&& 858993459) := aAD _ _ ⟨by omega, by omega⟩
  rw [← ev29] at f30
  intro v32 ev32
  have hv32 := congrArg Int32.toInt ev32
  intro v34 ev34
  have f35 := aAQ v32 252645135 (by omega)
  have hv34 := congrArg Int32.toInt ev34
  intro v36 ev36
  have hv36 := congrArg Int32.toInt ev36
  intro v38 ev38
  have hv38 := congrArg Int32.toInt ev38
  refine aLb xJ vZ h_m_wanted_1 xU xV aAW xK zM xT yF yD xZ h_m_hand_2 (by omega) (by omega) (fun m_wanted_40 m_hand_41 h_m_wanted_40 h_m_hand_41 => ?_)
  refine t_X10_cover h_m_wanted_40 vZ h_m_hand_41 (fun r42 h_r42 => ?_)
  intro v43 ev43
  intro v44 ev44
  have f46 := aAQ v43 1431655765 (by omega)
  have f45 : Int32.toInt (r42 - (v43 &&& 1431655765)) = Int32.toInt r42 - Int32.toInt (v43 &&& 1431655765) := aCA _ _ ⟨by omega, by omega⟩
  rw [← ev44] at f45
  intro v47 ev47
  have f48 := aAQ v44 858993459 (by omega)
  have hv47 := congrArg Int32.toInt ev47
  intro v49 ev49
  intro v50 ev50
  have f52 := aAQ v49 858993459 (by omega)
  have f51 : Int32.toInt (v47 + (v49 &&& 858993459)) = Int32.toInt v47 + Int32.toInt (v49 &&& 858993459) := aAD _ _ ⟨by omega, by omega⟩
  rw [← ev50] at f51
  intro v53 ev53
  have hv53 := congrArg Int32.toInt ev53
  intro v55 ev55
  have f56 := aAQ v53 252645135 (by omega)
  have hv55 := congrArg Int32.toInt ev55
  intro v57 ev57
  have hv57 := congrArg Int32.toInt ev57
  intro v59 ev59
  have hv59 := congrArg Int32.toInt ev59
  refine And.intro (aBZ ⟨by omega, by omega⟩) ?_
  intro v61 ev61
  have f62 : Int32.toInt (0 + 1) = Int32.toInt (0 : Int32) + Int32.toInt (1 : Int32) := aAD _ _ ⟨by omega, by omega⟩
  rw [← ev61] at f62
  intro v63 ev63
  intro v64 ev64
  have f66 := aAQ v63 1431655765 (by omega)
  have f65 : Int32.toInt (m_wanted_40 - (v63 &&& 1431655765)) = Int32.toInt m_wanted_40 - Int32.toInt (v63 &&& 1431655765) := aCA _ _ ⟨by omega, by omega⟩
  rw [← ev64] at f65
  intro v67 ev67
  have f68 := aAQ v64 858993459 (by omega)
  have hv67 := congrArg Int32.toInt ev67
  intro v69 ev69
  intro v70 ev70
  have f72 := aAQ v69 858993459 (by omega)
  have f71 : Int32.toInt (v67 + (v69 &&& 858993459)) = Int32.toInt v67 + Int32.toInt (v69 &&& 858993459) := aAD _ _ ⟨by omega, by omega⟩
  rw [← ev70] at f71
  intro v73 ev73
  have hv73 := congrArg Int32.toInt ev73
  intro v75 ev75
  have f76 := aAQ v73 252645135 (by omega)
  have hv75 := congrArg Int32.toInt ev75
  intro v77 ev77
  have hv77 := congrArg Int32.toInt ev77
  intro v79 ev79
  have hv79 := congrArg Int32.toInt ev79
  refine And.intro (aBZ ⟨by omega, by omega⟩) ?_
  intro v81 ev81
  have f82 : Int32.toInt (v61 + 1) = Int32.toInt v61 + Int32.toInt (1 : Int32) := aAD _ _ ⟨by omega, by omega⟩
  rw [← ev81] at f82
  have f84 := aAQ v20 63 (by omega)
  have f85 := aAQ v59 63 (by omega)
  have f83 : Int32.toInt ((v20 &&& 63) - (v59 &&& 63)) = Int32.toInt (v20 &&& 63) - Int32.toInt (v59 &&& 63) := aCA _ _ ⟨by omega, by omega⟩
  exact hpost _ _ _ _ _ _ ⟨by omega, by omega⟩ ⟨by omega, by omega⟩ ⟨by omega, by omega⟩ h_m_wanted_40 h_m_hand_41
set_option maxHeartbeats 8000000 in
set_option maxRecDepth 200000 in
theorem ts_X10_hooked_107 {post : Int32 → Int32 → Int32 → Int32 → (Nat → Int32) → (Nat → Int32) → Prop} {SB : Int} {K52 : Int32 → Int32 → Int32 → Int32 → Int32 → Int32 → Int32 → Int32 → (Nat → Int32) → (Nat → Int32) → Prop} {n52 : Int} (bT aG : Int32) (qG m_x gR qR nG oO pJ : Nat → Int32) (xJ : 0 ≤ Int32.toInt bT ∧ Int32.toInt bT ≤ 16) (vZ : 0 ≤ Int32.toInt aG ∧ Int32.toInt aG ≤ 8) (xU : ∀ k : Nat, k = 17 → -1 ≤ Int32.toInt (qG k) ∧ Int32.toInt (qG k) ≤ SB) (xV : ∀ k : Nat, k = 19 → 0 ≤ Int32.toInt (qG k) ∧ Int32.toInt (qG k) ≤ 9) (aAW : ∀ k : Nat, 0 ≤ Int32.toInt (m_x k) ∧ Int32.toInt (m_x k) ≤ 99) (xK : ∀ k : Nat, 0 ≤ Int32.toInt (gR k) ∧ Int32.toInt (gR k) ≤ 99) (zM : ∀ k : Nat, 0 ≤ Int32.toInt (qR k) ∧ Int32.toInt (qR k) ≤ 9) (xT : ∀ k : Nat, 0 ≤ Int32.toInt (nG k) ∧ Int32.toInt (nG k) ≤ 99) (yF : ∀ k : Nat, 0 ≤ Int32.toInt (oO k) ∧ Int32.toInt (oO k) ≤ 99) (yD : ∀ k : Nat, k = 4 → 1 ≤ Int32.toInt (pJ k) ∧ Int32.toInt (pJ k) ≤ 30) (xZ : ∀ k : Nat, k = 3 → 0 ≤ Int32.toInt (pJ k) ∧ Int32.toInt (pJ k) ≤ 9) (hc0 : -1 ≤ SB ∧ SB ≤ 7) (hc1 : (Int32.toInt aG ≤ 0 ∧ SB = 0) ∨ (1 ≤ Int32.toInt aG ∧ SB = Int32.toInt aG - 1)) (hpost : ∀ (r : Int32) (xM : Int32) (xG : Int32) (aAS : Int32) (aBX : Nat → Int32) (aA5 : Nat → Int32), (0 ≤ Int32.toInt r ∧ Int32.toInt r ≤ 65535) → (2 ≤ Int32.toInt xM ∧ Int32.toInt xM ≤ 2) → (0 ≤ Int32.toInt xG ∧ Int32.toInt xG ≤ 0) → (0 ≤ Int32.toInt aAS ∧ Int32.toInt aAS ≤ 65535) → (∀ k : Nat, 0 ≤ Int32.toInt (aA5 k) ∧ Int32.toInt (aA5 k) ≤ 65535) → post r xM xG aAS aBX aA5) (hK52 : ∀ (x1 : Int32) (x2 : Int32) (x3 : Int32) (x4 : Int32) (x5 : Int32) (bL : Int32) (bY : Int32) (dO : Int32) (sW : Nat → Int32) (sH : Nat → Int32), (0 ≤ Int32.toInt x1 ∧ Int32.toInt x1 ≤ 65535) → (0 ≤ Int32.toInt x2 ∧ Int32.toInt x2 ≤ 65535) → (-1 ≤ Int32.toInt x3 ∧ Int32.toInt x3 ≤ 7) → (0 ≤ Int32.toInt x4 ∧ Int32.toInt x4 ≤ 63) → (0 ≤ Int32.toInt x5 ∧ Int32.toInt x5 ≤ 8) → (0 ≤ Int32.toInt bL ∧ Int32.toInt bL ≤ 16) → (0 ≤ Int32.toInt bY ∧ Int32.toInt bY ≤ 0) → (0 ≤ Int32.toInt dO ∧ Int32.toInt dO ≤ 65535) → (∀ k : Nat, 0 ≤ Int32.toInt (sH k) ∧ Int32.toInt (sH k) ≤ 65535) → (8 - Int32.toInt x5 < n52) → K52 x1 x2 x3 x4 x5 bL bY dO sW sH) (x1 x2 x3 x4 x5 bL bY dO : Int32) (sW sH : Nat → Int32) (aBK : 0 ≤ Int32.toInt x1 ∧ Int32.toInt x1 ≤ 65535) (aBN : 0 ≤ Int32.toInt x2 ∧ Int32.toInt x2 ≤ 65535) (aCH : -1 ≤ Int32.toInt x3 ∧ Int32.toInt x3 ≤ 7) (aDO : 0 ≤ Int32.toInt x4 ∧ Int32.toInt x4 ≤ 63) (aF7 : 0 ≤ Int32.toInt x5 ∧ Int32.toInt x5 ≤ 7) (yJ : 0 ≤ Int32.toInt bL ∧ Int32.toInt bL ≤ 16) (yG : 0 ≤ Int32.toInt bY ∧ Int32.toInt bY ≤ 0) (aAH : 0 ≤ Int32.toInt dO ∧ Int32.toInt dO ≤ 65535) (zY : ∀ k : Nat, 0 ≤ Int32.toInt (sH k) ∧ Int32.toInt (sH k) ≤ 65535) (hn52 : 8 - Int32.toInt x5 ≤ n52) : ws_X10_hooked_107 post K52 bT aG qG m_x gR qR nG oO pJ x1 x2 x3 x4 x5 bL bY dO sW sH := by
  have l0 := aEc
  intro v1 ev1
  have f2 : Int32.toInt (x5 + 1) = Int32.toInt x5 + Int32.toInt (1 : Int32) := aAD _ _ ⟨by omega, by omega⟩
  rw [← ev1] at f2
  exact hK52 x1 x2 x3 x4 v1 bL bY dO sW sH aBK aBN aCH aDO ⟨by omega, by omega⟩ yJ yG aAH zY (by omega)
set_option maxHeartbeats 8000000 in
set_option maxRecDepth 200000 in
theorem ts_X10_hooked_52 {post : Int32 → Int32 → Int32 → Int32 → (Nat → Int32) → (Nat → Int32) → Prop} {SB : Int} {next : Int32 → Int32 → Int32 → Int32 → Int32 → Int32 → Int32 → Int32 → (Nat → Int32) → (Nat → Int32) → Prop} {n52 : Int} (bT aG : Int32) (qG m_x gR qR nG oO pJ : Nat → Int32) (xJ : 0 ≤ Int32.toInt bT ∧ Int32.toInt bT ≤ 16) (vZ : 0 ≤ Int32.toInt aG ∧ Int32.toInt aG ≤ 8) (xU : ∀ k : Nat, k = 17 → -1 ≤ Int32.toInt (qG k) ∧ Int32.toInt (qG k) ≤ SB) (xV : ∀ k : Nat, k = 19 → 0 ≤ Int32.toInt (qG k) ∧ Int32.toInt (qG k) ≤ 9) (aAW : ∀ k : Nat, 0 ≤ Int32.toInt (m_x k) ∧ Int32.toInt (m_x k) ≤ 99) (xK : ∀ k : Nat, 0 ≤ Int32.toInt (gR k) ∧ Int32.toInt (gR k) ≤ 99) (zM : ∀ k : Nat, 0 ≤ Int32.toInt (qR k) ∧ Int32.toInt (qR k) ≤ 9) (xT : ∀ k : Nat, 0 ≤ Int32.toInt (nG k) ∧ Int32.toInt (nG k) ≤ 99) (yF : ∀ k : Nat, 0 ≤ Int32.toInt (oO k) ∧ Int32.toInt (oO k) ≤ 99) (yD : ∀ k : Nat, k = 4 → 1 ≤ Int32.toInt (pJ k) ∧ Int32.toInt (pJ k) ≤ 30) (xZ : ∀ k : Nat, k = 3 → 0 ≤ Int32.toInt (pJ k) ∧ Int32.toInt (pJ k) ≤ 9) (hc0 : -1 ≤ SB ∧ SB ≤ 7) (hc1 : (Int32.toInt aG ≤ 0 ∧ SB = 0) ∨ (1 ≤ Int32.toInt aG ∧ SB = Int32.toInt aG - 1)) (hpost : ∀ (r : Int32) (xM : Int32) (xG : Int32) (aAS : Int32) (aBX : Nat → Int32) (aA5 : Nat → Int32), (0 ≤ Int32.toInt r ∧ Int32.toInt r ≤ 65535) → (2 ≤ Int32.toInt xM ∧ Int32.toInt xM ≤ 2) → (0 ≤ Int32.toInt xG ∧ Int32.toInt xG ≤ 0) → (0 ≤ Int32.toInt aAS ∧ Int32.toInt aAS ≤ 65535) → (∀ k : Nat, 0 ≤ Int32.toInt (aA5 k) ∧ Int32.toInt (aA5 k) ≤ 65535) → post r xM xG aAS aBX aA5) (hKn : ∀ (x1 : Int32) (x2 : Int32) (x3 : Int32) (x4 : Int32) (x5 : Int32) (bL : Int32) (bY : Int32) (dO : Int32) (sW : Nat → Int32) (sH : Nat → Int32), (0 ≤ Int32.toInt x1 ∧ Int32.toInt x1 ≤ 65535) → (0 ≤ Int32.toInt x2 ∧ Int32.toInt x2 ≤ 65535) → (-1 ≤ Int32.toInt x3 ∧ Int32.toInt x3 ≤ 7) → (0 ≤ Int32.toInt x4 ∧ Int32.toInt x4 ≤ 63) → (0 ≤ Int32.toInt x5 ∧ Int32.toInt x5 ≤ 8) → (0 ≤ Int32.toInt bL ∧ Int32.toInt bL ≤ 16) → (0 ≤ Int32.toInt bY ∧ Int32.toInt bY ≤ 0) → (0 ≤ Int32.toInt dO ∧ Int32.toInt dO ≤ 65535) → (∀ k : Nat, 0 ≤ Int32.toInt (sH k) ∧ Int32.toInt (sH k) ≤ 65535) → (8 - Int32.toInt x5 < n52) → next x1 x2 x3 x4 x5 bL bY dO sW sH) (x1 x2 x3 x4 x5 bL bY dO : Int32) (sW sH : Nat → Int32) (aBK : 0 ≤ Int32.toInt x1 ∧ Int32.toInt x1 ≤ 65535) (aBN : 0 ≤ Int32.toInt x2 ∧ Int32.toInt x2 ≤ 65535) (aCH : -1 ≤ Int32.toInt x3 ∧ Int32.toInt x3 ≤ 7) (aDO : 0 ≤ Int32.toInt x4 ∧ Int32.toInt x4 ≤ 63) (aF7 : 0 ≤ Int32.toInt x5 ∧ Int32.toInt x5 ≤ 8) (yJ : 0 ≤ Int32.toInt bL ∧ Int32.toInt bL ≤ 16) (yG : 0 ≤ Int32.toInt bY ∧ Int32.toInt bY ≤ 0) (aAH : 0 ≤ Int32.toInt dO ∧ Int32.toInt dO ≤ 65535) (zY : ∀ k : Nat, 0 ≤ Int32.toInt (sH k) ∧ Int32.toInt (sH k) ≤ 65535) (hn52 : 8 - Int32.toInt x5 ≤ n52) : ws_X10_hooked_52 post next bT aG qG m_x gR qR nG oO pJ x1 x2 x3 x4 x5 bL bY dO sW sH := by
  have l0 := aE0
  have l1 := aEc
  have l2 := aKH
  have l3 := li_18
  have l4 := aJ8
  have l5 := li_63
  have l6 := aJ9
  refine And.intro (fun c3 => ?_) (fun c3 => ?_)
  · skip
    have c3 := (aAO _ _).mp c3
    refine And.intro (aBZ ⟨by omega, by omega⟩) ?_
    intro v4 ev4
    have f5 : Int32.toInt (0 + 1) = Int32.toInt (0 : Int32) + Int32.toInt (1 : Int32) := aAD _ _ ⟨by omega, by omega⟩
    rw [← ev4] at f5
    refine And.intro (aBZ ⟨by omega, by omega⟩) ?_
    intro v6 ev6
    have f7 : Int32.toInt (v4 + 1) = Int32.toInt v4 + Int32.toInt (1 : Int32) := aAD _ _ ⟨by omega, by omega⟩
    rw [← ev6] at f7
    exact hpost _ _ _ _ _ _ aBN ⟨by omega, by omega⟩ yG aAH zY
  · skip
    have c3 := mt (aAO _ _).mpr c3
    intro v8 ev8
    have hv8 := congrArg Int32.toInt ev8
    refine aX7 ⟨by omega, by omega⟩ ⟨by omega, by omega⟩ xJ aAW xK xT yF yD xZ (fun r10 h_r10 => ?_)
    intro v11 ev11
    have f12 := aAQ x1 r10 (by omega)
    have f13 := aBx x1 r10 (by omega)
    have hv11 := congrArg Int32.toInt ev11
    intro v14 ev14
    have f15 := ti_or 16 65536 x2 v11 (by decide) ⟨by omega, by omega⟩ ⟨by omega, by omega⟩
    have hv14 := congrArg Int32.toInt ev14
    intro v16 ev16
    intro v17 ev17
    have f19 := aAQ v16 1431655765 (by omega)
    have f18 : Int32.toInt (v11 - (v16 &&& 1431655765)) = Int32.toInt v11 - Int32.toInt (v16 &&& 1431655765) := aCA _ _ ⟨by omega, by omega⟩
    rw [← ev17] at f18
    intro v20 ev20
    have f21 := aAQ v17 858993459 (by omega)
    have hv20 := congrArg Int32.toInt ev20
    intro v22 ev22
    intro v23 ev23
    have f25 := aAQ v22 858993459 (by omega)
    have f24 : Int32.toInt (v20 + (v22 &&& 858993459)) = Int32.toInt v20 + Int32.toInt (v22 &&& 858993459) := aAD _ _ ⟨by omega, by omega⟩
    rw [← ev23] at f24
    intro v26 ev26
    have hv26 := congrArg Int32.toInt ev26
    intro v28 ev28
    have f29 := aAQ v26 252645135 (by omega)
    have hv28 := congrArg Int32.toInt ev28
    intro v30 ev30
    have hv30 := congrArg Int32.toInt ev30
    intro v32 ev32
    have hv32 := congrArg Int32.toInt ev32
    have f35 := aAQ v32 63 (by omega)
    refine And.intro (fun c34 => ?_) (fun c34 => ?_)
    · skip
      have c34 := (aAd _ _).mp c34
      intro v36 ev36
      intro v37 ev37
      have f39 := aAQ v36 1431655765 (by omega)
      have f38 : Int32.toInt (v11 - (v36 &&& 1431655765)) = Int32.toInt v11 - Int32.toInt (v36 &&& 1431655765) := aCA _ _ ⟨by omega, by omega⟩
      rw [← ev37] at f38
      intro v40 ev40
      have f41 := aAQ v37 858993459 (by omega)
      have hv40 := congrArg Int32.toInt ev40
      intro v42 ev42
      intro v43 ev43
      have f45 := aAQ v42 858993459 (by omega)
      have f44 : Int32.toInt (v40 + (v42 &&& 858993459)) = Int32.toInt v40 + Int32.toInt (v42 &&& 858993459) := aAD _ _ ⟨by omega, by omega⟩
      rw [← ev43] at f44
      intro v46 ev46
      have hv46 := congrArg Int32.toInt ev46
      intro v48 ev48
      have f49 := aAQ v46 252645135 (by omega)
      have hv48 := congrArg Int32.toInt ev48
      intro v50 ev50
      have hv50 := congrArg Int32.toInt ev50
      intro v52 ev52
      have hv52 := congrArg Int32.toInt ev52
      have f54 := aAQ v52 63 (by omega)
      exact ts_X10_hooked_107 bT aG qG m_x gR qR nG oO pJ xJ vZ xU xV aAW xK zM xT yF yD xZ hc0 hc1 hpost hKn x1 v14 x5 (v52 &&& 63) x5 bL bY dO sW sH aBK ⟨by omega, by omega⟩ ⟨by omega, by omega⟩ ⟨by omega, by omega⟩ ⟨by omega, by omega⟩ yJ yG aAH zY hn52
    · skip
      have c34 := mt (aAd _ _).mpr c34
      exact ts_X10_hooked_107 bT aG qG m_x gR qR nG oO pJ xJ vZ xU xV aAW xK zM xT yF yD xZ hc0 hc1 hpost hKn x1 v14 x3 x4 x5 bL bY dO sW sH aBK ⟨by omega, by omega⟩ aCH aDO ⟨by omega, by omega⟩ yJ yG aAH zY hn52
set_option maxHeartbeats 8000000 in
set_option maxRecDepth 200000 in
theorem tb_X10_hooked_52 {post : Int32 → Int32 → Int32 → Int32 → (Nat → Int32) → (Nat → Int32) → Prop} {SB : Int} (bT aG : Int32) (qG m_x gR qR nG oO pJ : Nat → Int32) (xJ : 0 ≤ Int32.toInt bT ∧ Int32.toInt bT ≤ 16) (vZ : 0 ≤ Int32.toInt aG ∧ Int32.toInt aG ≤ 8) (xU : ∀ k : Nat, k = 17 → -1 ≤ Int32.toInt (qG k) ∧ Int32.toInt (qG k) ≤ SB) (xV : ∀ k : Nat, k = 19 → 0 ≤ Int32.toInt (qG k) ∧ Int32.toInt (qG k) ≤ 9) (aAW : ∀ k : Nat, 0 ≤ Int32.toInt (m_x k) ∧ Int32.toInt (m_x k) ≤ 99) (xK : ∀ k : Nat, 0 ≤ Int32.toInt (gR k) ∧ Int32.toInt (gR k) ≤ 99) (zM : ∀ k : Nat, 0 ≤ Int32.toInt (qR k) ∧ Int32.toInt (qR k) ≤ 9) (xT : ∀ k : Nat, 0 ≤ Int32.toInt (nG k) ∧ Int32.toInt (nG k) ≤ 99) (yF : ∀ k : Nat, 0 ≤ Int32.toInt (oO k) ∧ Int32.toInt (oO k) ≤ 99) (yD : ∀ k : Nat, k = 4 → 1 ≤ Int32.toInt (pJ k) ∧ Int32.toInt (pJ k) ≤ 30) (xZ : ∀ k : Nat, k = 3 → 0 ≤ Int32.toInt (pJ k) ∧ Int32.toInt (pJ k) ≤ 9) (hc0 : -1 ≤ SB ∧ SB ≤ 7) (hc1 : (Int32.toInt aG ≤ 0 ∧ SB = 0) ∨ (1 ≤ Int32.toInt aG ∧ SB = Int32.toInt aG - 1)) (hpost : ∀ (r : Int32) (xM : Int32) (xG : Int32) (aAS : Int32) (aBX : Nat → Int32) (aA5 : Nat → Int32), (0 ≤ Int32.toInt r ∧ Int32.toInt r ≤ 65535) → (2 ≤ Int32.toInt xM ∧ Int32.toInt xM ≤ 2) → (0 ≤ Int32.toInt xG ∧ Int32.toInt xG ≤ 0) → (0 ≤ Int32.toInt aAS ∧ Int32.toInt aAS ≤ 65535) → (∀ k : Nat, 0 ≤ Int32.toInt (aA5 k) ∧ Int32.toInt (aA5 k) ≤ 65535) → post r xM xG aAS aBX aA5) : ∀ (n : Nat) (x1 x2 x3 x4 x5 bL bY dO : Int32) (sW sH : Nat → Int32), (0 ≤ Int32.toInt x1 ∧ Int32.toInt x1 ≤ 65535) → (0 ≤ Int32.toInt x2 ∧ Int32.toInt x2 ≤ 65535) → (-1 ≤ Int32.toInt x3 ∧ Int32.toInt x3 ≤ 7) → (0 ≤ Int32.toInt x4 ∧ Int32.toInt x4 ≤ 63) → (0 ≤ Int32.toInt x5 ∧ Int32.toInt x5 ≤ 8) → (0 ≤ Int32.toInt bL ∧ Int32.toInt bL ≤ 16) → (0 ≤ Int32.toInt bY ∧ Int32.toInt bY ≤ 0) → (0 ≤ Int32.toInt dO ∧ Int32.toInt dO ≤ 65535) → (∀ k : Nat, 0 ≤ Int32.toInt (sH k) ∧ Int32.toInt (sH k) ≤ 65535) → (8 - Int32.toInt x5 < (n : Int)) → wb_X10_hooked_52 post bT aG qG m_x gR qR nG oO pJ n x1 x2 x3 x4 x5 bL bY dO sW sH := by
  intro n
  induction n with
  | zero =>
    intro x1 x2 x3 x4 x5 bL bY dO sW sH aBK aBN aCH aDO aF7 yJ yG aAH zY hm
    exfalso; omega
  | succ n ih =>
    intro x1 x2 x3 x4 x5 bL bY dO sW sH aBK aBN aCH aDO aF7 yJ yG aAH zY hm
    exact ts_X10_hooked_52 bT aG qG m_x gR qR nG oO pJ xJ vZ xU xV aAW xK zM xT yF yD xZ hc0 hc1 hpost ih x1 x2 x3 x4 x5 bL bY dO sW sH aBK aBN aCH aDO aF7 yJ yG aAH zY (by omega)
set_option maxHeartbeats 8000000 in
set_option maxRecDepth 200000 in
theorem t_X10_hooked {post : Int32 → Int32 → Int32 → Int32 → (Nat → Int32) → (Nat → Int32) → Prop} {SB : Int} {bT aG bL bY dO : Int32} {qG m_x gR qR nG oO pJ sW sH : Nat → Int32} (xJ : 0 ≤ Int32.toInt bT ∧ Int32.toInt bT ≤ 16) (vZ : 0 ≤ Int32.toInt aG ∧ Int32.toInt aG ≤ 8) (yJ : 0 ≤ Int32.toInt bL ∧ Int32.toInt bL ≤ 16) (yG : 0 ≤ Int32.toInt bY ∧ Int32.toInt bY ≤ 1) (aAH : 0 ≤ Int32.toInt dO ∧ Int32.toInt dO ≤ 65535) (xU : ∀ k : Nat, k = 17 → -1 ≤ Int32.toInt (qG k) ∧ Int32.toInt (qG k) ≤ SB) (xV : ∀ k : Nat, k = 19 → 0 ≤ Int32.toInt (qG k) ∧ Int32.toInt (qG k) ≤ 9) (aAW : ∀ k : Nat, 0 ≤ Int32.toInt (m_x k) ∧ Int32.toInt (m_x k) ≤ 99) (xK : ∀ k : Nat, 0 ≤ Int32.toInt (gR k) ∧ Int32.toInt (gR k) ≤ 99) (zM : ∀ k : Nat, 0 ≤ Int32.toInt (qR k) ∧ Int32.toInt (qR k) ≤ 9) (xT : ∀ k : Nat, 0 ≤ Int32.toInt (nG k) ∧ Int32.toInt (nG k) ≤ 99) (yF : ∀ k : Nat, 0 ≤ Int32.toInt (oO k) ∧ Int32.toInt (oO k) ≤ 99) (yD : ∀ k : Nat, k = 4 → 1 ≤ Int32.toInt (pJ k) ∧ Int32.toInt (pJ k) ≤ 30) (xZ : ∀ k : Nat, k = 3 → 0 ≤ Int32.toInt (pJ k) ∧ Int32.toInt (pJ k) ≤ 9) (zY : ∀ k : Nat, 0 ≤ Int32.toInt (sH k) ∧ Int32.toInt (sH k) ≤ 65535) (hc0 : -1 ≤ SB ∧ SB ≤ 7) (hc1 : (Int32.toInt aG ≤ 0 ∧ SB = 0) ∨ (1 ≤ Int32.toInt aG ∧ SB = Int32.toInt aG - 1)) (hpost : ∀ (r : Int32) (xM : Int32) (xG : Int32) (aAS : Int32) (aBX : Nat → Int32) (aA5 : Nat → Int32), (0 ≤ Int32.toInt r ∧ Int32.toInt r ≤ 65535) → (2 ≤ Int32.toInt xM ∧ Int32.toInt xM ≤ 2) → (0 ≤ Int32.toInt xG ∧ Int32.toInt xG ≤ 0) → (0 ≤ Int32.toInt aAS ∧ Int32.toInt aAS ≤ 65535) → (∀ k : Nat, 0 ≤ Int32.toInt (aA5 k) ∧ Int32.toInt (aA5 k) ≤ 65535) → post r xM xG aAS aBX aA5) : wp_X10_hooked post bT aG bL bY dO qG m_x gR qR nG oO pJ sW sH := by
  have l0 := aI2
  have l1 := aE0
  have l2 := aEc
  have l3 := li_18
  have l4 := li_19
  intro v55 ev55
  have hv55 := congrArg Int32.toInt ev55
  refine aLb xJ vZ aAH xU xV aAW xK zM xT yF yD xZ zY (by omega) (by omega) (fun m_wanted_57 m_hand_58 h_m_wanted_57 h_m_hand_58 => ?_)
  refine aKO ⟨by omega, by omega⟩ xJ xU xV (by omega) (fun r59 h_r59 ox60 => ?_)
  have q61 := xV (19 : Int32).toNatClampNeg (by have e9 : (19 : Int32).toNatClampNeg = (Int32.toInt (19 : Int32)).toNat := rfl; omega)
  intro v62 ev62
  have hv62 := congrArg Int32.toInt ev62
  refine aXh ⟨by omega, by omega⟩ xJ zM (fun r64 h_r64 ox65 => ?_)
  intro v66 ev66
  have f67 := aAQ r59 r64 (by omega)
  have f68 := aBx r59 r64 (by omega)
  have hv66 := congrArg Int32.toInt ev66
  intro v69 ev69
  have f70 := aDv 8 256 aG (by decide) ⟨by omega, by omega⟩
  have hv69 := congrArg Int32.toInt ev69
  have f72 : Int32.toInt (v69 - 1) = Int32.toInt v69 - Int32.toInt (1 : Int32) := aCA _ _ ⟨by omega, by omega⟩
  refine aSL ⟨by omega, by omega⟩ vZ h_m_hand_58 (fun r71 h_r71 => ?_)
  intro v73 ev73
  have f75 := aBx v66 (r71 ^^^ (-1)) (by omega)
  have hv73 := congrArg Int32.toInt ev73
  exact ⟨10, tb_X10_hooked_52 bT aG qG m_x gR qR nG oO pJ xJ vZ xU xV aAW xK zM xT yF yD xZ hc0 hc1 hpost _ v73 0 (-1) 0 0 bL 0 m_wanted_57 sW m_hand_58 ⟨by omega, by omega⟩ ⟨by omega, by omega⟩ ⟨by omega, by omega⟩ ⟨by omega, by omega⟩ ⟨by omega, by omega⟩ yJ ⟨by omega, by omega⟩ h_m_wanted_57 h_m_hand_58 (by omega)⟩
set_option maxHeartbeats 8000000 in
set_option maxRecDepth 200000 in
theorem t_X10_broken {post : Int32 → Int32 → Int32 → Int32 → (Nat → Int32) → (Nat → Int32) → Prop} {SB : Int} {p0 bT aG bL bY dO : Int32} {qG m_x gR qR nG oO pJ sW sH : Nat → Int32} (xJ : 0 ≤ Int32.toInt bT ∧ Int32.toInt bT ≤ 16) (vZ : 0 ≤ Int32.toInt aG ∧ Int32.toInt aG ≤ 8) (yJ : 0 ≤ Int32.toInt bL ∧ Int32.toInt bL ≤ 16) (yG : 0 ≤ Int32.toInt bY ∧ Int32.toInt bY ≤ 1) (aAH : 0 ≤ Int32.toInt dO ∧ Int32.toInt dO ≤ 65535) (xU : ∀ k : Nat, k = 17 → -1 ≤ Int32.toInt (qG k) ∧ Int32.toInt (qG k) ≤ SB) (xV : ∀ k : Nat, k = 19 → 0 ≤ Int32.toInt (qG k) ∧ Int32.toInt (qG k) ≤ 9) (aAW : ∀ k : Nat, 0 ≤ Int32.toInt (m_x k) ∧ Int32.toInt (m_x k) ≤ 99) (xK : ∀ k : Nat, 0 ≤ Int32.toInt (gR k) ∧ Int32.toInt (gR k) ≤ 99) (zM : ∀ k : Nat, 0 ≤ Int32.toInt (qR k) ∧ Int32.toInt (qR k) ≤ 9) (xT : ∀ k : Nat, 0 ≤ Int32.toInt (nG k) ∧ Int32.toInt (nG k) ≤ 99) (yF : ∀ k : Nat, 0 ≤ Int32.toInt (oO k) ∧ Int32.toInt (oO k) ≤ 99) (yD : ∀ k : Nat, k = 4 → 1 ≤ Int32.toInt (pJ k) ∧ Int32.toInt (pJ k) ≤ 30) (xZ : ∀ k : Nat, k = 3 → 0 ≤ Int32.toInt (pJ k) ∧ Int32.toInt (pJ k) ≤ 9) (zY : ∀ k : Nat, 0 ≤ Int32.toInt (sH k) ∧ Int32.toInt (sH k) ≤ 65535) (hc0 : -1 ≤ SB ∧ SB ≤ 7) (hc1 : (Int32.toInt aG ≤ 0 ∧ SB = 0) ∨ (1 ≤ Int32.toInt aG ∧ SB = Int32.toInt aG - 1)) (hpost : ∀ (r : Int32) (xM : Int32) (xG : Int32) (aAS : Int32) (aBX : Nat → Int32) (aA5 : Nat → Int32), (-1 ≤ Int32.toInt r ∧ Int32.toInt r ≤ 63) → (0 ≤ Int32.toInt xM ∧ Int32.toInt xM ≤ 16) → (0 ≤ Int32.toInt xG ∧ Int32.toInt xG ≤ 0) → (0 ≤ Int32.toInt aAS ∧ Int32.toInt aAS ≤ 65535) → (∀ k : Nat, 0 ≤ Int32.toInt (aA5 k) ∧ Int32.toInt (aA5 k) ≤ 65535) → post r xM xG aAS aBX aA5) : wp_X10_broken post p0 bT aG bL bY dO qG m_x gR qR nG oO pJ sW sH := by
  have l0 := aI2
  have l1 := aE0
  have l2 := aEc
  have l3 := aKH
  have l4 := li_18
  have l5 := aJ8
  have l6 := li_63
  have l7 := aJ9
  intro v1 ev1
  have f2 : Int32.toInt (aG - 1) = Int32.toInt aG - Int32.toInt (1 : Int32) := aCA _ _ ⟨by omega, by omega⟩
  rw [← ev1] at f2
  have f4 := aAT p0
  refine And.intro (fun c3 => ?_) (fun c3 => ?_)
  · skip
    have c3 := (aAd _ _).mp c3
    refine And.intro (aHE ⟨by omega, by omega⟩) ?_
    refine And.intro (fun h9 => absurd h9 (by decide)) (fun _ => ?_)
    exact hpost _ _ _ _ _ _ ⟨by omega, by omega⟩ yJ ⟨by omega, by omega⟩ aAH zY
  · skip
    have c3 := mt (aAd _ _).mpr c3
    refine And.intro (fun c5 => ?_) (fun c5 => ?_)
    · skip
      have c5 := (aAd _ _).mp c5
      refine And.intro (aHE ⟨by omega, by omega⟩) ?_
      refine And.intro (fun h9 => absurd h9 (by decide)) (fun _ => ?_)
      exact hpost _ _ _ _ _ _ ⟨by omega, by omega⟩ yJ ⟨by omega, by omega⟩ aAH zY
    · skip
      have c5 := mt (aAd _ _).mpr c5
      refine And.intro (aHE ⟨by omega, by omega⟩) ?_
      refine And.intro (fun _ => ?_) (fun h9 => absurd h9 (by decide))
      intro v6 ev6
      have hv6 := congrArg Int32.toInt ev6
      refine aLb xJ vZ aAH xU xV aAW xK zM xT yF yD xZ zY (by omega) (by omega) (fun m_wanted_8 m_hand_9 h_m_wanted_8 h_m_hand_9 => ?_)
      refine And.intro (aBZ ⟨by omega, by omega⟩) ?_
      have a10 : ∀ k : Nat, 0 ≤ Int32.toInt ((upd m_hand_9 p0.toNatClampNeg 0) k) ∧ Int32.toInt ((upd m_hand_9 p0.toNatClampNeg 0) k) ≤ 65535 := t_upd (fun k => by have q9 := h_m_hand_9 k; omega) (by omega)
      intro v11 ev11
      have f12 := aDv 8 256 aG (by decide) ⟨by omega, by omega⟩
      have hv11 := congrArg Int32.toInt ev11
      have f14 : Int32.toInt (v11 - 1) = Int32.toInt v11 - Int32.toInt (1 : Int32) := aCA _ _ ⟨by omega, by omega⟩
      refine aSL ⟨by omega, by omega⟩ vZ (fun k => by have q9 := a10 k; omega) (fun r13 h_r13 => ?_)
      intro v15 ev15
      have f16 := aAQ m_wanted_8 r13 (by omega)
      have f17 := aBx m_wanted_8 r13 (by omega)
      have hv15 := congrArg Int32.toInt ev15
      refine t_X10_cover ⟨by omega, by omega⟩ vZ (fun k => by have q9 := a10 k; omega) (fun r18 h_r18 => ?_)
      intro v19 ev19
      intro v20 ev20
      have f22 := aAQ v19 1431655765 (by omega)
      have f21 : Int32.toInt (r18 - (v19 &&& 1431655765)) = Int32.toInt r18 - Int32.toInt (v19 &&& 1431655765) := aCA _ _ ⟨by omega, by omega⟩
      rw [← ev20] at f21
      intro v23 ev23
      have f24 := aAQ v20 858993459 (by omega)
      have hv23 := congrArg Int32.toInt ev23
      intro v25 ev25
      intro v26 ev26
      have f28 := aAQ v25 858993459 (by omega)
      have f27 : Int32.toInt (v23 + (v25 &&& 858993459)) = Int32.toInt v23 + Int32.toInt (v25 &&& 858993459) := aAD _ _ ⟨by omega, by omega⟩
      rw [← ev26] at f27
      intro v29 ev29
      have hv29 := congrArg Int32.toInt ev29
      intro v31 ev31
      have f32 := aAQ v29 252645135 (by omega)
      have hv31 := congrArg Int32.toInt ev31
      intro v33 ev33
      have hv33 := congrArg Int32.toInt ev33
      intro v35 ev35
      have hv35 := congrArg Int32.toInt ev35
      intro v37 ev37
      have f39 := aBx m_wanted_8 (v15 ^^^ (-1)) (by omega)
      have hv37 := congrArg Int32.toInt ev37
      refine And.intro (aBZ ⟨by omega, by omega⟩) ?_
      intro v40 ev40
      have f41 : Int32.toInt (0 + 1) = Int32.toInt (0 : Int32) + Int32.toInt (1 : Int32) := aAD _ _ ⟨by omega, by omega⟩
      rw [← ev40] at f41
      have f42 := aAQ v35 63 (by omega)
      exact hpost _ _ _ _ _ _ ⟨by omega, by omega⟩ ⟨by omega, by omega⟩ ⟨by omega, by omega⟩ h_m_wanted_8 (fun k => by have q9 := a10 k; omega)
set_option maxHeartbeats 8000000 in
set_option maxRecDepth 200000 in
theorem ts_X10_sweep_122 {post : Int32 → Int32 → Int32 → Nat → Int32 → Int32 → Int32 → Int32 → Int32 → Int32 → Int32 → Int32 → Int32 → Int32 → Int32 → Int32 → Int32 → (Nat → Int32) → (Nat → Int32) → (Nat → Int32) → (Nat → Int32) → (Nat → Int32) → Prop} {SB : Int} {K40 : Int32 → Int32 → Int32 → Int32 → Int32 → Int32 → Int32 → Nat → Int32 → Int32 → Int32 → Int32 → Int32 → Int32 → Int32 → Int32 → Int32 → Int32 → Int32 → Int32 → Int32 → (Nat → Int32) → (Nat → Int32) → (Nat → Int32) → (Nat → Int32) → (Nat → Int32) → Prop} {n40 : Int} (bT aG bW : Int32) (qG m_x gR pW qR nG oO pJ qO qQ : Nat → Int32) (xJ : 0 ≤ Int32.toInt bT ∧ Int32.toInt bT ≤ 16) (vZ : 0 ≤ Int32.toInt aG ∧ Int32.toInt aG ≤ 8) (zQ : 0 ≤ Int32.toInt bW ∧ Int32.toInt bW ≤ 40) (xU : ∀ k : Nat, k = 17 → -1 ≤ Int32.toInt (qG k) ∧ Int32.toInt (qG k) ≤ SB) (xV : ∀ k : Nat, k = 19 → 0 ≤ Int32.toInt (qG k) ∧ Int32.toInt (qG k) ≤ 9) (aAW : ∀ k : Nat, 0 ≤ Int32.toInt (m_x k) ∧ Int32.toInt (m_x k) ≤ 99) (xK : ∀ k : Nat, 0 ≤ Int32.toInt (gR k) ∧ Int32.toInt (gR k) ≤ 99) (yR : ∀ k : Nat, 0 ≤ Int32.toInt (pW k) ∧ Int32.toInt (pW k) ≤ 9) (zM : ∀ k : Nat, 0 ≤ Int32.toInt (qR k) ∧ Int32.toInt (qR k) ≤ 9) (xT : ∀ k : Nat, 0 ≤ Int32.toInt (nG k) ∧ Int32.toInt (nG k) ≤ 99) (yF : ∀ k : Nat, 0 ≤ Int32.toInt (oO k) ∧ Int32.toInt (oO k) ≤ 99) (yD : ∀ k : Nat, k = 4 → 1 ≤ Int32.toInt (pJ k) ∧ Int32.toInt (pJ k) ≤ 30) (xZ : ∀ k : Nat, k = 3 → 0 ≤ Int32.toInt (pJ k) ∧ Int32.toInt (pJ k) ≤ 9) (zG : ∀ k : Nat, -128 ≤ Int32.toInt (qO k) ∧ Int32.toInt (qO k) ≤ 127) (zI : ∀ k : Nat, -128 ≤ Int32.toInt (qQ k) ∧ Int32.toInt (qQ k) ≤ 127) (hc0 : -1 ≤ SB ∧ SB ≤ 7) (hc1 : (Int32.toInt aG ≤ 0 ∧ SB = 0) ∨ (1 ≤ Int32.toInt aG ∧ SB = Int32.toInt aG - 1)) (hpost : ∀ (r : Int32) (xM : Int32) (xG : Int32) (aAP : Nat) (zS : Int32) (aAz : Int32) (aAm : Int32) (zH : Int32) (aAM : Int32) (zP : Int32) (yO : Int32) (zZ : Int32) (zO : Int32) (aAS : Int32) (aB9 : Int32) (aEo : Int32) (aEn : Int32) (aBX : Nat → Int32) (aA5 : Nat → Int32) (aCX : Nat → Int32) (aBR : Nat → Int32) (aGb : Nat → Int32), (-1 ≤ Int32.toInt r ∧ Int32.toInt r ≤ 2147483647) → (0 ≤ Int32.toInt xM ∧ Int32.toInt xM ≤ 16) → (0 ≤ Int32.toInt xG ∧ Int32.toInt xG ≤ 0) → (aAP = 0 ∨ aAP = 1 ∨ aAP = 2) → (0 ≤ Int32.toInt zS ∧ Int32.toInt zS ≤ 80) → (0 ≤ Int32.toInt aAz ∧ Int32.toInt aAz ≤ 80) → (0 ≤ Int32.toInt aAm ∧ Int32.toInt aAm ≤ 80) → (-1 ≤ Int32.toInt zH ∧ Int32.toInt zH ≤ 80) → (0 ≤ Int32.toInt aAM ∧ Int32.toInt aAM ≤ 0) → (0 ≤ Int32.toInt zP ∧ Int32.toInt zP ≤ 15) → (0 ≤ Int32.toInt yO ∧ Int32.toInt yO ≤ 7) → (0 ≤ Int32.toInt zZ ∧ Int32.toInt zZ ≤ 1) → (0 ≤ Int32.toInt zO ∧ Int32.toInt zO ≤ 63) → (0 ≤ Int32.toInt aAS ∧ Int32.toInt aAS ≤ 65535) → (0 ≤ Int32.toInt aB9 ∧ Int32.toInt aB9 ≤ 1000000) → (∀ k : Nat, 0 ≤ Int32.toInt (aA5 k) ∧ Int32.toInt (aA5 k) ≤ 65535) → (∀ k : Nat, 0 ≤ Int32.toInt (aCX k) ∧ Int32.toInt (aCX k) ≤ 1000000) → (∀ k : Nat, 0 ≤ Int32.toInt (aBR k) ∧ Int32.toInt (aBR k) ≤ 99) → post r xM xG aAP zS aAz aAm zH aAM zP yO zZ zO aAS aB9 aEo aEn aBX aA5 aCX aBR aGb) (hK40 : ∀ (x1 : Int32) (x2 : Int32) (x3 : Int32) (x4 : Int32) (x5 : Int32) (bL : Int32) (bY : Int32) (jD : Nat) (m_length : Int32) (oF : Int32) (rP : Int32) (dQ : Int32) (bZ : Int32) (aR : Int32) (aE : Int32) (bI : Int32) (aW : Int32) (dO : Int32) (bM : Int32) (bQ : Int32) (bO : Int32) (sW : Nat → Int32) (sH : Nat → Int32) (uE : Nat → Int32) (oJ : Nat → Int32) (vK : Nat → Int32), (0 ≤ Int32.toInt x1 ∧ Int32.toInt x1 ≤ 9999) → (-1 ≤ Int32.toInt x2 ∧ Int32.toInt x2 ≤ 255) → (-1 ≤ Int32.toInt x3 ∧ Int32.toInt x3 ≤ 2147483647) → (-2147483648 ≤ Int32.toInt x4 ∧ Int32.toInt x4 ≤ 9999) → (0 ≤ Int32.toInt x5 ∧ Int32.toInt x5 ≤ 256) → (0 ≤ Int32.toInt bL ∧ Int32.toInt bL ≤ 16) → (0 ≤ Int32.toInt bY ∧ Int32.toInt bY ≤ 0) → (jD = 0 ∨ jD = 1 ∨ jD = 2) → (0 ≤ Int32.toInt m_length ∧ Int32.toInt m_length ≤ 80) → (0 ≤ Int32.toInt oF ∧ Int32.toInt oF ≤ 80) → (0 ≤ Int32.toInt rP ∧ Int32.toInt rP ≤ 80) → (-1 ≤ Int32.toInt dQ ∧ Int32.toInt dQ ≤ 80) → (0 ≤ Int32.toInt bZ ∧ Int32.toInt bZ ≤ 0) → (0 ≤ Int32.toInt aR ∧ Int32.toInt aR ≤ 15) → (0 ≤ Int32.toInt aE ∧ Int32.toInt aE ≤ 7) → (0 ≤ Int32.toInt bI ∧ Int32.toInt bI ≤ 1) → (0 ≤ Int32.toInt aW ∧ Int32.toInt aW ≤ 63) → (0 ≤ Int32.toInt dO ∧ Int32.toInt dO ≤ 65535) → (0 ≤ Int32.toInt bM ∧ Int32.toInt bM ≤ 1000000) → (∀ k : Nat, 0 ≤ Int32.toInt (sH k) ∧ Int32.toInt (sH k) ≤ 65535) → (∀ k : Nat, 0 ≤ Int32.toInt (uE k) ∧ Int32.toInt (uE k) ≤ 1000000) → (∀ k : Nat, 0 ≤ Int32.toInt (oJ k) ∧ Int32.toInt (oJ k) ≤ 99) → (256 - Int32.toInt x5 < n40) → K40 x1 x2 x3 x4 x5 bL bY jD m_length oF rP dQ bZ aR aE bI aW dO bM bQ bO sW sH uE oJ vK) (x1 x2 x3 x4 x5 bL bY : Int32) (jD : Nat) (m_length oF rP dQ bZ aR aE bI aW dO bM bQ bO : Int32) (sW sH uE oJ vK : Nat → Int32) (aBK : 0 ≤ Int32.toInt x1 ∧ Int32.toInt x1 ≤ 9999) (aBN : -1 ≤ Int32.toInt x2 ∧ Int32.toInt x2 ≤ 255) (aCH : -1 ≤ Int32.toInt x3 ∧ Int32.toInt x3 ≤ 2147483647) (aDO : -2147483648 ≤ Int32.toInt x4 ∧ Int32.toInt x4 ≤ 9999) (aF7 : 0 ≤ Int32.toInt x5 ∧ Int32.toInt x5 ≤ 255) (yJ : 0 ≤ Int32.toInt bL ∧ Int32.toInt bL ≤ 16) (yG : 0 ≤ Int32.toInt bY ∧ Int32.toInt bY ≤ 0) (yM : jD = 0 ∨ jD = 1 ∨ jD = 2) (zE : 0 ≤ Int32.toInt m_length ∧ Int32.toInt m_length ≤ 80) (aAR : 0 ≤ Int32.toInt oF ∧ Int32.toInt oF ≤ 80) (aA1 : 0 ≤ Int32.toInt rP ∧ Int32.toInt rP ≤ 80) (aAA : -1 ≤ Int32.toInt dQ ∧ Int32.toInt dQ ≤ 80) (zT : 0 ≤ Int32.toInt bZ ∧ Int32.toInt bZ ≤ 0) (yL : 0 ≤ Int32.toInt aR ∧ Int32.toInt aR ≤ 15) (xQ : 0 ≤ Int32.toInt aE ∧ Int32.toInt aE ≤ 7) (yY : 0 ≤ Int32.toInt bI ∧ Int32.toInt bI ≤ 1) (yK : 0 ≤ Int32.toInt aW ∧ Int32.toInt aW ≤ 63) (aAH : 0 ≤ Int32.toInt dO ∧ Int32.toInt dO ≤ 65535) (aAv : 0 ≤ Int32.toInt bM ∧ Int32.toInt bM ≤ 1000000) (zY : ∀ k : Nat, 0 ≤ Int32.toInt (sH k) ∧ Int32.toInt (sH k) ≤ 65535) (aAw : ∀ k : Nat, 0 ≤ Int32.toInt (uE k) ∧ Int32.toInt (uE k) ≤ 1000000) (zL : ∀ k : Nat, 0 ≤ Int32.toInt (oJ k) ∧ Int32.toInt (oJ k) ≤ 99) (hn40 : 256 - Int32.toInt x5 ≤ n40) : ws_X10_sweep_122 post K40 bT aG bW qG m_x gR pW qR nG oO pJ qO qQ x1 x2 x3 x4 x5 bL bY jD m_length oF rP dQ bZ aR aE bI aW dO bM bQ bO sW sH uE oJ vK := by
  have l0 := aEc
  intro v1 ev1
  have f2 : Int32.toInt (x5 + 1) = Int32.toInt x5 + Int32.toInt (1 : Int32) := aAD _ _ ⟨by omega, by omega⟩
  rw [← ev1] at f2
  have f3 := aAT x3
  have f4 := aAT x4
  have f5 := aAT bQ
  have f6 := aAT bO
  exact hK40 x1 x2 x3 x4 v1 bL bY jD m_length oF rP dQ bZ aR aE bI aW dO bM bQ bO sW sH uE oJ vK aBK aBN aCH aDO ⟨by omega, by omega⟩ yJ yG yM zE aAR aA1 aAA zT yL xQ yY yK aAH aAv zY aAw zL (by omega)
set_option maxHeartbeats 8000000 in
set_option maxRecDepth 200000 in
theorem ts_X10_sweep_112 {post : Int32 → Int32 → Int32 → Nat → Int32 → Int32 → Int32 → Int32 → Int32 → Int32 → Int32 → Int32 → Int32 → Int32 → Int32 → Int32 → Int32 → (Nat → Int32) → (Nat → Int32) → (Nat → Int32) → (Nat → Int32) → (Nat → Int32) → Prop} {SB : Int} {K40 : Int32 → Int32 → Int32 → Int32 → Int32 → Int32 → Int32 → Nat → Int32 → Int32 → Int32 → Int32 → Int32 → Int32 → Int32 → Int32 → Int32 → Int32 → Int32 → Int32 → Int32 → (Nat → Int32) → (Nat → Int32) → (Nat → Int32) → (Nat → Int32) → (Nat → Int32) → Prop} {n40 : Int} (bT aG bW : Int32) (qG m_x gR pW qR nG oO pJ qO qQ : Nat → Int32) (xJ : 0 ≤ Int32.toInt bT ∧ Int32.toInt bT ≤ 16) (vZ : 0 ≤ Int32.toInt aG ∧ Int32.toInt aG ≤ 8) (zQ : 0 ≤ Int32.toInt bW ∧ Int32.toInt bW ≤ 40) (xU : ∀ k : Nat, k = 17 → -1 ≤ Int32.toInt (qG k) ∧ Int32.toInt (qG k) ≤ SB) (xV : ∀ k : Nat, k = 19 → 0 ≤ Int32.toInt (qG k) ∧ Int32.toInt (qG k) ≤ 9) (aAW : ∀ k : Nat, 0 ≤ Int32.toInt (m_x k) ∧ Int32.toInt (m_x k) ≤ 99) (xK : ∀ k : Nat, 0 ≤ Int32.toInt (gR k) ∧ Int32.toInt (gR k) ≤ 99) (yR : ∀ k : Nat, 0 ≤ Int32.toInt (pW k) ∧ Int32.toInt (pW k) ≤ 9) (zM : ∀ k : Nat, 0 ≤ Int32.toInt (qR k) ∧ Int32.toInt (qR k) ≤ 9) (xT : ∀ k : Nat, 0 ≤ Int32.toInt (nG k) ∧ Int32.toInt (nG k) ≤ 99) (yF : ∀ k : Nat, 0 ≤ Int32.toInt (oO k) ∧ Int32.toInt (oO k) ≤ 99) (yD : ∀ k : Nat, k = 4 → 1 ≤ Int32.toInt (pJ k) ∧ Int32.toInt (pJ k) ≤ 30) (xZ : ∀ k : Nat, k = 3 → 0 ≤ Int32.toInt (pJ k) ∧ Int32.toInt (pJ k) ≤ 9) (zG : ∀ k : Nat, -128 ≤ Int32.toInt (qO k) ∧ Int32.toInt (qO k) ≤ 127) (zI : ∀ k : Nat, -128 ≤ Int32.toInt (qQ k) ∧ Int32.toInt (qQ k) ≤ 127) (hc0 : -1 ≤ SB ∧ SB ≤ 7) (hc1 : (Int32.toInt aG ≤ 0 ∧ SB = 0) ∨ (1 ≤ Int32.toInt aG ∧ SB = Int32.toInt aG - 1)) (hpost : ∀ (r : Int32) (xM : Int32) (xG : Int32) (aAP : Nat) (zS : Int32) (aAz : Int32) (aAm : Int32) (zH : Int32) (aAM : Int32) (zP : Int32) (yO : Int32) (zZ : Int32) (zO : Int32) (aAS : Int32) (aB9 : Int32) (aEo : Int32) (aEn : Int32) (aBX : Nat → Int32) (aA5 : Nat → Int32) (aCX : Nat → Int32) (aBR : Nat → Int32) (aGb : Nat → Int32), (-1 ≤ Int32.toInt r ∧ Int32.toInt r ≤ 2147483647) → (0 ≤ Int32.toInt xM ∧ Int32.toInt xM ≤ 16) → (0 ≤ Int32.toInt xG ∧ Int32.toInt xG ≤ 0) → (aAP = 0 ∨ aAP = 1 ∨ aAP = 2) → (0 ≤ Int32.toInt zS ∧ Int32.toInt zS ≤ 80) → (0 ≤ Int32.toInt aAz ∧ Int32.toInt aAz ≤ 80) → (0 ≤ Int32.toInt aAm ∧ Int32.toInt aAm ≤ 80) → (-1 ≤ Int32.toInt zH ∧ Int32.toInt zH ≤ 80) → (0 ≤ Int32.toInt aAM ∧ Int32.toInt aAM ≤ 0) → (0 ≤ Int32.toInt zP ∧ Int32.toInt zP ≤ 15) → (0 ≤ Int32.toInt yO ∧ Int32.toInt yO ≤ 7) → (0 ≤ Int32.toInt zZ ∧ Int32.toInt zZ ≤ 1) → (0 ≤ Int32.toInt zO ∧ Int32.toInt zO ≤ 63) → (0 ≤ Int32.toInt aAS ∧ Int32.toInt aAS ≤ 65535) → (0 ≤ Int32.toInt aB9 ∧ Int32.toInt aB9 ≤ 1000000) → (∀ k : Nat, 0 ≤ Int32.toInt (aA5 k) ∧ Int32.toInt (aA5 k) ≤ 65535) → (∀ k : Nat, 0 ≤ Int32.toInt (aCX k) ∧ Int32.toInt (aCX k) ≤ 1000000) → (∀ k : Nat, 0 ≤ Int32.toInt (aBR k) ∧ Int32.toInt (aBR k) ≤ 99) → post r xM xG aAP zS aAz aAm zH aAM zP yO zZ zO aAS aB9 aEo aEn aBX aA5 aCX aBR aGb) (hK40 : ∀ (x1 : Int32) (x2 : Int32) (x3 : Int32) (x4 : Int32) (x5 : Int32) (bL : Int32) (bY : Int32) (jD : Nat) (m_length : Int32) (oF : Int32) (rP : Int32) (dQ : Int32) (bZ : Int32) (aR : Int32) (aE : Int32) (bI : Int32) (aW : Int32) (dO : Int32) (bM : Int32) (bQ : Int32) (bO : Int32) (sW : Nat → Int32) (sH : Nat → Int32) (uE : Nat → Int32) (oJ : Nat → Int32) (vK : Nat → Int32), (0 ≤ Int32.toInt x1 ∧ Int32.toInt x1 ≤ 9999) → (-1 ≤ Int32.toInt x2 ∧ Int32.toInt x2 ≤ 255) → (-1 ≤ Int32.toInt x3 ∧ Int32.toInt x3 ≤ 2147483647) → (-2147483648 ≤ Int32.toInt x4 ∧ Int32.toInt x4 ≤ 9999) → (0 ≤ Int32.toInt x5 ∧ Int32.toInt x5 ≤ 256) → (0 ≤ Int32.toInt bL ∧ Int32.toInt bL ≤ 16) → (0 ≤ Int32.toInt bY ∧ Int32.toInt bY ≤ 0) → (jD = 0 ∨ jD = 1 ∨ jD = 2) → (0 ≤ Int32.toInt m_length ∧ Int32.toInt m_length ≤ 80) → (0 ≤ Int32.toInt oF ∧ Int32.toInt oF ≤ 80) → (0 ≤ Int32.toInt rP ∧ Int32.toInt rP ≤ 80) → (-1 ≤ Int32.toInt dQ ∧ Int32.toInt dQ ≤ 80) → (0 ≤ Int32.toInt bZ ∧ Int32.toInt bZ ≤ 0) → (0 ≤ Int32.toInt aR ∧ Int32.toInt aR ≤ 15) → (0 ≤ Int32.toInt aE ∧ Int32.toInt aE ≤ 7) → (0 ≤ Int32.toInt bI ∧ Int32.toInt bI ≤ 1) → (0 ≤ Int32.toInt aW ∧ Int32.toInt aW ≤ 63) → (0 ≤ Int32.toInt dO ∧ Int32.toInt dO ≤ 65535) → (0 ≤ Int32.toInt bM ∧ Int32.toInt bM ≤ 1000000) → (∀ k : Nat, 0 ≤ Int32.toInt (sH k) ∧ Int32.toInt (sH k) ≤ 65535) → (∀ k : Nat, 0 ≤ Int32.toInt (uE k) ∧ Int32.toInt (uE k) ≤ 1000000) → (∀ k : Nat, 0 ≤ Int32.toInt (oJ k) ∧ Int32.toInt (oJ k) ≤ 99) → (256 - Int32.toInt x5 < n40) → K40 x1 x2 x3 x4 x5 bL bY jD m_length oF rP dQ bZ aR aE bI aW dO bM bQ bO sW sH uE oJ vK) (x1 x5 x6 x7 bL bY : Int32) (jD : Nat) (m_length oF rP dQ bZ aR aE bI aW dO bM bQ bO : Int32) (sW sH uE oJ vK : Nat → Int32) (aBK : 0 ≤ Int32.toInt x1 ∧ Int32.toInt x1 ≤ 9999) (aF7 : 0 ≤ Int32.toInt x5 ∧ Int32.toInt x5 ≤ 255) (h_x6 : -2147483648 ≤ Int32.toInt x6 ∧ Int32.toInt x6 ≤ 9999) (h_x7 : -1 ≤ Int32.toInt x7 ∧ Int32.toInt x7 ≤ 2147483647) (yJ : 0 ≤ Int32.toInt bL ∧ Int32.toInt bL ≤ 16) (yG : 0 ≤ Int32.toInt bY ∧ Int32.toInt bY ≤ 0) (yM : jD = 0 ∨ jD = 1 ∨ jD = 2) (zE : 0 ≤ Int32.toInt m_length ∧ Int32.toInt m_length ≤ 80) (aAR : 0 ≤ Int32.toInt oF ∧ Int32.toInt oF ≤ 80) (aA1 : 0 ≤ Int32.toInt rP ∧ Int32.toInt rP ≤ 80) (aAA : -1 ≤ Int32.toInt dQ ∧ Int32.toInt dQ ≤ 80) (zT : 0 ≤ Int32.toInt bZ ∧ Int32.toInt bZ ≤ 0) (yL : 0 ≤ Int32.toInt aR ∧ Int32.toInt aR ≤ 15) (xQ : 0 ≤ Int32.toInt aE ∧ Int32.toInt aE ≤ 7) (yY : 0 ≤ Int32.toInt bI ∧ Int32.toInt bI ≤ 1) (yK : 0 ≤ Int32.toInt aW ∧ Int32.toInt aW ≤ 63) (aAH : 0 ≤ Int32.toInt dO ∧ Int32.toInt dO ≤ 65535) (aAv : 0 ≤ Int32.toInt bM ∧ Int32.toInt bM ≤ 1000000) (zY : ∀ k : Nat, 0 ≤ Int32.toInt (sH k) ∧ Int32.toInt (sH k) ≤ 65535) (aAw : ∀ k : Nat, 0 ≤ Int32.toInt (uE k) ∧ Int32.toInt (uE k) ≤ 1000000) (zL : ∀ k : Nat, 0 ≤ Int32.toInt (oJ k) ∧ Int32.toInt (oJ k) ≤ 99) (hn40 : 256 - Int32.toInt x5 ≤ n40) : ws_X10_sweep_112 post K40 bT aG bW qG m_x gR pW qR nG oO pJ qO qQ x1 x5 x6 x7 bL bY jD m_length oF rP dQ bZ aR aE bI aW dO bM bQ bO sW sH uE oJ vK := by
  have f7 := aAT x7
  have f8 := aAT x6
  have f9 := aAT bQ
  have f10 := aAT bO
  exact ts_X10_sweep_122 bT aG bW qG m_x gR pW qR nG oO pJ qO qQ xJ vZ zQ xU xV aAW xK yR zM xT yF yD xZ zG zI hc0 hc1 hpost hK40 x1 x5 x7 x6 x5 bL bY jD m_length oF rP dQ bZ aR aE bI aW dO bM bQ bO sW sH uE oJ vK aBK ⟨by omega, by omega⟩ h_x7 h_x6 aF7 yJ yG yM zE aAR aA1 aAA zT yL xQ yY yK aAH aAv zY aAw zL hn40
set_option maxHeartbeats 8000000 in
set_option maxRecDepth 200000 in
theorem ts_X10_sweep_40 {post : Int32 → Int32 → Int32 → Nat → Int32 → Int32 → Int32 → Int32 → Int32 → Int32 → Int32 → Int32 → Int32 → Int32 → Int32 → Int32 → Int32 → (Nat → Int32) → (Nat → Int32) → (Nat → Int32) → (Nat → Int32) → (Nat → Int32) → Prop} {SB : Int} {next : Int32 → Int32 → Int32 → Int32 → Int32 → Int32 → Int32 → Nat → Int32 → Int32 → Int32 → Int32 → Int32 → Int32 → Int32 → Int32 → Int32 → Int32 → Int32 → Int32 → Int32 → (Nat → Int32) → (Nat → Int32) → (Nat → Int32) → (Nat → Int32) → (Nat → Int32) → Prop} {n40 : Int} (bT aG bW : Int32) (qG m_x gR pW qR nG oO pJ qO qQ : Nat → Int32) (xJ : 0 ≤ Int32.toInt bT ∧ Int32.toInt bT ≤ 16) (vZ : 0 ≤ Int32.toInt aG ∧ Int32.toInt aG ≤ 8) (zQ : 0 ≤ Int32.toInt bW ∧ Int32.toInt bW ≤ 40) (xU : ∀ k : Nat, k = 17 → -1 ≤ Int32.toInt (qG k) ∧ Int32.toInt (qG k) ≤ SB) (xV : ∀ k : Nat, k = 19 → 0 ≤ Int32.toInt (qG k) ∧ Int32.toInt (qG k) ≤ 9) (aAW : ∀ k : Nat, 0 ≤ Int32.toInt (m_x k) ∧ Int32.toInt (m_x k) ≤ 99) (xK : ∀ k : Nat, 0 ≤ Int32.toInt (gR k) ∧ Int32.toInt (gR k) ≤ 99) (yR : ∀ k : Nat, 0 ≤ Int32.toInt (pW k) ∧ Int32.toInt (pW k) ≤ 9) (zM : ∀ k : Nat, 0 ≤ Int32.toInt (qR k) ∧ Int32.toInt (qR k) ≤ 9) (xT : ∀ k : Nat, 0 ≤ Int32.toInt (nG k) ∧ Int32.toInt (nG k) ≤ 99) (yF : ∀ k : Nat, 0 ≤ Int32.toInt (oO k) ∧ Int32.toInt (oO k) ≤ 99) (yD : ∀ k : Nat, k = 4 → 1 ≤ Int32.toInt (pJ k) ∧ Int32.toInt (pJ k) ≤ 30) (xZ : ∀ k : Nat, k = 3 → 0 ≤ Int32.toInt (pJ k) ∧ Int32.toInt (pJ k) ≤ 9) (zG : ∀ k : Nat, -128 ≤ Int32.toInt (qO k) ∧ Int32.toInt (qO k) ≤ 127) (zI : ∀ k : Nat, -128 ≤ Int32.toInt (qQ k) ∧ Int32.toInt (qQ k) ≤ 127) (hc0 : -1 ≤ SB ∧ SB ≤ 7) (hc1 : (Int32.toInt aG ≤ 0 ∧ SB = 0) ∨ (1 ≤ Int32.toInt aG ∧ SB = Int32.toInt aG - 1)) (hpost : ∀ (r : Int32) (xM : Int32) (xG : Int32) (aAP : Nat) (zS : Int32) (aAz : Int32) (aAm : Int32) (zH : Int32) (aAM : Int32) (zP : Int32) (yO : Int32) (zZ : Int32) (zO : Int32) (aAS : Int32) (aB9 : Int32) (aEo : Int32) (aEn : Int32) (aBX : Nat → Int32) (aA5 : Nat → Int32) (aCX : Nat → Int32) (aBR : Nat → Int32) (aGb : Nat → Int32), (-1 ≤ Int32.toInt r ∧ Int32.toInt r ≤ 2147483647) → (0 ≤ Int32.toInt xM ∧ Int32.toInt xM ≤ 16) → (0 ≤ Int32.toInt xG ∧ Int32.toInt xG ≤ 0) → (aAP = 0 ∨ aAP = 1 ∨ aAP = 2) → (0 ≤ Int32.toInt zS ∧ Int32.toInt zS ≤ 80) → (0 ≤ Int32.toInt aAz ∧ Int32.toInt aAz ≤ 80) → (0 ≤ Int32.toInt aAm ∧ Int32.toInt aAm ≤ 80) → (-1 ≤ Int32.toInt zH ∧ Int32.toInt zH ≤ 80) → (0 ≤ Int32.toInt aAM ∧ Int32.toInt aAM ≤ 0) → (0 ≤ Int32.toInt zP ∧ Int32.toInt zP ≤ 15) → (0 ≤ Int32.toInt yO ∧ Int32.toInt yO ≤ 7) → (0 ≤ Int32.toInt zZ ∧ Int32.toInt zZ ≤ 1) → (0 ≤ Int32.toInt zO ∧ Int32.toInt zO ≤ 63) → (0 ≤ Int32.toInt aAS ∧ Int32.toInt aAS ≤ 65535) → (0 ≤ Int32.toInt aB9 ∧ Int32.toInt aB9 ≤ 1000000) → (∀ k : Nat, 0 ≤ Int32.toInt (aA5 k) ∧ Int32.toInt (aA5 k) ≤ 65535) → (∀ k : Nat, 0 ≤ Int32.toInt (aCX k) ∧ Int32.toInt (aCX k) ≤ 1000000) → (∀ k : Nat, 0 ≤ Int32.toInt (aBR k) ∧ Int32.toInt (aBR k) ≤ 99) → post r xM xG aAP zS aAz aAm zH aAM zP yO zZ zO aAS aB9 aEo aEn aBX aA5 aCX aBR aGb) (hKn : ∀ (x1 : Int32) (x2 : Int32) (x3 : Int32) (x4 : Int32) (x5 : Int32) (bL : Int32) (bY : Int32) (jD : Nat) (m_length : Int32) (oF : Int32) (rP : Int32) (dQ : Int32) (bZ : Int32) (aR : Int32) (aE : Int32) (bI : Int32) (aW : Int32) (dO : Int32) (bM : Int32) (bQ : Int32) (bO : Int32) (sW : Nat → Int32) (sH : Nat → Int32) (uE : Nat → Int32) (oJ : Nat → Int32) (vK : Nat → Int32), (0 ≤ Int32.toInt x1 ∧ Int32.toInt x1 ≤ 9999) → (-1 ≤ Int32.toInt x2 ∧ Int32.toInt x2 ≤ 255) → (-1 ≤ Int32.toInt x3 ∧ Int32.toInt x3 ≤ 2147483647) → (-2147483648 ≤ Int32.toInt x4 ∧ Int32.toInt x4 ≤ 9999) → (0 ≤ Int32.toInt x5 ∧ Int32.toInt x5 ≤ 256) → (0 ≤ Int32.toInt bL ∧ Int32.toInt bL ≤ 16) → (0 ≤ Int32.toInt bY ∧ Int32.toInt bY ≤ 0) → (jD = 0 ∨ jD = 1 ∨ jD = 2) → (0 ≤ Int32.toInt m_length ∧ Int32.toInt m_length ≤ 80) → (0 ≤ Int32.toInt oF ∧ Int32.toInt oF ≤ 80) → (0 ≤ Int32.toInt rP ∧ Int32.toInt rP ≤ 80) → (-1 ≤ Int32.toInt dQ ∧ Int32.toInt dQ ≤ 80) → (0 ≤ Int32.toInt bZ ∧ Int32.toInt bZ ≤ 0) → (0 ≤ Int32.toInt aR ∧ Int32.toInt aR ≤ 15) → (0 ≤ Int32.toInt aE ∧ Int32.toInt aE ≤ 7) → (0 ≤ Int32.toInt bI ∧ Int32.toInt bI ≤ 1) → (0 ≤ Int32.toInt aW ∧ Int32.toInt aW ≤ 63) → (0 ≤ Int32.toInt dO ∧ Int32.toInt dO ≤ 65535) → (0 ≤ Int32.toInt bM ∧ Int32.toInt bM ≤ 1000000) → (∀ k : Nat, 0 ≤ Int32.toInt (sH k) ∧ Int32.toInt (sH k) ≤ 65535) → (∀ k : Nat, 0 ≤ Int32.toInt (uE k) ∧ Int32.toInt (uE k) ≤ 1000000) → (∀ k : Nat, 0 ≤ Int32.toInt (oJ k) ∧ Int32.toInt (oJ k) ≤ 99) → (256 - Int32.toInt x5 < n40) → next x1 x2 x3 x4 x5 bL bY jD m_length oF rP dQ bZ aR aE bI aW dO bM bQ bO sW sH uE oJ vK) (x1 x2 x3 x4 x5 bL bY : Int32) (jD : Nat) (m_length oF rP dQ bZ aR aE bI aW dO bM bQ bO : Int32) (sW sH uE oJ vK : Nat → Int32) (aBK : 0 ≤ Int32.toInt x1 ∧ Int32.toInt x1 ≤ 9999) (aBN : -1 ≤ Int32.toInt x2 ∧ Int32.toInt x2 ≤ 255) (aCH : -1 ≤ Int32.toInt x3 ∧ Int32.toInt x3 ≤ 2147483647) (aDO : -2147483648 ≤ Int32.toInt x4 ∧ Int32.toInt x4 ≤ 9999) (aF7 : 0 ≤ Int32.toInt x5 ∧ Int32.toInt x5 ≤ 256) (yJ : 0 ≤ Int32.toInt bL ∧ Int32.toInt bL ≤ 16) (yG : 0 ≤ Int32.toInt bY ∧ Int32.toInt bY ≤ 0) (yM : jD = 0 ∨ jD = 1 ∨ jD = 2) (zE : 0 ≤ Int32.toInt m_length ∧ Int32.toInt m_length ≤ 80) (aAR : 0 ≤ Int32.toInt oF ∧ Int32.toInt oF ≤ 80) (aA1 : 0 ≤ Int32.toInt rP ∧ Int32.toInt rP ≤ 80) (aAA : -1 ≤ Int32.toInt dQ ∧ Int32.toInt dQ ≤ 80) (zT : 0 ≤ Int32.toInt bZ ∧ Int32.toInt bZ ≤ 0) (yL : 0 ≤ Int32.toInt aR ∧ Int32.toInt aR ≤ 15) (xQ : 0 ≤ Int32.toInt aE ∧ Int32.toInt aE ≤ 7) (yY : 0 ≤ Int32.toInt bI ∧ Int32.toInt bI ≤ 1) (yK : 0 ≤ Int32.toInt aW ∧ Int32.toInt aW ≤ 63) (aAH : 0 ≤ Int32.toInt dO ∧ Int32.toInt dO ≤ 65535) (aAv : 0 ≤ Int32.toInt bM ∧ Int32.toInt bM ≤ 1000000) (zY : ∀ k : Nat, 0 ≤ Int32.toInt (sH k) ∧ Int32.toInt (sH k) ≤ 65535) (aAw : ∀ k : Nat, 0 ≤ Int32.toInt (uE k) ∧ Int32.toInt (uE k) ≤ 1000000) (zL : ∀ k : Nat, 0 ≤ Int32.toInt (oJ k) ∧ Int32.toInt (oJ k) ≤ 99) (hn40 : 256 - Int32.toInt x5 ≤ n40) : ws_X10_sweep_40 post next bT aG bW qG m_x gR pW qR nG oO pJ qO qQ x1 x2 x3 x4 x5 bL bY jD m_length oF rP dQ bZ aR aE bI aW dO bM bQ bO sW sH uE oJ vK := by
  have l0 := aE0
  have l1 := aEc
  have l2 := li_16
  intro v11 ev11
  have f12 := aDv 8 256 aG (by decide) ⟨by omega, by omega⟩
  have hv11 := congrArg Int32.toInt ev11
  have f14 : Int32.toInt (v11 - 1) = Int32.toInt v11 - Int32.toInt (1 : Int32) := aCA _ _ ⟨by omega, by omega⟩
  refine And.intro (fun c13 => ?_) (fun c13 => ?_)
  · skip
    have c13 := (aAd _ _).mp c13
    refine And.intro (aBZ ⟨by omega, by omega⟩) ?_
    intro v15 ev15
    have f16 : Int32.toInt (0 + 1) = Int32.toInt (0 : Int32) + Int32.toInt (1 : Int32) := aAD _ _ ⟨by omega, by omega⟩
    rw [← ev15] at f16
    refine And.intro (aBZ ⟨by omega, by omega⟩) ?_
    intro v17 ev17
    have f18 : Int32.toInt (v15 + 1) = Int32.toInt v15 + Int32.toInt (1 : Int32) := aAD _ _ ⟨by omega, by omega⟩
    rw [← ev17] at f18
    have f19 := aAT x3
    exact hpost _ _ _ _ _ _ _ _ _ _ _ _ _ _ _ _ _ _ _ _ _ _ aCH ⟨by omega, by omega⟩ yG yM zE aAR aA1 aAA zT yL xQ yY yK aAH aAv zY aAw zL
  · skip
    have c13 := mt (aAd _ _).mpr c13
    refine t_X10_workOf ⟨by omega, by omega⟩ xJ vZ aAH aAv xU xV yF yD xZ zY aAw zL (by omega) (by omega) (fun r24 aND aI4 aI3 m_load_23 h_m_workMoves_20 => ?_)
    have f26 := aAT r24
    refine And.intro (fun c25 => ?_) (fun c25 => ?_)
    · skip
      have c25 := (aAO _ _).mp c25
      refine aSL ⟨by omega, by omega⟩ vZ zY (fun r27 h_r27 => ?_)
      intro v28 ev28
      have f29 := aAQ dO r27 (by omega)
      have f30 := aBx dO r27 (by omega)
      have hv28 := congrArg Int32.toInt ev28
      intro v31 ev31
      have hv31 := congrArg Int32.toInt ev31
      refine aNU ⟨by omega, by omega⟩ xJ yR (fun r33 => ?_)
      have f35 := aAT r33
      have f36 := aAT x3
      refine And.intro (fun c34 => ?_) (fun c34 => ?_)
      · skip
        have c34 := (aAd _ _).mp c34
        have f37 := aAT x4
        have f38 := aAT aI4
        have f39 := aAT aI3
        exact ts_X10_sweep_122 bT aG bW qG m_x gR pW qR nG oO pJ qO qQ xJ vZ zQ xU xV aAW xK yR zM xT yF yD xZ zG zI hc0 hc1 hpost hKn x1 x2 x3 x4 x5 bL bY jD m_length oF rP dQ bZ aR aE bI aW dO aND aI4 aI3 sW sH uE oJ m_load_23 aBK aBN aCH aDO ⟨by omega, by omega⟩ yJ yG yM zE aAR aA1 aAA zT yL xQ yY yK aAH h_m_workMoves_20 zY aAw zL hn40
      · skip
        have c34 := mt (aAd _ _).mpr c34
        refine And.intro (fun c40 => ?_) (fun c40 => ?_)
        · skip
          have c40 := mt (zJ _ _).mpr c40
          have f41 := aAT aI4
          have f42 := aAT aI3
          exact ts_X10_sweep_112 bT aG bW qG m_x gR pW qR nG oO pJ qO qQ xJ vZ zQ xU xV aAW xK yR zM xT yF yD xZ zG zI hc0 hc1 hpost hKn x1 x5 r24 r33 bL bY jD m_length oF rP dQ bZ aR aE bI aW dO aND aI4 aI3 sW sH uE oJ m_load_23 aBK ⟨by omega, by omega⟩ ⟨by omega, by omega⟩ ⟨by omega, by omega⟩ yJ yG yM zE aAR aA1 aAA zT yL xQ yY yK aAH h_m_workMoves_20 zY aAw zL hn40
        · skip
          have c40 := (zJ _ _).mp c40
          have f44 := aAT x4
          refine And.intro (fun c43 => ?_) (fun c43 => ?_)
          · skip
            have c43 := (aAd _ _).mp c43
            have f45 := aAT aI4
            have f46 := aAT aI3
            exact ts_X10_sweep_112 bT aG bW qG m_x gR pW qR nG oO pJ qO qQ xJ vZ zQ xU xV aAW xK yR zM xT yF yD xZ zG zI hc0 hc1 hpost hKn x1 x5 r24 r33 bL bY jD m_length oF rP dQ bZ aR aE bI aW dO aND aI4 aI3 sW sH uE oJ m_load_23 aBK ⟨by omega, by omega⟩ ⟨by omega, by omega⟩ ⟨by omega, by omega⟩ yJ yG yM zE aAR aA1 aAA zT yL xQ yY yK aAH h_m_workMoves_20 zY aAw zL hn40
          · skip
            have c43 := mt (aAd _ _).mpr c43
            have f47 := aAT aI4
            have f48 := aAT aI3
            exact ts_X10_sweep_122 bT aG bW qG m_x gR pW qR nG oO pJ qO qQ xJ vZ zQ xU xV aAW xK yR zM xT yF yD xZ zG zI hc0 hc1 hpost hKn x1 x2 x3 x4 x5 bL bY jD m_length oF rP dQ bZ aR aE bI aW dO aND aI4 aI3 sW sH uE oJ m_load_23 aBK aBN aCH aDO ⟨by omega, by omega⟩ yJ yG yM zE aAR aA1 aAA zT yL xQ yY yK aAH h_m_workMoves_20 zY aAw zL hn40
    · skip
      have c25 := mt (aAO _ _).mpr c25
      have f49 := aAT x3
      have f50 := aAT x4
      have f51 := aAT aI4
      have f52 := aAT aI3
      exact ts_X10_sweep_122 bT aG bW qG m_x gR pW qR nG oO pJ qO qQ xJ vZ zQ xU xV aAW xK yR zM xT yF yD xZ zG zI hc0 hc1 hpost hKn x1 x2 x3 x4 x5 bL bY jD m_length oF rP dQ bZ aR aE bI aW dO aND aI4 aI3 sW sH uE oJ m_load_23 aBK aBN aCH aDO ⟨by omega, by omega⟩ yJ yG yM zE aAR aA1 aAA zT yL xQ yY yK aAH h_m_workMoves_20 zY aAw zL hn40
set_option maxHeartbeats 8000000 in
set_option maxRecDepth 200000 in
theorem tb_X10_sweep_40 {post : Int32 → Int32 → Int32 → Nat → Int32 → Int32 → Int32 → Int32 → Int32 → Int32 → Int32 → Int32 → Int32 → Int32 → Int32 → Int32 → Int32 → (Nat → Int32) → (Nat → Int32) → (Nat → Int32) → (Nat → Int32) → (Nat → Int32) → Prop} {SB : Int} (bT aG bW : Int32) (qG m_x gR pW qR nG oO pJ qO qQ : Nat → Int32) (xJ : 0 ≤ Int32.toInt bT ∧ Int32.toInt bT ≤ 16) (vZ : 0 ≤ Int32.toInt aG ∧ Int32.toInt aG ≤ 8) (zQ : 0 ≤ Int32.toInt bW ∧ Int32.toInt bW ≤ 40) (xU : ∀ k : Nat, k = 17 → -1 ≤ Int32.toInt (qG k) ∧ Int32.toInt (qG k) ≤ SB) (xV : ∀ k : Nat, k = 19 → 0 ≤ Int32.toInt (qG k) ∧ Int32.toInt (qG k) ≤ 9) (aAW : ∀ k : Nat, 0 ≤ Int32.toInt (m_x k) ∧ Int32.toInt (m_x k) ≤ 99) (xK : ∀ k : Nat, 0 ≤ Int32.toInt (gR k) ∧ Int32.toInt (gR k) ≤ 99) (yR : ∀ k : Nat, 0 ≤ Int32.toInt (pW k) ∧ Int32.toInt (pW k) ≤ 9) (zM : ∀ k : Nat, 0 ≤ Int32.toInt (qR k) ∧ Int32.toInt (qR k) ≤ 9) (xT : ∀ k : Nat, 0 ≤ Int32.toInt (nG k) ∧ Int32.toInt (nG k) ≤ 99) (yF : ∀ k : Nat, 0 ≤ Int32.toInt (oO k) ∧ Int32.toInt (oO k) ≤ 99) (yD : ∀ k : Nat, k = 4 → 1 ≤ Int32.toInt (pJ k) ∧ Int32.toInt (pJ k) ≤ 30) (xZ : ∀ k : Nat, k = 3 → 0 ≤ Int32.toInt (pJ k) ∧ Int32.toInt (pJ k) ≤ 9) (zG : ∀ k : Nat, -128 ≤ Int32.toInt (qO k) ∧ Int32.toInt (qO k) ≤ 127) (zI : ∀ k : Nat, -128 ≤ Int32.toInt (qQ k) ∧ Int32.toInt (qQ k) ≤ 127) (hc0 : -1 ≤ SB ∧ SB ≤ 7) (hc1 : (Int32.toInt aG ≤ 0 ∧ SB = 0) ∨ (1 ≤ Int32.toInt aG ∧ SB = Int32.toInt aG - 1)) (hpost : ∀ (r : Int32) (xM : Int32) (xG : Int32) (aAP : Nat) (zS : Int32) (aAz : Int32) (aAm : Int32) (zH : Int32) (aAM : Int32) (zP : Int32) (yO : Int32) (zZ : Int32) (zO : Int32) (aAS : Int32) (aB9 : Int32) (aEo : Int32) (aEn : Int32) (aBX : Nat → Int32) (aA5 : Nat → Int32) (aCX : Nat → Int32) (aBR : Nat → Int32) (aGb : Nat → Int32), (-1 ≤ Int32.toInt r ∧ Int32.toInt r ≤ 2147483647) → (0 ≤ Int32.toInt xM ∧ Int32.toInt xM ≤ 16) → (0 ≤ Int32.toInt xG ∧ Int32.toInt xG ≤ 0) → (aAP = 0 ∨ aAP = 1 ∨ aAP = 2) → (0 ≤ Int32.toInt zS ∧ Int32.toInt zS ≤ 80) → (0 ≤ Int32.toInt aAz ∧ Int32.toInt aAz ≤ 80) → (0 ≤ Int32.toInt aAm ∧ Int32.toInt aAm ≤ 80) → (-1 ≤ Int32.toInt zH ∧ Int32.toInt zH ≤ 80) → (0 ≤ Int32.toInt aAM ∧ Int32.toInt aAM ≤ 0) → (0 ≤ Int32.toInt zP ∧ Int32.toInt zP ≤ 15) → (0 ≤ Int32.toInt yO ∧ Int32.toInt yO ≤ 7) → (0 ≤ Int32.toInt zZ ∧ Int32.toInt zZ ≤ 1) → (0 ≤ Int32.toInt zO ∧ Int32.toInt zO ≤ 63) → (0 ≤ Int32.toInt aAS ∧ Int32.toInt aAS ≤ 65535) → (0 ≤ Int32.toInt aB9 ∧ Int32.toInt aB9 ≤ 1000000) → (∀ k : Nat, 0 ≤ Int32.toInt (aA5 k) ∧ Int32.toInt (aA5 k) ≤ 65535) → (∀ k : Nat, 0 ≤ Int32.toInt (aCX k) ∧ Int32.toInt (aCX k) ≤ 1000000) → (∀ k : Nat, 0 ≤ Int32.toInt (aBR k) ∧ Int32.toInt (aBR k) ≤ 99) → post r xM xG aAP zS aAz aAm zH aAM zP yO zZ zO aAS aB9 aEo aEn aBX aA5 aCX aBR aGb) : ∀ (n : Nat) (x1 x2 x3 x4 x5 bL bY : Int32) (jD : Nat) (m_length oF rP dQ bZ aR aE bI aW dO bM bQ bO : Int32) (sW sH uE oJ vK : Nat → Int32), (0 ≤ Int32.toInt x1 ∧ Int32.toInt x1 ≤ 9999) → (-1 ≤ Int32.toInt x2 ∧ Int32.toInt x2 ≤ 255) → (-1 ≤ Int32.toInt x3 ∧ Int32.toInt x3 ≤ 2147483647) → (-2147483648 ≤ Int32.toInt x4 ∧ Int32.toInt x4 ≤ 9999) → (0 ≤ Int32.toInt x5 ∧ Int32.toInt x5 ≤ 256) → (0 ≤ Int32.toInt bL ∧ Int32.toInt bL ≤ 16) → (0 ≤ Int32.toInt bY ∧ Int32.toInt bY ≤ 0) → (jD = 0 ∨ jD = 1 ∨ jD = 2) → (0 ≤ Int32.toInt m_length ∧ Int32.toInt m_length ≤ 80) → (0 ≤ Int32.toInt oF ∧ Int32.toInt oF ≤ 80) → (0 ≤ Int32.toInt rP ∧ Int32.toInt rP ≤ 80) → (-1 ≤ Int32.toInt dQ ∧ Int32.toInt dQ ≤ 80) → (0 ≤ Int32.toInt bZ ∧ Int32.toInt bZ ≤ 0) → (0 ≤ Int32.toInt aR ∧ Int32.toInt aR ≤ 15) → (0 ≤ Int32.toInt aE ∧ Int32.toInt aE ≤ 7) → (0 ≤ Int32.toInt bI ∧ Int32.toInt bI ≤ 1) → (0 ≤ Int32.toInt aW ∧ Int32.toInt aW ≤ 63) → (0 ≤ Int32.toInt dO ∧ Int32.toInt dO ≤ 65535) → (0 ≤ Int32.toInt bM ∧ Int32.toInt bM ≤ 1000000) → (∀ k : Nat, 0 ≤ Int32.toInt (sH k) ∧ Int32.toInt (sH k) ≤ 65535) → (∀ k : Nat, 0 ≤ Int32.toInt (uE k) ∧ Int32.toInt (uE k) ≤ 1000000) → (∀ k : Nat, 0 ≤ Int32.toInt (oJ k) ∧ Int32.toInt (oJ k) ≤ 99) → (256 - Int32.toInt x5 < (n : Int)) → wb_X10_sweep_40 post bT aG bW qG m_x gR pW qR nG oO pJ qO qQ n x1 x2 x3 x4 x5 bL bY jD m_length oF rP dQ bZ aR aE bI aW dO bM bQ bO sW sH uE oJ vK := by
  intro n
  induction n with
  | zero =>
    intro x1 x2 x3 x4 x5 bL bY jD m_length oF rP dQ bZ aR aE bI aW dO bM bQ bO sW sH uE oJ vK aBK aBN aCH aDO aF7 yJ yG yM zE aAR aA1 aAA zT yL xQ yY yK aAH aAv zY aAw zL hm
    exfalso; omega
  | succ n ih =>
    intro x1 x2 x3 x4 x5 bL bY jD m_length oF rP dQ bZ aR aE bI aW dO bM bQ bO sW sH uE oJ vK aBK aBN aCH aDO aF7 yJ yG yM zE aAR aA1 aAA zT yL xQ yY yK aAH aAv zY aAw zL hm
    exact ts_X10_sweep_40 bT aG bW qG m_x gR pW qR nG oO pJ qO qQ xJ vZ zQ xU xV aAW xK yR zM xT yF yD xZ zG zI hc0 hc1 hpost ih x1 x2 x3 x4 x5 bL bY jD m_length oF rP dQ bZ aR aE bI aW dO bM bQ bO sW sH uE oJ vK aBK aBN aCH aDO aF7 yJ yG yM zE aAR aA1 aAA zT yL xQ yY yK aAH aAv zY aAw zL (by omega)
set_option maxHeartbeats 8000000 in
set_option maxRecDepth 200000 in
theorem t_X10_sweep {post : Int32 → Int32 → Int32 → Nat → Int32 → Int32 → Int32 → Int32 → Int32 → Int32 → Int32 → Int32 → Int32 → Int32 → Int32 → Int32 → Int32 → (Nat → Int32) → (Nat → Int32) → (Nat → Int32) → (Nat → Int32) → (Nat → Int32) → Prop} {SB : Int} {p0 bT aG bL bY : Int32} {jD : Nat} {m_length oF rP dQ bW bZ aR aE bI aW dO bM bQ bO : Int32} {qG m_x gR pW qR nG oO pJ qO sW qQ sH uE oJ vK : Nat → Int32} (xJ : 0 ≤ Int32.toInt bT ∧ Int32.toInt bT ≤ 16) (vZ : 0 ≤ Int32.toInt aG ∧ Int32.toInt aG ≤ 8) (yJ : 0 ≤ Int32.toInt bL ∧ Int32.toInt bL ≤ 16) (yG : 0 ≤ Int32.toInt bY ∧ Int32.toInt bY ≤ 1) (yM : jD = 0 ∨ jD = 1 ∨ jD = 2) (zE : 0 ≤ Int32.toInt m_length ∧ Int32.toInt m_length ≤ 80) (aAR : 0 ≤ Int32.toInt oF ∧ Int32.toInt oF ≤ 80) (aA1 : 0 ≤ Int32.toInt rP ∧ Int32.toInt rP ≤ 80) (aAA : -1 ≤ Int32.toInt dQ ∧ Int32.toInt dQ ≤ 80) (zQ : 0 ≤ Int32.toInt bW ∧ Int32.toInt bW ≤ 40) (zT : 0 ≤ Int32.toInt bZ ∧ Int32.toInt bZ ≤ 0) (yL : 0 ≤ Int32.toInt aR ∧ Int32.toInt aR ≤ 15) (xQ : 0 ≤ Int32.toInt aE ∧ Int32.toInt aE ≤ 7) (yY : 0 ≤ Int32.toInt bI ∧ Int32.toInt bI ≤ 1) (yK : 0 ≤ Int32.toInt aW ∧ Int32.toInt aW ≤ 63) (aAH : 0 ≤ Int32.toInt dO ∧ Int32.toInt dO ≤ 65535) (aAv : 0 ≤ Int32.toInt bM ∧ Int32.toInt bM ≤ 1000000) (xU : ∀ k : Nat, k = 17 → -1 ≤ Int32.toInt (qG k) ∧ Int32.toInt (qG k) ≤ SB) (xV : ∀ k : Nat, k = 19 → 0 ≤ Int32.toInt (qG k) ∧ Int32.toInt (qG k) ≤ 9) (aAW : ∀ k : Nat, 0 ≤ Int32.toInt (m_x k) ∧ Int32.toInt (m_x k) ≤ 99) (xK : ∀ k : Nat, 0 ≤ Int32.toInt (gR k) ∧ Int32.toInt (gR k) ≤ 99) (yR : ∀ k : Nat, 0 ≤ Int32.toInt (pW k) ∧ Int32.toInt (pW k) ≤ 9) (zM : ∀ k : Nat, 0 ≤ Int32.toInt (qR k) ∧ Int32.toInt (qR k) ≤ 9) (xT : ∀ k : Nat, 0 ≤ Int32.toInt (nG k) ∧ Int32.toInt (nG k) ≤ 99) (yF : ∀ k : Nat, 0 ≤ Int32.toInt (oO k) ∧ Int32.toInt (oO k) ≤ 99) (yD : ∀ k : Nat, k = 4 → 1 ≤ Int32.toInt (pJ k) ∧ Int32.toInt (pJ k) ≤ 30) (xZ : ∀ k : Nat, k = 3 → 0 ≤ Int32.toInt (pJ k) ∧ Int32.toInt (pJ k) ≤ 9) (zG : ∀ k : Nat, -128 ≤ Int32.toInt (qO k) ∧ Int32.toInt (qO k) ≤ 127) (zI : ∀ k : Nat, -128 ≤ Int32.toInt (qQ k) ∧ Int32.toInt (qQ k) ≤ 127) (zY : ∀ k : Nat, 0 ≤ Int32.toInt (sH k) ∧ Int32.toInt (sH k) ≤ 65535) (aAw : ∀ k : Nat, 0 ≤ Int32.toInt (uE k) ∧ Int32.toInt (uE k) ≤ 1000000) (zL : ∀ k : Nat, 0 ≤ Int32.toInt (oJ k) ∧ Int32.toInt (oJ k) ≤ 99) (hc0 : -1 ≤ SB ∧ SB ≤ 7) (hc1 : (Int32.toInt aG ≤ 0 ∧ SB = 0) ∨ (1 ≤ Int32.toInt aG ∧ SB = Int32.toInt aG - 1)) (hpost : ∀ (r : Int32) (xM : Int32) (xG : Int32) (aAP : Nat) (zS : Int32) (aAz : Int32) (aAm : Int32) (zH : Int32) (aAM : Int32) (zP : Int32) (yO : Int32) (zZ : Int32) (zO : Int32) (aAS : Int32) (aB9 : Int32) (aEo : Int32) (aEn : Int32) (aBX : Nat → Int32) (aA5 : Nat → Int32) (aCX : Nat → Int32) (aBR : Nat → Int32) (aGb : Nat → Int32), (-1 ≤ Int32.toInt r ∧ Int32.toInt r ≤ 2147483647) → (0 ≤ Int32.toInt xM ∧ Int32.toInt xM ≤ 16) → (0 ≤ Int32.toInt xG ∧ Int32.toInt xG ≤ 0) → (aAP = 0 ∨ aAP = 1 ∨ aAP = 2) → (0 ≤ Int32.toInt zS ∧ Int32.toInt zS ≤ 80) → (0 ≤ Int32.toInt aAz ∧ Int32.toInt aAz ≤ 80) → (0 ≤ Int32.toInt aAm ∧ Int32.toInt aAm ≤ 80) → (-1 ≤ Int32.toInt zH ∧ Int32.toInt zH ≤ 80) → (0 ≤ Int32.toInt aAM ∧ Int32.toInt aAM ≤ 0) → (0 ≤ Int32.toInt zP ∧ Int32.toInt zP ≤ 15) → (0 ≤ Int32.toInt yO ∧ Int32.toInt yO ≤ 7) → (0 ≤ Int32.toInt zZ ∧ Int32.toInt zZ ≤ 1) → (0 ≤ Int32.toInt zO ∧ Int32.toInt zO ≤ 63) → (0 ≤ Int32.toInt aAS ∧ Int32.toInt aAS ≤ 65535) → (0 ≤ Int32.toInt aB9 ∧ Int32.toInt aB9 ≤ 1000000) → (∀ k : Nat, 0 ≤ Int32.toInt (aA5 k) ∧ Int32.toInt (aA5 k) ≤ 65535) → (∀ k : Nat, 0 ≤ Int32.toInt (aCX k) ∧ Int32.toInt (aCX k) ≤ 1000000) → (∀ k : Nat, 0 ≤ Int32.toInt (aBR k) ∧ Int32.toInt (aBR k) ≤ 99) → post r xM xG aAP zS aAz aAm zH aAM zP yO zZ zO aAS aB9 aEo aEn aBX aA5 aCX aBR aGb) : wp_X10_sweep post p0 bT aG bL bY jD m_length oF rP dQ bW bZ aR aE bI aW dO bM bQ bO qG m_x gR pW qR nG oO pJ qO sW qQ sH uE oJ vK := by
  have l0 := aI2
  have l1 := aE0
  have l2 := li_18
  have l3 := li_9999
  have f54 := aAT p0
  refine And.intro (fun c53 => ?_) (fun c53 => ?_)
  · skip
    have c53 := (aAd _ _).mp c53
    refine And.intro (fun h9 => absurd h9 (by decide)) (fun _ => ?_)
    exact hpost _ _ _ _ _ _ _ _ _ _ _ _ _ _ _ _ _ _ _ _ _ _ ⟨by omega, by omega⟩ yJ ⟨by omega, by omega⟩ yM zE aAR aA1 aAA zT yL xQ yY yK aAH aAv zY aAw zL
  · skip
    have c53 := mt (aAd _ _).mpr c53
    refine And.intro (fun c55 => ?_) (fun c55 => ?_)
    · skip
      have c55 := (aAd _ _).mp c55
      refine And.intro (fun h9 => absurd h9 (by decide)) (fun _ => ?_)
      exact hpost _ _ _ _ _ _ _ _ _ _ _ _ _ _ _ _ _ _ _ _ _ _ ⟨by omega, by omega⟩ yJ ⟨by omega, by omega⟩ yM zE aAR aA1 aAA zT yL xQ yY yK aAH aAv zY aAw zL
    · skip
      have c55 := mt (aAd _ _).mpr c55
      refine And.intro (fun _ => ?_) (fun h9 => absurd h9 (by decide))
      intro v56 ev56
      have hv56 := congrArg Int32.toInt ev56
      refine aLb xJ vZ aAH xU xV aAW xK zM xT yF yD xZ zY (by omega) (by omega) (fun m_wanted_58 m_hand_59 h_m_wanted_58 h_m_hand_59 => ?_)
      refine t_X10_layMoves vZ xT yD xZ aAw (fun m_moves_60 h_m_moves_60 ox61 => ?_)
      refine t_X10_laySeconds xJ vZ yM zE aAR aA1 aAA zQ zT yL xQ yY yK aAW xK yR xT yF zG zI zL (fun m_read_62 m_length_63 m_top_64 m_at_65 m_wrong_66 m_isAsked_67 m_askedFruit_68 m_askedStanding_69 m_askedHook_70 m_askedApron_71 m_handSeconds_72 h_m_read_62 h_m_length_63 h_m_top_64 h_m_at_65 h_m_wrong_66 h_m_isAsked_67 h_m_askedFruit_68 h_m_askedStanding_69 h_m_askedHook_70 h_m_askedApron_71 h_m_handSeconds_72 => ?_)
      have f73 := aAT bQ
      have f74 := aAT bO
      exact ⟨258, tb_X10_sweep_40 bT aG bW qG m_x gR pW qR nG oO pJ qO qQ xJ vZ zQ xU xV aAW xK yR zM xT yF yD xZ zG zI hc0 hc1 hpost _ p0 (-1) (-1) 0 0 bL 0 m_read_62 m_length_63 m_top_64 m_at_65 m_wrong_66 m_isAsked_67 m_askedFruit_68 m_askedStanding_69 m_askedHook_70 m_askedApron_71 m_wanted_58 bM bQ bO sW m_hand_59 m_moves_60 m_handSeconds_72 vK ⟨by omega, by omega⟩ ⟨by omega, by omega⟩ ⟨by omega, by omega⟩ ⟨by omega, by omega⟩ ⟨by omega, by omega⟩ yJ ⟨by omega, by omega⟩ h_m_read_62 h_m_length_63 h_m_top_64 h_m_at_65 h_m_wrong_66 h_m_isAsked_67 h_m_askedFruit_68 h_m_askedStanding_69 h_m_askedHook_70 h_m_askedApron_71 h_m_wanted_58 aAv h_m_hand_59 h_m_moves_60 h_m_handSeconds_72 (by omega)⟩
set_option maxHeartbeats 8000000 in
set_option maxRecDepth 200000 in
theorem ts_X10_dusk_233 {post : Int32 → Int32 → Int32 → Nat → Int32 → Int32 → Int32 → Int32 → Int32 → Int32 → Int32 → Int32 → Int32 → (Nat → Int32) → (Nat → Int32) → Prop} {SB : Int} {K96 : Int32 → Int32 → Int32 → Int32 → Int32 → Int32 → Int32 → Int32 → Nat → Int32 → Int32 → Int32 → Int32 → Int32 → Int32 → Int32 → Int32 → Int32 → (Nat → Int32) → (Nat → Int32) → Prop} {n96 : Int} (bT bW : Int32) (qG m_x gR pW qR nG oO pJ qO qQ : Nat → Int32) (xJ : 0 ≤ Int32.toInt bT ∧ Int32.toInt bT ≤ 16) (zQ : 0 ≤ Int32.toInt bW ∧ Int32.toInt bW ≤ 40) (xU : ∀ k : Nat, k = 17 → -1 ≤ Int32.toInt (qG k) ∧ Int32.toInt (qG k) ≤ SB) (xV : ∀ k : Nat, k = 19 → 0 ≤ Int32.toInt (qG k) ∧ Int32.toInt (qG k) ≤ 9) (aAW : ∀ k : Nat, 0 ≤ Int32.toInt (m_x k) ∧ Int32.toInt (m_x k) ≤ 99) (xK : ∀ k : Nat, 0 ≤ Int32.toInt (gR k) ∧ Int32.toInt (gR k) ≤ 99) (yR : ∀ k : Nat, 0 ≤ Int32.toInt (pW k) ∧ Int32.toInt (pW k) ≤ 9) (zM : ∀ k : Nat, 0 ≤ Int32.toInt (qR k) ∧ Int32.toInt (qR k) ≤ 9) (xT : ∀ k : Nat, 0 ≤ Int32.toInt (nG k) ∧ Int32.toInt (nG k) ≤ 99) (yF : ∀ k : Nat, 0 ≤ Int32.toInt (oO k) ∧ Int32.toInt (oO k) ≤ 99) (yD : ∀ k : Nat, k = 4 → 1 ≤ Int32.toInt (pJ k) ∧ Int32.toInt (pJ k) ≤ 30) (xZ : ∀ k : Nat, k = 3 → 0 ≤ Int32.toInt (pJ k) ∧ Int32.toInt (pJ k) ≤ 9) (zG : ∀ k : Nat, -128 ≤ Int32.toInt (qO k) ∧ Int32.toInt (qO k) ≤ 127) (zI : ∀ k : Nat, -128 ≤ Int32.toInt (qQ k) ∧ Int32.toInt (qQ k) ≤ 127) (hc0 : -1 ≤ SB ∧ SB ≤ 7) (hpost : ∀ (r : Int32) (xM : Int32) (xG : Int32) (aAP : Nat) (zS : Int32) (aAz : Int32) (aAm : Int32) (zH : Int32) (aAM : Int32) (zP : Int32) (yO : Int32) (zZ : Int32) (zO : Int32) (aBX : Nat → Int32) (aBR : Nat → Int32), (-2 ≤ Int32.toInt r ∧ Int32.toInt r ≤ 2147483647) → (0 ≤ Int32.toInt xM ∧ Int32.toInt xM ≤ 16) → (0 ≤ Int32.toInt xG ∧ Int32.toInt xG ≤ 0) → (aAP = 0 ∨ aAP = 1 ∨ aAP = 2) → (0 ≤ Int32.toInt zS ∧ Int32.toInt zS ≤ 80) → (0 ≤ Int32.toInt aAz ∧ Int32.toInt aAz ≤ 80) → (0 ≤ Int32.toInt aAm ∧ Int32.toInt aAm ≤ 80) → (-1 ≤ Int32.toInt zH ∧ Int32.toInt zH ≤ 80) → (0 ≤ Int32.toInt aAM ∧ Int32.toInt aAM ≤ 0) → (0 ≤ Int32.toInt zP ∧ Int32.toInt zP ≤ 15) → (0 ≤ Int32.toInt yO ∧ Int32.toInt yO ≤ 7) → (0 ≤ Int32.toInt zZ ∧ Int32.toInt zZ ≤ 1) → (0 ≤ Int32.toInt zO ∧ Int32.toInt zO ≤ 63) → (∀ k : Nat, 0 ≤ Int32.toInt (aBR k) ∧ Int32.toInt (aBR k) ≤ 99) → post r xM xG aAP zS aAz aAm zH aAM zP yO zZ zO aBX aBR) (hK96 : ∀ (x1 : Int32) (x2 : Int32) (x3 : Int32) (x4 : Int32) (x5 : Int32) (x6 : Int32) (bL : Int32) (bY : Int32) (jD : Nat) (m_length : Int32) (oF : Int32) (rP : Int32) (dQ : Int32) (bZ : Int32) (aR : Int32) (aE : Int32) (bI : Int32) (aW : Int32) (sW : Nat → Int32) (oJ : Nat → Int32), (0 ≤ Int32.toInt x1 ∧ Int32.toInt x1 ≤ 300) → (0 ≤ Int32.toInt x2 ∧ Int32.toInt x2 ≤ 65535) → (0 ≤ Int32.toInt x3 ∧ Int32.toInt x3 ≤ 65535) → (0 ≤ Int32.toInt x4 ∧ Int32.toInt x4 ≤ 2147483647) → (0 ≤ Int32.toInt x5 ∧ Int32.toInt x5 ≤ 300) → (0 ≤ Int32.toInt x6 ∧ Int32.toInt x6 ≤ 65535) → (0 ≤ Int32.toInt bL ∧ Int32.toInt bL ≤ 16) → (0 ≤ Int32.toInt bY ∧ Int32.toInt bY ≤ 0) → (jD = 0 ∨ jD = 1 ∨ jD = 2) → (0 ≤ Int32.toInt m_length ∧ Int32.toInt m_length ≤ 80) → (0 ≤ Int32.toInt oF ∧ Int32.toInt oF ≤ 80) → (0 ≤ Int32.toInt rP ∧ Int32.toInt rP ≤ 80) → (-1 ≤ Int32.toInt dQ ∧ Int32.toInt dQ ≤ 80) → (0 ≤ Int32.toInt bZ ∧ Int32.toInt bZ ≤ 0) → (0 ≤ Int32.toInt aR ∧ Int32.toInt aR ≤ 15) → (0 ≤ Int32.toInt aE ∧ Int32.toInt aE ≤ 7) → (0 ≤ Int32.toInt bI ∧ Int32.toInt bI ≤ 1) → (0 ≤ Int32.toInt aW ∧ Int32.toInt aW ≤ 63) → (∀ k : Nat, 0 ≤ Int32.toInt (oJ k) ∧ Int32.toInt (oJ k) ≤ 99) → (Int32.toInt x6 < n96) → K96 x1 x2 x3 x4 x5 x6 bL bY jD m_length oF rP dQ bZ aR aE bI aW sW oJ) (x1 x2 x3 x4 x5 x6 bL bY : Int32) (jD : Nat) (m_length oF rP dQ bZ aR aE bI aW : Int32) (sW oJ : Nat → Int32) (aBK : 0 ≤ Int32.toInt x1 ∧ Int32.toInt x1 ≤ 300) (aBN : 0 ≤ Int32.toInt x2 ∧ Int32.toInt x2 ≤ 65535) (aCH : 0 ≤ Int32.toInt x3 ∧ Int32.toInt x3 ≤ 65535) (aDO : 0 ≤ Int32.toInt x4 ∧ Int32.toInt x4 ≤ 2147483647) (aF7 : 0 ≤ Int32.toInt x5 ∧ Int32.toInt x5 ≤ 300) (h_x6 : 1 ≤ Int32.toInt x6 ∧ Int32.toInt x6 ≤ 65535) (yJ : 0 ≤ Int32.toInt bL ∧ Int32.toInt bL ≤ 16) (yG : 0 ≤ Int32.toInt bY ∧ Int32.toInt bY ≤ 0) (yM : jD = 0 ∨ jD = 1 ∨ jD = 2) (zE : 0 ≤ Int32.toInt m_length ∧ Int32.toInt m_length ≤ 80) (aAR : 0 ≤ Int32.toInt oF ∧ Int32.toInt oF ≤ 80) (aA1 : 0 ≤ Int32.toInt rP ∧ Int32.toInt rP ≤ 80) (aAA : -1 ≤ Int32.toInt dQ ∧ Int32.toInt dQ ≤ 80) (zT : 0 ≤ Int32.toInt bZ ∧ Int32.toInt bZ ≤ 0) (yL : 0 ≤ Int32.toInt aR ∧ Int32.toInt aR ≤ 15) (xQ : 0 ≤ Int32.toInt aE ∧ Int32.toInt aE ≤ 7) (yY : 0 ≤ Int32.toInt bI ∧ Int32.toInt bI ≤ 1) (yK : 0 ≤ Int32.toInt aW ∧ Int32.toInt aW ≤ 63) (zL : ∀ k : Nat, 0 ≤ Int32.toInt (oJ k) ∧ Int32.toInt (oJ k) ≤ 99) (hn96 : Int32.toInt x6 ≤ n96) : ws_X10_dusk_233 post K96 bT bW qG m_x gR pW qR nG oO pJ qO qQ x1 x2 x3 x4 x5 x6 bL bY jD m_length oF rP dQ bZ aR aE bI aW sW oJ := by
  have l0 := aEc
  intro v1 ev1
  have f2 : Int32.toInt (x6 - 1) = Int32.toInt x6 - Int32.toInt (1 : Int32) := aCA _ _ ⟨by omega, by omega⟩
  rw [← ev1] at f2
  intro v3 ev3
  have f4 := aAQ v1 x2 (by omega)
  have f5 := aBx v1 x2 (by omega)
  have hv3 := congrArg Int32.toInt ev3
  have f6 := aAT x4
  exact hK96 x1 x2 x3 x4 x5 v3 bL bY jD m_length oF rP dQ bZ aR aE bI aW sW oJ aBK aBN aCH aDO aF7 ⟨by omega, by omega⟩ yJ yG yM zE aAR aA1 aAA zT yL xQ yY yK zL (by omega)
set_option maxHeartbeats 8000000 in
set_option maxRecDepth 200000 in
theorem ts_X10_dusk_222 {post : Int32 → Int32 → Int32 → Nat → Int32 → Int32 → Int32 → Int32 → Int32 → Int32 → Int32 → Int32 → Int32 → (Nat → Int32) → (Nat → Int32) → Prop} {SB : Int} {K96 : Int32 → Int32 → Int32 → Int32 → Int32 → Int32 → Int32 → Int32 → Nat → Int32 → Int32 → Int32 → Int32 → Int32 → Int32 → Int32 → Int32 → Int32 → (Nat → Int32) → (Nat → Int32) → Prop} {n96 : Int} (bT bW : Int32) (qG m_x gR pW qR nG oO pJ qO qQ : Nat → Int32) (xJ : 0 ≤ Int32.toInt bT ∧ Int32.toInt bT ≤ 16) (zQ : 0 ≤ Int32.toInt bW ∧ Int32.toInt bW ≤ 40) (xU : ∀ k : Nat, k = 17 → -1 ≤ Int32.toInt (qG k) ∧ Int32.toInt (qG k) ≤ SB) (xV : ∀ k : Nat, k = 19 → 0 ≤ Int32.toInt (qG k) ∧ Int32.toInt (qG k) ≤ 9) (aAW : ∀ k : Nat, 0 ≤ Int32.toInt (m_x k) ∧ Int32.toInt (m_x k) ≤ 99) (xK : ∀ k : Nat, 0 ≤ Int32.toInt (gR k) ∧ Int32.toInt (gR k) ≤ 99) (yR : ∀ k : Nat, 0 ≤ Int32.toInt (pW k) ∧ Int32.toInt (pW k) ≤ 9) (zM : ∀ k : Nat, 0 ≤ Int32.toInt (qR k) ∧ Int32.toInt (qR k) ≤ 9) (xT : ∀ k : Nat, 0 ≤ Int32.toInt (nG k) ∧ Int32.toInt (nG k) ≤ 99) (yF : ∀ k : Nat, 0 ≤ Int32.toInt (oO k) ∧ Int32.toInt (oO k) ≤ 99) (yD : ∀ k : Nat, k = 4 → 1 ≤ Int32.toInt (pJ k) ∧ Int32.toInt (pJ k) ≤ 30) (xZ : ∀ k : Nat, k = 3 → 0 ≤ Int32.toInt (pJ k) ∧ Int32.toInt (pJ k) ≤ 9) (zG : ∀ k : Nat, -128 ≤ Int32.toInt (qO k) ∧ Int32.toInt (qO k) ≤ 127) (zI : ∀ k : Nat, -128 ≤ Int32.toInt (qQ k) ∧ Int32.toInt (qQ k) ≤ 127) (hc0 : -1 ≤ SB ∧ SB ≤ 7) (hpost : ∀ (r : Int32) (xM : Int32) (xG : Int32) (aAP : Nat) (zS : Int32) (aAz : Int32) (aAm : Int32) (zH : Int32) (aAM : Int32) (zP : Int32) (yO : Int32) (zZ : Int32) (zO : Int32) (aBX : Nat → Int32) (aBR : Nat → Int32), (-2 ≤ Int32.toInt r ∧ Int32.toInt r ≤ 2147483647) → (0 ≤ Int32.toInt xM ∧ Int32.toInt xM ≤ 16) → (0 ≤ Int32.toInt xG ∧ Int32.toInt xG ≤ 0) → (aAP = 0 ∨ aAP = 1 ∨ aAP = 2) → (0 ≤ Int32.toInt zS ∧ Int32.toInt zS ≤ 80) → (0 ≤ Int32.toInt aAz ∧ Int32.toInt aAz ≤ 80) → (0 ≤ Int32.toInt aAm ∧ Int32.toInt aAm ≤ 80) → (-1 ≤ Int32.toInt zH ∧ Int32.toInt zH ≤ 80) → (0 ≤ Int32.toInt aAM ∧ Int32.toInt aAM ≤ 0) → (0 ≤ Int32.toInt zP ∧ Int32.toInt zP ≤ 15) → (0 ≤ Int32.toInt yO ∧ Int32.toInt yO ≤ 7) → (0 ≤ Int32.toInt zZ ∧ Int32.toInt zZ ≤ 1) → (0 ≤ Int32.toInt zO ∧ Int32.toInt zO ≤ 63) → (∀ k : Nat, 0 ≤ Int32.toInt (aBR k) ∧ Int32.toInt (aBR k) ≤ 99) → post r xM xG aAP zS aAz aAm zH aAM zP yO zZ zO aBX aBR) (hK96 : ∀ (x1 : Int32) (x2 : Int32) (x3 : Int32) (x4 : Int32) (x5 : Int32) (x6 : Int32) (bL : Int32) (bY : Int32) (jD : Nat) (m_length : Int32) (oF : Int32) (rP : Int32) (dQ : Int32) (bZ : Int32) (aR : Int32) (aE : Int32) (bI : Int32) (aW : Int32) (sW : Nat → Int32) (oJ : Nat → Int32), (0 ≤ Int32.toInt x1 ∧ Int32.toInt x1 ≤ 300) → (0 ≤ Int32.toInt x2 ∧ Int32.toInt x2 ≤ 65535) → (0 ≤ Int32.toInt x3 ∧ Int32.toInt x3 ≤ 65535) → (0 ≤ Int32.toInt x4 ∧ Int32.toInt x4 ≤ 2147483647) → (0 ≤ Int32.toInt x5 ∧ Int32.toInt x5 ≤ 300) → (0 ≤ Int32.toInt x6 ∧ Int32.toInt x6 ≤ 65535) → (0 ≤ Int32.toInt bL ∧ Int32.toInt bL ≤ 16) → (0 ≤ Int32.toInt bY ∧ Int32.toInt bY ≤ 0) → (jD = 0 ∨ jD = 1 ∨ jD = 2) → (0 ≤ Int32.toInt m_length ∧ Int32.toInt m_length ≤ 80) → (0 ≤ Int32.toInt oF ∧ Int32.toInt oF ≤ 80) → (0 ≤ Int32.toInt rP ∧ Int32.toInt rP ≤ 80) → (-1 ≤ Int32.toInt dQ ∧ Int32.toInt dQ ≤ 80) → (0 ≤ Int32.toInt bZ ∧ Int32.toInt bZ ≤ 0) → (0 ≤ Int32.toInt aR ∧ Int32.toInt aR ≤ 15) → (0 ≤ Int32.toInt aE ∧ Int32.toInt aE ≤ 7) → (0 ≤ Int32.toInt bI ∧ Int32.toInt bI ≤ 1) → (0 ≤ Int32.toInt aW ∧ Int32.toInt aW ≤ 63) → (∀ k : Nat, 0 ≤ Int32.toInt (oJ k) ∧ Int32.toInt (oJ k) ≤ 99) → (Int32.toInt x6 < n96) → K96 x1 x2 x3 x4 x5 x6 bL bY jD m_length oF rP dQ bZ aR aE bI aW sW oJ) (x1 x2 x6 x7 x8 bL bY : Int32) (jD : Nat) (m_length oF rP dQ bZ aR aE bI aW : Int32) (sW oJ : Nat → Int32) (aBK : 0 ≤ Int32.toInt x1 ∧ Int32.toInt x1 ≤ 300) (aBN : 0 ≤ Int32.toInt x2 ∧ Int32.toInt x2 ≤ 65535) (h_x6 : 1 ≤ Int32.toInt x6 ∧ Int32.toInt x6 ≤ 65535) (h_x7 : 0 ≤ Int32.toInt x7 ∧ Int32.toInt x7 ≤ 300) (h_x8 : 0 ≤ Int32.toInt x8 ∧ Int32.toInt x8 ≤ 2147483647) (yJ : 0 ≤ Int32.toInt bL ∧ Int32.toInt bL ≤ 16) (yG : 0 ≤ Int32.toInt bY ∧ Int32.toInt bY ≤ 0) (yM : jD = 0 ∨ jD = 1 ∨ jD = 2) (zE : 0 ≤ Int32.toInt m_length ∧ Int32.toInt m_length ≤ 80) (aAR : 0 ≤ Int32.toInt oF ∧ Int32.toInt oF ≤ 80) (aA1 : 0 ≤ Int32.toInt rP ∧ Int32.toInt rP ≤ 80) (aAA : -1 ≤ Int32.toInt dQ ∧ Int32.toInt dQ ≤ 80) (zT : 0 ≤ Int32.toInt bZ ∧ Int32.toInt bZ ≤ 0) (yL : 0 ≤ Int32.toInt aR ∧ Int32.toInt aR ≤ 15) (xQ : 0 ≤ Int32.toInt aE ∧ Int32.toInt aE ≤ 7) (yY : 0 ≤ Int32.toInt bI ∧ Int32.toInt bI ≤ 1) (yK : 0 ≤ Int32.toInt aW ∧ Int32.toInt aW ≤ 63) (zL : ∀ k : Nat, 0 ≤ Int32.toInt (oJ k) ∧ Int32.toInt (oJ k) ≤ 99) (hn96 : Int32.toInt x6 ≤ n96) : ws_X10_dusk_222 post K96 bT bW qG m_x gR pW qR nG oO pJ qO qQ x1 x2 x6 x7 x8 bL bY jD m_length oF rP dQ bZ aR aE bI aW sW oJ := by
  have f7 := aAT x8
  exact ts_X10_dusk_233 bT bW qG m_x gR pW qR nG oO pJ qO qQ xJ zQ xU xV aAW xK yR zM xT yF yD xZ zG zI hc0 hpost hK96 x1 x2 x6 x8 x7 x6 bL bY jD m_length oF rP dQ bZ aR aE bI aW sW oJ aBK aBN ⟨by omega, by omega⟩ h_x8 h_x7 h_x6 yJ yG yM zE aAR aA1 aAA zT yL xQ yY yK zL hn96
set_option maxHeartbeats 8000000 in
set_option maxRecDepth 200000 in
theorem ts_X10_dusk_201 {post : Int32 → Int32 → Int32 → Nat → Int32 → Int32 → Int32 → Int32 → Int32 → Int32 → Int32 → Int32 → Int32 → (Nat → Int32) → (Nat → Int32) → Prop} {SB : Int} {K96 : Int32 → Int32 → Int32 → Int32 → Int32 → Int32 → Int32 → Int32 → Nat → Int32 → Int32 → Int32 → Int32 → Int32 → Int32 → Int32 → Int32 → Int32 → (Nat → Int32) → (Nat → Int32) → Prop} {n96 : Int} (bT bW : Int32) (qG m_x gR pW qR nG oO pJ qO qQ : Nat → Int32) (xJ : 0 ≤ Int32.toInt bT ∧ Int32.toInt bT ≤ 16) (zQ : 0 ≤ Int32.toInt bW ∧ Int32.toInt bW ≤ 40) (xU : ∀ k : Nat, k = 17 → -1 ≤ Int32.toInt (qG k) ∧ Int32.toInt (qG k) ≤ SB) (xV : ∀ k : Nat, k = 19 → 0 ≤ Int32.toInt (qG k) ∧ Int32.toInt (qG k) ≤ 9) (aAW : ∀ k : Nat, 0 ≤ Int32.toInt (m_x k) ∧ Int32.toInt (m_x k) ≤ 99) (xK : ∀ k : Nat, 0 ≤ Int32.toInt (gR k) ∧ Int32.toInt (gR k) ≤ 99) (yR : ∀ k : Nat, 0 ≤ Int32.toInt (pW k) ∧ Int32.toInt (pW k) ≤ 9) (zM : ∀ k : Nat, 0 ≤ Int32.toInt (qR k) ∧ Int32.toInt (qR k) ≤ 9) (xT : ∀ k : Nat, 0 ≤ Int32.toInt (nG k) ∧ Int32.toInt (nG k) ≤ 99) (yF : ∀ k : Nat, 0 ≤ Int32.toInt (oO k) ∧ Int32.toInt (oO k) ≤ 99) (yD : ∀ k : Nat, k = 4 → 1 ≤ Int32.toInt (pJ k) ∧ Int32.toInt (pJ k) ≤ 30) (xZ : ∀ k : Nat, k = 3 → 0 ≤ Int32.toInt (pJ k) ∧ Int32.toInt (pJ k) ≤ 9) (zG : ∀ k : Nat, -128 ≤ Int32.toInt (qO k) ∧ Int32.toInt (qO k) ≤ 127) (zI : ∀ k : Nat, -128 ≤ Int32.toInt (qQ k) ∧ Int32.toInt (qQ k) ≤ 127) (hc0 : -1 ≤ SB ∧ SB ≤ 7) (hpost : ∀ (r : Int32) (xM : Int32) (xG : Int32) (aAP : Nat) (zS : Int32) (aAz : Int32) (aAm : Int32) (zH : Int32) (aAM : Int32) (zP : Int32) (yO : Int32) (zZ : Int32) (zO : Int32) (aBX : Nat → Int32) (aBR : Nat → Int32), (-2 ≤ Int32.toInt r ∧ Int32.toInt r ≤ 2147483647) → (0 ≤ Int32.toInt xM ∧ Int32.toInt xM ≤ 16) → (0 ≤ Int32.toInt xG ∧ Int32.toInt xG ≤ 0) → (aAP = 0 ∨ aAP = 1 ∨ aAP = 2) → (0 ≤ Int32.toInt zS ∧ Int32.toInt zS ≤ 80) → (0 ≤ Int32.toInt aAz ∧ Int32.toInt aAz ≤ 80) → (0 ≤ Int32.toInt aAm ∧ Int32.toInt aAm ≤ 80) → (-1 ≤ Int32.toInt zH ∧ Int32.toInt zH ≤ 80) → (0 ≤ Int32.toInt aAM ∧ Int32.toInt aAM ≤ 0) → (0 ≤ Int32.toInt zP ∧ Int32.toInt zP ≤ 15) → (0 ≤ Int32.toInt yO ∧ Int32.toInt yO ≤ 7) → (0 ≤ Int32.toInt zZ ∧ Int32.toInt zZ ≤ 1) → (0 ≤ Int32.toInt zO ∧ Int32.toInt zO ≤ 63) → (∀ k : Nat, 0 ≤ Int32.toInt (aBR k) ∧ Int32.toInt (aBR k) ≤ 99) → post r xM xG aAP zS aAz aAm zH aAM zP yO zZ zO aBX aBR) (hK96 : ∀ (x1 : Int32) (x2 : Int32) (x3 : Int32) (x4 : Int32) (x5 : Int32) (x6 : Int32) (bL : Int32) (bY : Int32) (jD : Nat) (m_length : Int32) (oF : Int32) (rP : Int32) (dQ : Int32) (bZ : Int32) (aR : Int32) (aE : Int32) (bI : Int32) (aW : Int32) (sW : Nat → Int32) (oJ : Nat → Int32), (0 ≤ Int32.toInt x1 ∧ Int32.toInt x1 ≤ 300) → (0 ≤ Int32.toInt x2 ∧ Int32.toInt x2 ≤ 65535) → (0 ≤ Int32.toInt x3 ∧ Int32.toInt x3 ≤ 65535) → (0 ≤ Int32.toInt x4 ∧ Int32.toInt x4 ≤ 2147483647) → (0 ≤ Int32.toInt x5 ∧ Int32.toInt x5 ≤ 300) → (0 ≤ Int32.toInt x6 ∧ Int32.toInt x6 ≤ 65535) → (0 ≤ Int32.toInt bL ∧ Int32.toInt bL ≤ 16) → (0 ≤ Int32.toInt bY ∧ Int32.toInt bY ≤ 0) → (jD = 0 ∨ jD = 1 ∨ jD = 2) → (0 ≤ Int32.toInt m_length ∧ Int32.toInt m_length ≤ 80) → (0 ≤ Int32.toInt oF ∧ Int32.toInt oF ≤ 80) → (0 ≤ Int32.toInt rP ∧ Int32.toInt rP ≤ 80) → (-1 ≤ Int32.toInt dQ ∧ Int32.toInt dQ ≤ 80) → (0 ≤ Int32.toInt bZ ∧ Int32.toInt bZ ≤ 0) → (0 ≤ Int32.toInt aR ∧ Int32.toInt aR ≤ 15) → (0 ≤ Int32.toInt aE ∧ Int32.toInt aE ≤ 7) → (0 ≤ Int32.toInt bI ∧ Int32.toInt bI ≤ 1) → (0 ≤ Int32.toInt aW ∧ Int32.toInt aW ≤ 63) → (∀ k : Nat, 0 ≤ Int32.toInt (oJ k) ∧ Int32.toInt (oJ k) ≤ 99) → (Int32.toInt x6 < n96) → K96 x1 x2 x3 x4 x5 x6 bL bY jD m_length oF rP dQ bZ aR aE bI aW sW oJ) (x1 x2 x3 x4 x5 x6 x7 x8 bL bY : Int32) (jD : Nat) (m_length oF rP dQ bZ aR aE bI aW : Int32) (sW oJ : Nat → Int32) (aBK : 0 ≤ Int32.toInt x1 ∧ Int32.toInt x1 ≤ 300) (aBN : 0 ≤ Int32.toInt x2 ∧ Int32.toInt x2 ≤ 65535) (aCH : 0 ≤ Int32.toInt x3 ∧ Int32.toInt x3 ≤ 65535) (aDO : 0 ≤ Int32.toInt x4 ∧ Int32.toInt x4 ≤ 2147483647) (aF7 : 0 ≤ Int32.toInt x5 ∧ Int32.toInt x5 ≤ 300) (h_x6 : 1 ≤ Int32.toInt x6 ∧ Int32.toInt x6 ≤ 65535) (h_x7 : 0 ≤ Int32.toInt x7 ∧ Int32.toInt x7 ≤ 300) (h_x8 : 0 ≤ Int32.toInt x8 ∧ Int32.toInt x8 ≤ 2147483647) (yJ : 0 ≤ Int32.toInt bL ∧ Int32.toInt bL ≤ 16) (yG : 0 ≤ Int32.toInt bY ∧ Int32.toInt bY ≤ 0) (yM : jD = 0 ∨ jD = 1 ∨ jD = 2) (zE : 0 ≤ Int32.toInt m_length ∧ Int32.toInt m_length ≤ 80) (aAR : 0 ≤ Int32.toInt oF ∧ Int32.toInt oF ≤ 80) (aA1 : 0 ≤ Int32.toInt rP ∧ Int32.toInt rP ≤ 80) (aAA : -1 ≤ Int32.toInt dQ ∧ Int32.toInt dQ ≤ 80) (zT : 0 ≤ Int32.toInt bZ ∧ Int32.toInt bZ ≤ 0) (yL : 0 ≤ Int32.toInt aR ∧ Int32.toInt aR ≤ 15) (xQ : 0 ≤ Int32.toInt aE ∧ Int32.toInt aE ≤ 7) (yY : 0 ≤ Int32.toInt bI ∧ Int32.toInt bI ≤ 1) (yK : 0 ≤ Int32.toInt aW ∧ Int32.toInt aW ≤ 63) (zL : ∀ k : Nat, 0 ≤ Int32.toInt (oJ k) ∧ Int32.toInt (oJ k) ≤ 99) (hn96 : Int32.toInt x6 ≤ n96) : ws_X10_dusk_201 post K96 bT bW qG m_x gR pW qR nG oO pJ qO qQ x1 x2 x3 x4 x5 x6 x7 x8 bL bY jD m_length oF rP dQ bZ aR aE bI aW sW oJ := by
  have l0 := aE0
  have f9 := aAT x8
  have f10 := aAT x4
  refine And.intro (fun c8 => ?_) (fun c8 => ?_)
  · skip
    have c8 := mt (zJ _ _).mpr c8
    exact ts_X10_dusk_222 bT bW qG m_x gR pW qR nG oO pJ qO qQ xJ zQ xU xV aAW xK yR zM xT yF yD xZ zG zI hc0 hpost hK96 x1 x2 x6 x7 x8 bL bY jD m_length oF rP dQ bZ aR aE bI aW sW oJ aBK aBN h_x6 h_x7 h_x8 yJ yG yM zE aAR aA1 aAA zT yL xQ yY yK zL hn96
  · skip
    have c8 := (zJ _ _).mp c8
    refine And.intro (fun c11 => ?_) (fun c11 => ?_)
    · skip
      have c11 := mt (zJ _ _).mpr c11
      exact ts_X10_dusk_222 bT bW qG m_x gR pW qR nG oO pJ qO qQ xJ zQ xU xV aAW xK yR zM xT yF yD xZ zG zI hc0 hpost hK96 x1 x2 x6 x7 x8 bL bY jD m_length oF rP dQ bZ aR aE bI aW sW oJ aBK aBN h_x6 h_x7 h_x8 yJ yG yM zE aAR aA1 aAA zT yL xQ yY yK zL hn96
    · skip
      have c11 := (zJ _ _).mp c11
      refine And.intro (fun c12 => ?_) (fun c12 => ?_)
      · skip
        have c12 := mt (zJ _ _).mpr c12
        exact ts_X10_dusk_222 bT bW qG m_x gR pW qR nG oO pJ qO qQ xJ zQ xU xV aAW xK yR zM xT yF yD xZ zG zI hc0 hpost hK96 x1 x2 x6 x7 x8 bL bY jD m_length oF rP dQ bZ aR aE bI aW sW oJ aBK aBN h_x6 h_x7 h_x8 yJ yG yM zE aAR aA1 aAA zT yL xQ yY yK zL hn96
      · skip
        have c12 := (zJ _ _).mp c12
        exact ts_X10_dusk_233 bT bW qG m_x gR pW qR nG oO pJ qO qQ xJ zQ xU xV aAW xK yR zM xT yF yD xZ zG zI hc0 hpost hK96 x1 x2 x3 x4 x5 x6 bL bY jD m_length oF rP dQ bZ aR aE bI aW sW oJ aBK aBN aCH aDO aF7 h_x6 yJ yG yM zE aAR aA1 aAA zT yL xQ yY yK zL hn96
set_option maxHeartbeats 8000000 in
set_option maxRecDepth 200000 in
theorem ts_X10_dusk_171 {post : Int32 → Int32 → Int32 → Nat → Int32 → Int32 → Int32 → Int32 → Int32 → Int32 → Int32 → Int32 → Int32 → (Nat → Int32) → (Nat → Int32) → Prop} {SB : Int} {K96 : Int32 → Int32 → Int32 → Int32 → Int32 → Int32 → Int32 → Int32 → Nat → Int32 → Int32 → Int32 → Int32 → Int32 → Int32 → Int32 → Int32 → Int32 → (Nat → Int32) → (Nat → Int32) → Prop} {n96 : Int} (bT bW : Int32) (qG m_x gR pW qR nG oO pJ qO qQ : Nat → Int32) (xJ : 0 ≤ Int32.toInt bT ∧ Int32.toInt bT ≤ 16) (zQ : 0 ≤ Int32.toInt bW ∧ Int32.toInt bW ≤ 40) (xU : ∀ k : Nat, k = 17 → -1 ≤ Int32.toInt (qG k) ∧ Int32.toInt (qG k) ≤ SB) (xV : ∀ k : Nat, k = 19 → 0 ≤ Int32.toInt (qG k) ∧ Int32.toInt (qG k) ≤ 9) (aAW : ∀ k : Nat, 0 ≤ Int32.toInt (m_x k) ∧ Int32.toInt (m_x k) ≤ 99) (xK : ∀ k : Nat, 0 ≤ Int32.toInt (gR k) ∧ Int32.toInt (gR k) ≤ 99) (yR : ∀ k : Nat, 0 ≤ Int32.toInt (pW k) ∧ Int32.toInt (pW k) ≤ 9) (zM : ∀ k : Nat, 0 ≤ Int32.toInt (qR k) ∧ Int32.toInt (qR k) ≤ 9) (xT : ∀ k : Nat, 0 ≤ Int32.toInt (nG k) ∧ Int32.toInt (nG k) ≤ 99) (yF : ∀ k : Nat, 0 ≤ Int32.toInt (oO k) ∧ Int32.toInt (oO k) ≤ 99) (yD : ∀ k : Nat, k = 4 → 1 ≤ Int32.toInt (pJ k) ∧ Int32.toInt (pJ k) ≤ 30) (xZ : ∀ k : Nat, k = 3 → 0 ≤ Int32.toInt (pJ k) ∧ Int32.toInt (pJ k) ≤ 9) (zG : ∀ k : Nat, -128 ≤ Int32.toInt (qO k) ∧ Int32.toInt (qO k) ≤ 127) (zI : ∀ k : Nat, -128 ≤ Int32.toInt (qQ k) ∧ Int32.toInt (qQ k) ≤ 127) (hc0 : -1 ≤ SB ∧ SB ≤ 7) (hpost : ∀ (r : Int32) (xM : Int32) (xG : Int32) (aAP : Nat) (zS : Int32) (aAz : Int32) (aAm : Int32) (zH : Int32) (aAM : Int32) (zP : Int32) (yO : Int32) (zZ : Int32) (zO : Int32) (aBX : Nat → Int32) (aBR : Nat → Int32), (-2 ≤ Int32.toInt r ∧ Int32.toInt r ≤ 2147483647) → (0 ≤ Int32.toInt xM ∧ Int32.toInt xM ≤ 16) → (0 ≤ Int32.toInt xG ∧ Int32.toInt xG ≤ 0) → (aAP = 0 ∨ aAP = 1 ∨ aAP = 2) → (0 ≤ Int32.toInt zS ∧ Int32.toInt zS ≤ 80) → (0 ≤ Int32.toInt aAz ∧ Int32.toInt aAz ≤ 80) → (0 ≤ Int32.toInt aAm ∧ Int32.toInt aAm ≤ 80) → (-1 ≤ Int32.toInt zH ∧ Int32.toInt zH ≤ 80) → (0 ≤ Int32.toInt aAM ∧ Int32.toInt aAM ≤ 0) → (0 ≤ Int32.toInt zP ∧ Int32.toInt zP ≤ 15) → (0 ≤ Int32.toInt yO ∧ Int32.toInt yO ≤ 7) → (0 ≤ Int32.toInt zZ ∧ Int32.toInt zZ ≤ 1) → (0 ≤ Int32.toInt zO ∧ Int32.toInt zO ≤ 63) → (∀ k : Nat, 0 ≤ Int32.toInt (aBR k) ∧ Int32.toInt (aBR k) ≤ 99) → post r xM xG aAP zS aAz aAm zH aAM zP yO zZ zO aBX aBR) (hK96 : ∀ (x1 : Int32) (x2 : Int32) (x3 : Int32) (x4 : Int32) (x5 : Int32) (x6 : Int32) (bL : Int32) (bY : Int32) (jD : Nat) (m_length : Int32) (oF : Int32) (rP : Int32) (dQ : Int32) (bZ : Int32) (aR : Int32) (aE : Int32) (bI : Int32) (aW : Int32) (sW : Nat → Int32) (oJ : Nat → Int32), (0 ≤ Int32.toInt x1 ∧ Int32.toInt x1 ≤ 300) → (0 ≤ Int32.toInt x2 ∧ Int32.toInt x2 ≤ 65535) → (0 ≤ Int32.toInt x3 ∧ Int32.toInt x3 ≤ 65535) → (0 ≤ Int32.toInt x4 ∧ Int32.toInt x4 ≤ 2147483647) → (0 ≤ Int32.toInt x5 ∧ Int32.toInt x5 ≤ 300) → (0 ≤ Int32.toInt x6 ∧ Int32.toInt x6 ≤ 65535) → (0 ≤ Int32.toInt bL ∧ Int32.toInt bL ≤ 16) → (0 ≤ Int32.toInt bY ∧ Int32.toInt bY ≤ 0) → (jD = 0 ∨ jD = 1 ∨ jD = 2) → (0 ≤ Int32.toInt m_length ∧ Int32.toInt m_length ≤ 80) → (0 ≤ Int32.toInt oF ∧ Int32.toInt oF ≤ 80) → (0 ≤ Int32.toInt rP ∧ Int32.toInt rP ≤ 80) → (-1 ≤ Int32.toInt dQ ∧ Int32.toInt dQ ≤ 80) → (0 ≤ Int32.toInt bZ ∧ Int32.toInt bZ ≤ 0) → (0 ≤ Int32.toInt aR ∧ Int32.toInt aR ≤ 15) → (0 ≤ Int32.toInt aE ∧ Int32.toInt aE ≤ 7) → (0 ≤ Int32.toInt bI ∧ Int32.toInt bI ≤ 1) → (0 ≤ Int32.toInt aW ∧ Int32.toInt aW ≤ 63) → (∀ k : Nat, 0 ≤ Int32.toInt (oJ k) ∧ Int32.toInt (oJ k) ≤ 99) → (Int32.toInt x6 < n96) → K96 x1 x2 x3 x4 x5 x6 bL bY jD m_length oF rP dQ bZ aR aE bI aW sW oJ) (x1 x2 x3 x4 x5 x6 x7 x8 bL bY : Int32) (jD : Nat) (m_length oF rP dQ bZ aR aE bI aW : Int32) (sW oJ : Nat → Int32) (aBK : 0 ≤ Int32.toInt x1 ∧ Int32.toInt x1 ≤ 300) (aBN : 0 ≤ Int32.toInt x2 ∧ Int32.toInt x2 ≤ 65535) (aCH : 0 ≤ Int32.toInt x3 ∧ Int32.toInt x3 ≤ 65535) (aDO : 0 ≤ Int32.toInt x4 ∧ Int32.toInt x4 ≤ 2147483647) (aF7 : 0 ≤ Int32.toInt x5 ∧ Int32.toInt x5 ≤ 300) (h_x6 : 1 ≤ Int32.toInt x6 ∧ Int32.toInt x6 ≤ 65535) (h_x7 : 0 ≤ Int32.toInt x7 ∧ Int32.toInt x7 ≤ 511) (yJ : 0 ≤ Int32.toInt bL ∧ Int32.toInt bL ≤ 16) (yG : 0 ≤ Int32.toInt bY ∧ Int32.toInt bY ≤ 0) (yM : jD = 0 ∨ jD = 1 ∨ jD = 2) (zE : 0 ≤ Int32.toInt m_length ∧ Int32.toInt m_length ≤ 80) (aAR : 0 ≤ Int32.toInt oF ∧ Int32.toInt oF ≤ 80) (aA1 : 0 ≤ Int32.toInt rP ∧ Int32.toInt rP ≤ 80) (aAA : -1 ≤ Int32.toInt dQ ∧ Int32.toInt dQ ≤ 80) (zT : 0 ≤ Int32.toInt bZ ∧ Int32.toInt bZ ≤ 0) (yL : 0 ≤ Int32.toInt aR ∧ Int32.toInt aR ≤ 15) (xQ : 0 ≤ Int32.toInt aE ∧ Int32.toInt aE ≤ 7) (yY : 0 ≤ Int32.toInt bI ∧ Int32.toInt bI ≤ 1) (yK : 0 ≤ Int32.toInt aW ∧ Int32.toInt aW ≤ 63) (zL : ∀ k : Nat, 0 ≤ Int32.toInt (oJ k) ∧ Int32.toInt (oJ k) ≤ 99) (hn96 : Int32.toInt x6 ≤ n96) : ws_X10_dusk_171 post K96 bT bW qG m_x gR pW qR nG oO pJ qO qQ x1 x2 x3 x4 x5 x6 x7 x8 bL bY jD m_length oF rP dQ bZ aR aE bI aW sW oJ := by
  refine And.intro (fun c13 => ?_) (fun c13 => ?_)
  · skip
    have c13 := (aAd _ _).mp c13
    have f14 := aAT x4
    exact ts_X10_dusk_233 bT bW qG m_x gR pW qR nG oO pJ qO qQ xJ zQ xU xV aAW xK yR zM xT yF yD xZ zG zI hc0 hpost hK96 x1 x2 x3 x4 x5 x6 bL bY jD m_length oF rP dQ bZ aR aE bI aW sW oJ aBK aBN aCH aDO aF7 h_x6 yJ yG yM zE aAR aA1 aAA zT yL xQ yY yK zL hn96
  · skip
    have c13 := mt (aAd _ _).mpr c13
    have f16 := aAT x8
    have f17 := aAT x4
    refine And.intro (fun c15 => ?_) (fun c15 => ?_)
    · skip
      have c15 := (aAd _ _).mp c15
      exact ts_X10_dusk_233 bT bW qG m_x gR pW qR nG oO pJ qO qQ xJ zQ xU xV aAW xK yR zM xT yF yD xZ zG zI hc0 hpost hK96 x1 x2 x3 x4 x5 x6 bL bY jD m_length oF rP dQ bZ aR aE bI aW sW oJ aBK aBN aCH aDO aF7 h_x6 yJ yG yM zE aAR aA1 aAA zT yL xQ yY yK zL hn96
    · skip
      have c15 := mt (aAd _ _).mpr c15
      refine And.intro (fun c18 => ?_) (fun c18 => ?_)
      · skip
        have c18 := mt (zJ _ _).mpr c18
        exact ts_X10_dusk_201 bT bW qG m_x gR pW qR nG oO pJ qO qQ xJ zQ xU xV aAW xK yR zM xT yF yD xZ zG zI hc0 hpost hK96 x1 x2 x3 x4 x5 x6 x7 x8 bL bY jD m_length oF rP dQ bZ aR aE bI aW sW oJ aBK aBN aCH aDO aF7 h_x6 ⟨by omega, by omega⟩ ⟨by omega, by omega⟩ yJ yG yM zE aAR aA1 aAA zT yL xQ yY yK zL hn96
      · skip
        have c18 := (zJ _ _).mp c18
        refine And.intro (fun c19 => ?_) (fun c19 => ?_)
        · skip
          have c19 := (aAO _ _).mp c19
          exact ts_X10_dusk_201 bT bW qG m_x gR pW qR nG oO pJ qO qQ xJ zQ xU xV aAW xK yR zM xT yF yD xZ zG zI hc0 hpost hK96 x1 x2 x3 x4 x5 x6 x7 x8 bL bY jD m_length oF rP dQ bZ aR aE bI aW sW oJ aBK aBN aCH aDO aF7 h_x6 ⟨by omega, by omega⟩ ⟨by omega, by omega⟩ yJ yG yM zE aAR aA1 aAA zT yL xQ yY yK zL hn96
        · skip
          have c19 := mt (aAO _ _).mpr c19
          exact ts_X10_dusk_233 bT bW qG m_x gR pW qR nG oO pJ qO qQ xJ zQ xU xV aAW xK yR zM xT yF yD xZ zG zI hc0 hpost hK96 x1 x2 x3 x4 x5 x6 bL bY jD m_length oF rP dQ bZ aR aE bI aW sW oJ aBK aBN aCH aDO aF7 h_x6 yJ yG yM zE aAR aA1 aAA zT yL xQ yY yK zL hn96
set_option maxHeartbeats 8000000 in
set_option maxRecDepth 200000 in
theorem ts_X10_dusk_111 {post : Int32 → Int32 → Int32 → Nat → Int32 → Int32 → Int32 → Int32 → Int32 → Int32 → Int32 → Int32 → Int32 → (Nat → Int32) → (Nat → Int32) → Prop} {SB : Int} {K96 : Int32 → Int32 → Int32 → Int32 → Int32 → Int32 → Int32 → Int32 → Nat → Int32 → Int32 → Int32 → Int32 → Int32 → Int32 → Int32 → Int32 → Int32 → (Nat → Int32) → (Nat → Int32) → Prop} {next : Int32 → Int32 → Int32 → Int32 → Int32 → Int32 → Int32 → Int32 → Int32 → Int32 → Int32 → Nat → Int32 → Int32 → Int32 → Int32 → Int32 → Int32 → Int32 → Int32 → Int32 → (Nat → Int32) → (Nat → Int32) → Prop} {n111 n96 : Int} (bT bW : Int32) (qG m_x gR pW qR nG oO pJ qO qQ : Nat → Int32) (xJ : 0 ≤ Int32.toInt bT ∧ Int32.toInt bT ≤ 16) (zQ : 0 ≤ Int32.toInt bW ∧ Int32.toInt bW ≤ 40) (xU : ∀ k : Nat, k = 17 → -1 ≤ Int32.toInt (qG k) ∧ Int32.toInt (qG k) ≤ SB) (xV : ∀ k : Nat, k = 19 → 0 ≤ Int32.toInt (qG k) ∧ Int32.toInt (qG k) ≤ 9) (aAW : ∀ k : Nat, 0 ≤ Int32.toInt (m_x k) ∧ Int32.toInt (m_x k) ≤ 99) (xK : ∀ k : Nat, 0 ≤ Int32.toInt (gR k) ∧ Int32.toInt (gR k) ≤ 99) (yR : ∀ k : Nat, 0 ≤ Int32.toInt (pW k) ∧ Int32.toInt (pW k) ≤ 9) (zM : ∀ k : Nat, 0 ≤ Int32.toInt (qR k) ∧ Int32.toInt (qR k) ≤ 9) (xT : ∀ k : Nat, 0 ≤ Int32.toInt (nG k) ∧ Int32.toInt (nG k) ≤ 99) (yF : ∀ k : Nat, 0 ≤ Int32.toInt (oO k) ∧ Int32.toInt (oO k) ≤ 99) (yD : ∀ k : Nat, k = 4 → 1 ≤ Int32.toInt (pJ k) ∧ Int32.toInt (pJ k) ≤ 30) (xZ : ∀ k : Nat, k = 3 → 0 ≤ Int32.toInt (pJ k) ∧ Int32.toInt (pJ k) ≤ 9) (zG : ∀ k : Nat, -128 ≤ Int32.toInt (qO k) ∧ Int32.toInt (qO k) ≤ 127) (zI : ∀ k : Nat, -128 ≤ Int32.toInt (qQ k) ∧ Int32.toInt (qQ k) ≤ 127) (hc0 : -1 ≤ SB ∧ SB ≤ 7) (hpost : ∀ (r : Int32) (xM : Int32) (xG : Int32) (aAP : Nat) (zS : Int32) (aAz : Int32) (aAm : Int32) (zH : Int32) (aAM : Int32) (zP : Int32) (yO : Int32) (zZ : Int32) (zO : Int32) (aBX : Nat → Int32) (aBR : Nat → Int32), (-2 ≤ Int32.toInt r ∧ Int32.toInt r ≤ 2147483647) → (0 ≤ Int32.toInt xM ∧ Int32.toInt xM ≤ 16) → (0 ≤ Int32.toInt xG ∧ Int32.toInt xG ≤ 0) → (aAP = 0 ∨ aAP = 1 ∨ aAP = 2) → (0 ≤ Int32.toInt zS ∧ Int32.toInt zS ≤ 80) → (0 ≤ Int32.toInt aAz ∧ Int32.toInt aAz ≤ 80) → (0 ≤ Int32.toInt aAm ∧ Int32.toInt aAm ≤ 80) → (-1 ≤ Int32.toInt zH ∧ Int32.toInt zH ≤ 80) → (0 ≤ Int32.toInt aAM ∧ Int32.toInt aAM ≤ 0) → (0 ≤ Int32.toInt zP ∧ Int32.toInt zP ≤ 15) → (0 ≤ Int32.toInt yO ∧ Int32.toInt yO ≤ 7) → (0 ≤ Int32.toInt zZ ∧ Int32.toInt zZ ≤ 1) → (0 ≤ Int32.toInt zO ∧ Int32.toInt zO ≤ 63) → (∀ k : Nat, 0 ≤ Int32.toInt (aBR k) ∧ Int32.toInt (aBR k) ≤ 99) → post r xM xG aAP zS aAz aAm zH aAM zP yO zZ zO aBX aBR) (hK96 : ∀ (x1 : Int32) (x2 : Int32) (x3 : Int32) (x4 : Int32) (x5 : Int32) (x6 : Int32) (bL : Int32) (bY : Int32) (jD : Nat) (m_length : Int32) (oF : Int32) (rP : Int32) (dQ : Int32) (bZ : Int32) (aR : Int32) (aE : Int32) (bI : Int32) (aW : Int32) (sW : Nat → Int32) (oJ : Nat → Int32), (0 ≤ Int32.toInt x1 ∧ Int32.toInt x1 ≤ 300) → (0 ≤ Int32.toInt x2 ∧ Int32.toInt x2 ≤ 65535) → (0 ≤ Int32.toInt x3 ∧ Int32.toInt x3 ≤ 65535) → (0 ≤ Int32.toInt x4 ∧ Int32.toInt x4 ≤ 2147483647) → (0 ≤ Int32.toInt x5 ∧ Int32.toInt x5 ≤ 300) → (0 ≤ Int32.toInt x6 ∧ Int32.toInt x6 ≤ 65535) → (0 ≤ Int32.toInt bL ∧ Int32.toInt bL ≤ 16) → (0 ≤ Int32.toInt bY ∧ Int32.toInt bY ≤ 0) → (jD = 0 ∨ jD = 1 ∨ jD = 2) → (0 ≤ Int32.toInt m_length ∧ Int32.toInt m_length ≤ 80) → (0 ≤ Int32.toInt oF ∧ Int32.toInt oF ≤ 80) → (0 ≤ Int32.toInt rP ∧ Int32.toInt rP ≤ 80) → (-1 ≤ Int32.toInt dQ ∧ Int32.toInt dQ ≤ 80) → (0 ≤ Int32.toInt bZ ∧ Int32.toInt bZ ≤ 0) → (0 ≤ Int32.toInt aR ∧ Int32.toInt aR ≤ 15) → (0 ≤ Int32.toInt aE ∧ Int32.toInt aE ≤ 7) → (0 ≤ Int32.toInt bI ∧ Int32.toInt bI ≤ 1) → (0 ≤ Int32.toInt aW ∧ Int32.toInt aW ≤ 63) → (∀ k : Nat, 0 ≤ Int32.toInt (oJ k) ∧ Int32.toInt (oJ k) ≤ 99) → (Int32.toInt x6 < n96) → K96 x1 x2 x3 x4 x5 x6 bL bY jD m_length oF rP dQ bZ aR aE bI aW sW oJ) (hKn : ∀ (x1 : Int32) (x2 : Int32) (x3 : Int32) (x4 : Int32) (x5 : Int32) (x6 : Int32) (x7 : Int32) (x8 : Int32) (x9 : Int32) (bL : Int32) (bY : Int32) (jD : Nat) (m_length : Int32) (oF : Int32) (rP : Int32) (dQ : Int32) (bZ : Int32) (aR : Int32) (aE : Int32) (bI : Int32) (aW : Int32) (sW : Nat → Int32) (oJ : Nat → Int32), (0 ≤ Int32.toInt x1 ∧ Int32.toInt x1 ≤ 300) → (0 ≤ Int32.toInt x2 ∧ Int32.toInt x2 ≤ 65535) → (0 ≤ Int32.toInt x3 ∧ Int32.toInt x3 ≤ 65535) → (0 ≤ Int32.toInt x4 ∧ Int32.toInt x4 ≤ 2147483647) → (0 ≤ Int32.toInt x5 ∧ Int32.toInt x5 ≤ 300) → (1 ≤ Int32.toInt x6 ∧ Int32.toInt x6 ≤ 65535) → (0 ≤ Int32.toInt x7 ∧ Int32.toInt x7 ≤ 511) → (0 ≤ Int32.toInt x9 ∧ Int32.toInt x9 ≤ 65535) → (0 ≤ Int32.toInt bL ∧ Int32.toInt bL ≤ 16) → (0 ≤ Int32.toInt bY ∧ Int32.toInt bY ≤ 0) → (jD = 0 ∨ jD = 1 ∨ jD = 2) → (0 ≤ Int32.toInt m_length ∧ Int32.toInt m_length ≤ 80) → (0 ≤ Int32.toInt oF ∧ Int32.toInt oF ≤ 80) → (0 ≤ Int32.toInt rP ∧ Int32.toInt rP ≤ 80) → (-1 ≤ Int32.toInt dQ ∧ Int32.toInt dQ ≤ 80) → (0 ≤ Int32.toInt bZ ∧ Int32.toInt bZ ≤ 0) → (0 ≤ Int32.toInt aR ∧ Int32.toInt aR ≤ 15) → (0 ≤ Int32.toInt aE ∧ Int32.toInt aE ≤ 7) → (0 ≤ Int32.toInt bI ∧ Int32.toInt bI ≤ 1) → (0 ≤ Int32.toInt aW ∧ Int32.toInt aW ≤ 63) → (∀ k : Nat, 0 ≤ Int32.toInt (oJ k) ∧ Int32.toInt (oJ k) ≤ 99) → (Int32.toInt x6 ≤ n96) → (Int32.toInt x9 < n111) → next x1 x2 x3 x4 x5 x6 x7 x8 x9 bL bY jD m_length oF rP dQ bZ aR aE bI aW sW oJ) (x1 x2 x3 x4 x5 x6 x7 x8 x9 bL bY : Int32) (jD : Nat) (m_length oF rP dQ bZ aR aE bI aW : Int32) (sW oJ : Nat → Int32) (aBK : 0 ≤ Int32.toInt x1 ∧ Int32.toInt x1 ≤ 300) (aBN : 0 ≤ Int32.toInt x2 ∧ Int32.toInt x2 ≤ 65535) (aCH : 0 ≤ Int32.toInt x3 ∧ Int32.toInt x3 ≤ 65535) (aDO : 0 ≤ Int32.toInt x4 ∧ Int32.toInt x4 ≤ 2147483647) (aF7 : 0 ≤ Int32.toInt x5 ∧ Int32.toInt x5 ≤ 300) (h_x6 : 1 ≤ Int32.toInt x6 ∧ Int32.toInt x6 ≤ 65535) (h_x7 : 0 ≤ Int32.toInt x7 ∧ Int32.toInt x7 ≤ 511) (h_x9 : 0 ≤ Int32.toInt x9 ∧ Int32.toInt x9 ≤ 65535) (yJ : 0 ≤ Int32.toInt bL ∧ Int32.toInt bL ≤ 16) (yG : 0 ≤ Int32.toInt bY ∧ Int32.toInt bY ≤ 0) (yM : jD = 0 ∨ jD = 1 ∨ jD = 2) (zE : 0 ≤ Int32.toInt m_length ∧ Int32.toInt m_length ≤ 80) (aAR : 0 ≤ Int32.toInt oF ∧ Int32.toInt oF ≤ 80) (aA1 : 0 ≤ Int32.toInt rP ∧ Int32.toInt rP ≤ 80) (aAA : -1 ≤ Int32.toInt dQ ∧ Int32.toInt dQ ≤ 80) (zT : 0 ≤ Int32.toInt bZ ∧ Int32.toInt bZ ≤ 0) (yL : 0 ≤ Int32.toInt aR ∧ Int32.toInt aR ≤ 15) (xQ : 0 ≤ Int32.toInt aE ∧ Int32.toInt aE ≤ 7) (yY : 0 ≤ Int32.toInt bI ∧ Int32.toInt bI ≤ 1) (yK : 0 ≤ Int32.toInt aW ∧ Int32.toInt aW ≤ 63) (zL : ∀ k : Nat, 0 ≤ Int32.toInt (oJ k) ∧ Int32.toInt (oJ k) ≤ 99) (hn96 : Int32.toInt x6 ≤ n96) (hn111 : Int32.toInt x9 ≤ n111) : ws_X10_dusk_111 post K96 next bT bW qG m_x gR pW qR nG oO pJ qO qQ x1 x2 x3 x4 x5 x6 x7 x8 x9 bL bY jD m_length oF rP dQ bZ aR aE bI aW sW oJ := by
  have l0 := aE0
  have l1 := aEc
  have l2 := li_16
  have l3 := li_2
  refine And.intro (fun c20 => ?_) (fun c20 => ?_)
  · skip
    have c20 := (zJ _ _).mp c20
    have f21 := aAT x4
    have f22 := aAT x8
    exact ts_X10_dusk_171 bT bW qG m_x gR pW qR nG oO pJ qO qQ xJ zQ xU xV aAW xK yR zM xT yF yD xZ zG zI hc0 hpost hK96 x1 x2 x3 x4 x5 x6 x7 x8 bL bY jD m_length oF rP dQ bZ aR aE bI aW sW oJ aBK aBN aCH aDO aF7 h_x6 h_x7 yJ yG yM zE aAR aA1 aAA zT yL xQ yY yK zL hn96
  · skip
    have c20 := mt (zJ _ _).mpr c20
    refine And.intro (fun c23 => ?_) (fun c23 => ?_)
    · skip
      have c23 := (aAd _ _).mp c23
      have f24 := aAT x4
      have f25 := aAT x8
      exact ts_X10_dusk_171 bT bW qG m_x gR pW qR nG oO pJ qO qQ xJ zQ xU xV aAW xK yR zM xT yF yD xZ zG zI hc0 hpost hK96 x1 x2 x3 x4 x5 x6 x7 x8 bL bY jD m_length oF rP dQ bZ aR aE bI aW sW oJ aBK aBN aCH aDO aF7 h_x6 h_x7 yJ yG yM zE aAR aA1 aAA zT yL xQ yY yK zL hn96
    · skip
      have c23 := mt (aAd _ _).mpr c23
      refine t_J6_numberOfTrailingZeros_0f7a4  (fun r26 ox27 => ?_)
      refine And.intro (aBZ ⟨by omega, by omega⟩) ?_
      intro v28 ev28
      have f30 := zL r26.toNatClampNeg
      have f29 : Int32.toInt (x7 + (oJ r26.toNatClampNeg)) = Int32.toInt x7 + Int32.toInt (oJ r26.toNatClampNeg) := aAD _ _ ⟨by omega, by omega⟩
      rw [← ev28] at f29
      intro v31 ev31
      have hv31 := congrArg Int32.toInt ev31
      intro v33 ev33
      intro v34 ev34
      have f35 := aAQ v33 1 (by omega)
      have hv34 := congrArg Int32.toInt ev34
      refine And.intro (fun c36 => ?_) (fun c36 => ?_)
      · skip
        have c36 := mt (zJ _ _).mpr c36
        refine And.intro (fun _ => ?_) (fun h9 => absurd h9 (by decide))
        refine And.intro (aBZ ⟨by omega, by omega⟩) ?_
        intro v37 ev37
        have hv37 := congrArg Int32.toInt ev37
        intro v39 ev39
        have f41 : Int32.toInt (x9 - 1) = Int32.toInt x9 - Int32.toInt (1 : Int32) := aCA _ _ ⟨by omega, by omega⟩
        have f40 := aAQ x9 (x9 - 1) (by omega)
        have f42 := aBx x9 (x9 - 1) (by omega)
        have hv39 := congrArg Int32.toInt ev39
        have f43 := aAT x4
        have f44 := aAT v37
        exact hKn x1 x2 x3 x4 x5 x6 v28 v37 v39 bL bY jD m_length oF rP dQ bZ aR aE bI aW sW oJ aBK aBN aCH aDO aF7 h_x6 ⟨by omega, by omega⟩ ⟨by omega, by omega⟩ yJ yG yM zE aAR aA1 aAA zT yL xQ yY yK zL hn96 (by omega)
      · skip
        have c36 := (zJ _ _).mp c36
        refine And.intro (fun h9 => absurd h9 (by decide)) (fun _ => ?_)
        refine And.intro (aBZ ⟨by omega, by omega⟩) ?_
        intro v45 ev45
        have f46 := yR r26.toNatClampNeg
        have hv45 := congrArg Int32.toInt ev45
        intro v47 ev47
        have f48 : Int32.toInt (v45 / 2) = Int32.toInt v45 / 2 := ti_div _ _ (by decide) (by omega) (by decide)
        rw [← ev47] at f48
        intro v49 ev49
        have hv49 := congrArg Int32.toInt ev49
        intro v51 ev51
        have f53 : Int32.toInt (x9 - 1) = Int32.toInt x9 - Int32.toInt (1 : Int32) := aCA _ _ ⟨by omega, by omega⟩
        have f52 := aAQ x9 (x9 - 1) (by omega)
        have f54 := aBx x9 (x9 - 1) (by omega)
        have hv51 := congrArg Int32.toInt ev51
        have f55 := aAT x4
        have f56 := aAT v49
        exact hKn x1 x2 x3 x4 x5 x6 v28 v49 v51 bL bY jD m_length oF rP dQ bZ aR aE bI aW sW oJ aBK aBN aCH aDO aF7 h_x6 ⟨by omega, by omega⟩ ⟨by omega, by omega⟩ yJ yG yM zE aAR aA1 aAA zT yL xQ yY yK zL hn96 (by omega)
set_option maxHeartbeats 8000000 in
set_option maxRecDepth 200000 in
theorem tb_X10_dusk_111 {post : Int32 → Int32 → Int32 → Nat → Int32 → Int32 → Int32 → Int32 → Int32 → Int32 → Int32 → Int32 → Int32 → (Nat → Int32) → (Nat → Int32) → Prop} {SB : Int} {K96 : Int32 → Int32 → Int32 → Int32 → Int32 → Int32 → Int32 → Int32 → Nat → Int32 → Int32 → Int32 → Int32 → Int32 → Int32 → Int32 → Int32 → Int32 → (Nat → Int32) → (Nat → Int32) → Prop} {n96 : Int} (bT bW : Int32) (qG m_x gR pW qR nG oO pJ qO qQ : Nat → Int32) (xJ : 0 ≤ Int32.toInt bT ∧ Int32.toInt bT ≤ 16) (zQ : 0 ≤ Int32.toInt bW ∧ Int32.toInt bW ≤ 40) (xU : ∀ k : Nat, k = 17 → -1 ≤ Int32.toInt (qG k) ∧ Int32.toInt (qG k) ≤ SB) (xV : ∀ k : Nat, k = 19 → 0 ≤ Int32.toInt (qG k) ∧ Int32.toInt (qG k) ≤ 9) (aAW : ∀ k : Nat, 0 ≤ Int32.toInt (m_x k) ∧ Int32.toInt (m_x k) ≤ 99) (xK : ∀ k : Nat, 0 ≤ Int32.toInt (gR k) ∧ Int32.toInt (gR k) ≤ 99) (yR : ∀ k : Nat, 0 ≤ Int32.toInt (pW k) ∧ Int32.toInt (pW k) ≤ 9) (zM : ∀ k : Nat, 0 ≤ Int32.toInt (qR k) ∧ Int32.toInt (qR k) ≤ 9) (xT : ∀ k : Nat, 0 ≤ Int32.toInt (nG k) ∧ Int32.toInt (nG k) ≤ 99) (yF : ∀ k : Nat, 0 ≤ Int32.toInt (oO k) ∧ Int32.toInt (oO k) ≤ 99) (yD : ∀ k : Nat, k = 4 → 1 ≤ Int32.toInt (pJ k) ∧ Int32.toInt (pJ k) ≤ 30) (xZ : ∀ k : Nat, k = 3 → 0 ≤ Int32.toInt (pJ k) ∧ Int32.toInt (pJ k) ≤ 9) (zG : ∀ k : Nat, -128 ≤ Int32.toInt (qO k) ∧ Int32.toInt (qO k) ≤ 127) (zI : ∀ k : Nat, -128 ≤ Int32.toInt (qQ k) ∧ Int32.toInt (qQ k) ≤ 127) (hc0 : -1 ≤ SB ∧ SB ≤ 7) (hpost : ∀ (r : Int32) (xM : Int32) (xG : Int32) (aAP : Nat) (zS : Int32) (aAz : Int32) (aAm : Int32) (zH : Int32) (aAM : Int32) (zP : Int32) (yO : Int32) (zZ : Int32) (zO : Int32) (aBX : Nat → Int32) (aBR : Nat → Int32), (-2 ≤ Int32.toInt r ∧ Int32.toInt r ≤ 2147483647) → (0 ≤ Int32.toInt xM ∧ Int32.toInt xM ≤ 16) → (0 ≤ Int32.toInt xG ∧ Int32.toInt xG ≤ 0) → (aAP = 0 ∨ aAP = 1 ∨ aAP = 2) → (0 ≤ Int32.toInt zS ∧ Int32.toInt zS ≤ 80) → (0 ≤ Int32.toInt aAz ∧ Int32.toInt aAz ≤ 80) → (0 ≤ Int32.toInt aAm ∧ Int32.toInt aAm ≤ 80) → (-1 ≤ Int32.toInt zH ∧ Int32.toInt zH ≤ 80) → (0 ≤ Int32.toInt aAM ∧ Int32.toInt aAM ≤ 0) → (0 ≤ Int32.toInt zP ∧ Int32.toInt zP ≤ 15) → (0 ≤ Int32.toInt yO ∧ Int32.toInt yO ≤ 7) → (0 ≤ Int32.toInt zZ ∧ Int32.toInt zZ ≤ 1) → (0 ≤ Int32.toInt zO ∧ Int32.toInt zO ≤ 63) → (∀ k : Nat, 0 ≤ Int32.toInt (aBR k) ∧ Int32.toInt (aBR k) ≤ 99) → post r xM xG aAP zS aAz aAm zH aAM zP yO zZ zO aBX aBR) (hK96 : ∀ (x1 : Int32) (x2 : Int32) (x3 : Int32) (x4 : Int32) (x5 : Int32) (x6 : Int32) (bL : Int32) (bY : Int32) (jD : Nat) (m_length : Int32) (oF : Int32) (rP : Int32) (dQ : Int32) (bZ : Int32) (aR : Int32) (aE : Int32) (bI : Int32) (aW : Int32) (sW : Nat → Int32) (oJ : Nat → Int32), (0 ≤ Int32.toInt x1 ∧ Int32.toInt x1 ≤ 300) → (0 ≤ Int32.toInt x2 ∧ Int32.toInt x2 ≤ 65535) → (0 ≤ Int32.toInt x3 ∧ Int32.toInt x3 ≤ 65535) → (0 ≤ Int32.toInt x4 ∧ Int32.toInt x4 ≤ 2147483647) → (0 ≤ Int32.toInt x5 ∧ Int32.toInt x5 ≤ 300) → (0 ≤ Int32.toInt x6 ∧ Int32.toInt x6 ≤ 65535) → (0 ≤ Int32.toInt bL ∧ Int32.toInt bL ≤ 16) → (0 ≤ Int32.toInt bY ∧ Int32.toInt bY ≤ 0) → (jD = 0 ∨ jD = 1 ∨ jD = 2) → (0 ≤ Int32.toInt m_length ∧ Int32.toInt m_length ≤ 80) → (0 ≤ Int32.toInt oF ∧ Int32.toInt oF ≤ 80) → (0 ≤ Int32.toInt rP ∧ Int32.toInt rP ≤ 80) → (-1 ≤ Int32.toInt dQ ∧ Int32.toInt dQ ≤ 80) → (0 ≤ Int32.toInt bZ ∧ Int32.toInt bZ ≤ 0) → (0 ≤ Int32.toInt aR ∧ Int32.toInt aR ≤ 15) → (0 ≤ Int32.toInt aE ∧ Int32.toInt aE ≤ 7) → (0 ≤ Int32.toInt bI ∧ Int32.toInt bI ≤ 1) → (0 ≤ Int32.toInt aW ∧ Int32.toInt aW ≤ 63) → (∀ k : Nat, 0 ≤ Int32.toInt (oJ k) ∧ Int32.toInt (oJ k) ≤ 99) → (Int32.toInt x6 < n96) → K96 x1 x2 x3 x4 x5 x6 bL bY jD m_length oF rP dQ bZ aR aE bI aW sW oJ) : ∀ (n : Nat) (x1 x2 x3 x4 x5 x6 x7 x8 x9 bL bY : Int32) (jD : Nat) (m_length oF rP dQ bZ aR aE bI aW : Int32) (sW oJ : Nat → Int32), (0 ≤ Int32.toInt x1 ∧ Int32.toInt x1 ≤ 300) → (0 ≤ Int32.toInt x2 ∧ Int32.toInt x2 ≤ 65535) → (0 ≤ Int32.toInt x3 ∧ Int32.toInt x3 ≤ 65535) → (0 ≤ Int32.toInt x4 ∧ Int32.toInt x4 ≤ 2147483647) → (0 ≤ Int32.toInt x5 ∧ Int32.toInt x5 ≤ 300) → (1 ≤ Int32.toInt x6 ∧ Int32.toInt x6 ≤ 65535) → (0 ≤ Int32.toInt x7 ∧ Int32.toInt x7 ≤ 511) → (0 ≤ Int32.toInt x9 ∧ Int32.toInt x9 ≤ 65535) → (0 ≤ Int32.toInt bL ∧ Int32.toInt bL ≤ 16) → (0 ≤ Int32.toInt bY ∧ Int32.toInt bY ≤ 0) → (jD = 0 ∨ jD = 1 ∨ jD = 2) → (0 ≤ Int32.toInt m_length ∧ Int32.toInt m_length ≤ 80) → (0 ≤ Int32.toInt oF ∧ Int32.toInt oF ≤ 80) → (0 ≤ Int32.toInt rP ∧ Int32.toInt rP ≤ 80) → (-1 ≤ Int32.toInt dQ ∧ Int32.toInt dQ ≤ 80) → (0 ≤ Int32.toInt bZ ∧ Int32.toInt bZ ≤ 0) → (0 ≤ Int32.toInt aR ∧ Int32.toInt aR ≤ 15) → (0 ≤ Int32.toInt aE ∧ Int32.toInt aE ≤ 7) → (0 ≤ Int32.toInt bI ∧ Int32.toInt bI ≤ 1) → (0 ≤ Int32.toInt aW ∧ Int32.toInt aW ≤ 63) → (∀ k : Nat, 0 ≤ Int32.toInt (oJ k) ∧ Int32.toInt (oJ k) ≤ 99) → (Int32.toInt x6 ≤ n96) → (Int32.toInt x9 < (n : Int)) → wb_X10_dusk_111 post K96 bT bW qG m_x gR pW qR nG oO pJ qO qQ n x1 x2 x3 x4 x5 x6 x7 x8 x9 bL bY jD m_length oF rP dQ bZ aR aE bI aW sW oJ := by
  intro n
  induction n with
  | zero =>
    intro x1 x2 x3 x4 x5 x6 x7 x8 x9 bL bY jD m_length oF rP dQ bZ aR aE bI aW sW oJ aBK aBN aCH aDO aF7 h_x6 h_x7 h_x9 yJ yG yM zE aAR aA1 aAA zT yL xQ yY yK zL hn96 hm
    exfalso; omega
  | succ n ih =>
    intro x1 x2 x3 x4 x5 x6 x7 x8 x9 bL bY jD m_length oF rP dQ bZ aR aE bI aW sW oJ aBK aBN aCH aDO aF7 h_x6 h_x7 h_x9 yJ yG yM zE aAR aA1 aAA zT yL xQ yY yK zL hn96 hm
    exact ts_X10_dusk_111 bT bW qG m_x gR pW qR nG oO pJ qO qQ xJ zQ xU xV aAW xK yR zM xT yF yD xZ zG zI hc0 hpost hK96 ih x1 x2 x3 x4 x5 x6 x7 x8 x9 bL bY jD m_length oF rP dQ bZ aR aE bI aW sW oJ aBK aBN aCH aDO aF7 h_x6 h_x7 h_x9 yJ yG yM zE aAR aA1 aAA zT yL xQ yY yK zL hn96 (by omega)
set_option maxHeartbeats 8000000 in
set_option maxRecDepth 200000 in
theorem ts_X10_dusk_96 {post : Int32 → Int32 → Int32 → Nat → Int32 → Int32 → Int32 → Int32 → Int32 → Int32 → Int32 → Int32 → Int32 → (Nat → Int32) → (Nat → Int32) → Prop} {SB : Int} {next : Int32 → Int32 → Int32 → Int32 → Int32 → Int32 → Int32 → Int32 → Nat → Int32 → Int32 → Int32 → Int32 → Int32 → Int32 → Int32 → Int32 → Int32 → (Nat → Int32) → (Nat → Int32) → Prop} {n96 : Int} (bT bW : Int32) (qG m_x gR pW qR nG oO pJ qO qQ : Nat → Int32) (xJ : 0 ≤ Int32.toInt bT ∧ Int32.toInt bT ≤ 16) (zQ : 0 ≤ Int32.toInt bW ∧ Int32.toInt bW ≤ 40) (xU : ∀ k : Nat, k = 17 → -1 ≤ Int32.toInt (qG k) ∧ Int32.toInt (qG k) ≤ SB) (xV : ∀ k : Nat, k = 19 → 0 ≤ Int32.toInt (qG k) ∧ Int32.toInt (qG k) ≤ 9) (aAW : ∀ k : Nat, 0 ≤ Int32.toInt (m_x k) ∧ Int32.toInt (m_x k) ≤ 99) (xK : ∀ k : Nat, 0 ≤ Int32.toInt (gR k) ∧ Int32.toInt (gR k) ≤ 99) (yR : ∀ k : Nat, 0 ≤ Int32.toInt (pW k) ∧ Int32.toInt (pW k) ≤ 9) (zM : ∀ k : Nat, 0 ≤ Int32.toInt (qR k) ∧ Int32.toInt (qR k) ≤ 9) (xT : ∀ k : Nat, 0 ≤ Int32.toInt (nG k) ∧ Int32.toInt (nG k) ≤ 99) (yF : ∀ k : Nat, 0 ≤ Int32.toInt (oO k) ∧ Int32.toInt (oO k) ≤ 99) (yD : ∀ k : Nat, k = 4 → 1 ≤ Int32.toInt (pJ k) ∧ Int32.toInt (pJ k) ≤ 30) (xZ : ∀ k : Nat, k = 3 → 0 ≤ Int32.toInt (pJ k) ∧ Int32.toInt (pJ k) ≤ 9) (zG : ∀ k : Nat, -128 ≤ Int32.toInt (qO k) ∧ Int32.toInt (qO k) ≤ 127) (zI : ∀ k : Nat, -128 ≤ Int32.toInt (qQ k) ∧ Int32.toInt (qQ k) ≤ 127) (hc0 : -1 ≤ SB ∧ SB ≤ 7) (hpost : ∀ (r : Int32) (xM : Int32) (xG : Int32) (aAP : Nat) (zS : Int32) (aAz : Int32) (aAm : Int32) (zH : Int32) (aAM : Int32) (zP : Int32) (yO : Int32) (zZ : Int32) (zO : Int32) (aBX : Nat → Int32) (aBR : Nat → Int32), (-2 ≤ Int32.toInt r ∧ Int32.toInt r ≤ 2147483647) → (0 ≤ Int32.toInt xM ∧ Int32.toInt xM ≤ 16) → (0 ≤ Int32.toInt xG ∧ Int32.toInt xG ≤ 0) → (aAP = 0 ∨ aAP = 1 ∨ aAP = 2) → (0 ≤ Int32.toInt zS ∧ Int32.toInt zS ≤ 80) → (0 ≤ Int32.toInt aAz ∧ Int32.toInt aAz ≤ 80) → (0 ≤ Int32.toInt aAm ∧ Int32.toInt aAm ≤ 80) → (-1 ≤ Int32.toInt zH ∧ Int32.toInt zH ≤ 80) → (0 ≤ Int32.toInt aAM ∧ Int32.toInt aAM ≤ 0) → (0 ≤ Int32.toInt zP ∧ Int32.toInt zP ≤ 15) → (0 ≤ Int32.toInt yO ∧ Int32.toInt yO ≤ 7) → (0 ≤ Int32.toInt zZ ∧ Int32.toInt zZ ≤ 1) → (0 ≤ Int32.toInt zO ∧ Int32.toInt zO ≤ 63) → (∀ k : Nat, 0 ≤ Int32.toInt (aBR k) ∧ Int32.toInt (aBR k) ≤ 99) → post r xM xG aAP zS aAz aAm zH aAM zP yO zZ zO aBX aBR) (hKn : ∀ (x1 : Int32) (x2 : Int32) (x3 : Int32) (x4 : Int32) (x5 : Int32) (x6 : Int32) (bL : Int32) (bY : Int32) (jD : Nat) (m_length : Int32) (oF : Int32) (rP : Int32) (dQ : Int32) (bZ : Int32) (aR : Int32) (aE : Int32) (bI : Int32) (aW : Int32) (sW : Nat → Int32) (oJ : Nat → Int32), (0 ≤ Int32.toInt x1 ∧ Int32.toInt x1 ≤ 300) → (0 ≤ Int32.toInt x2 ∧ Int32.toInt x2 ≤ 65535) → (0 ≤ Int32.toInt x3 ∧ Int32.toInt x3 ≤ 65535) → (0 ≤ Int32.toInt x4 ∧ Int32.toInt x4 ≤ 2147483647) → (0 ≤ Int32.toInt x5 ∧ Int32.toInt x5 ≤ 300) → (0 ≤ Int32.toInt x6 ∧ Int32.toInt x6 ≤ 65535) → (0 ≤ Int32.toInt bL ∧ Int32.toInt bL ≤ 16) → (0 ≤ Int32.toInt bY ∧ Int32.toInt bY ≤ 0) → (jD = 0 ∨ jD = 1 ∨ jD = 2) → (0 ≤ Int32.toInt m_length ∧ Int32.toInt m_length ≤ 80) → (0 ≤ Int32.toInt oF ∧ Int32.toInt oF ≤ 80) → (0 ≤ Int32.toInt rP ∧ Int32.toInt rP ≤ 80) → (-1 ≤ Int32.toInt dQ ∧ Int32.toInt dQ ≤ 80) → (0 ≤ Int32.toInt bZ ∧ Int32.toInt bZ ≤ 0) → (0 ≤ Int32.toInt aR ∧ Int32.toInt aR ≤ 15) → (0 ≤ Int32.toInt aE ∧ Int32.toInt aE ≤ 7) → (0 ≤ Int32.toInt bI ∧ Int32.toInt bI ≤ 1) → (0 ≤ Int32.toInt aW ∧ Int32.toInt aW ≤ 63) → (∀ k : Nat, 0 ≤ Int32.toInt (oJ k) ∧ Int32.toInt (oJ k) ≤ 99) → (Int32.toInt x6 < n96) → next x1 x2 x3 x4 x5 x6 bL bY jD m_length oF rP dQ bZ aR aE bI aW sW oJ) (x1 x2 x3 x4 x5 x6 bL bY : Int32) (jD : Nat) (m_length oF rP dQ bZ aR aE bI aW : Int32) (sW oJ : Nat → Int32) (aBK : 0 ≤ Int32.toInt x1 ∧ Int32.toInt x1 ≤ 300) (aBN : 0 ≤ Int32.toInt x2 ∧ Int32.toInt x2 ≤ 65535) (aCH : 0 ≤ Int32.toInt x3 ∧ Int32.toInt x3 ≤ 65535) (aDO : 0 ≤ Int32.toInt x4 ∧ Int32.toInt x4 ≤ 2147483647) (aF7 : 0 ≤ Int32.toInt x5 ∧ Int32.toInt x5 ≤ 300) (h_x6 : 0 ≤ Int32.toInt x6 ∧ Int32.toInt x6 ≤ 65535) (yJ : 0 ≤ Int32.toInt bL ∧ Int32.toInt bL ≤ 16) (yG : 0 ≤ Int32.toInt bY ∧ Int32.toInt bY ≤ 0) (yM : jD = 0 ∨ jD = 1 ∨ jD = 2) (zE : 0 ≤ Int32.toInt m_length ∧ Int32.toInt m_length ≤ 80) (aAR : 0 ≤ Int32.toInt oF ∧ Int32.toInt oF ≤ 80) (aA1 : 0 ≤ Int32.toInt rP ∧ Int32.toInt rP ≤ 80) (aAA : -1 ≤ Int32.toInt dQ ∧ Int32.toInt dQ ≤ 80) (zT : 0 ≤ Int32.toInt bZ ∧ Int32.toInt bZ ≤ 0) (yL : 0 ≤ Int32.toInt aR ∧ Int32.toInt aR ≤ 15) (xQ : 0 ≤ Int32.toInt aE ∧ Int32.toInt aE ≤ 7) (yY : 0 ≤ Int32.toInt bI ∧ Int32.toInt bI ≤ 1) (yK : 0 ≤ Int32.toInt aW ∧ Int32.toInt aW ≤ 63) (zL : ∀ k : Nat, 0 ≤ Int32.toInt (oJ k) ∧ Int32.toInt (oJ k) ≤ 99) (hn96 : Int32.toInt x6 ≤ n96) : ws_X10_dusk_96 post next bT bW qG m_x gR pW qR nG oO pJ qO qQ x1 x2 x3 x4 x5 x6 bL bY jD m_length oF rP dQ bZ aR aE bI aW sW oJ := by
  have l0 := aE0
  have l1 := aEc
  refine And.intro (fun c57 => ?_) (fun c57 => ?_)
  · skip
    have c57 := (aAO _ _).mp c57
    refine And.intro (aBZ ⟨by omega, by omega⟩) ?_
    intro v58 ev58
    have f59 : Int32.toInt (0 + 1) = Int32.toInt (0 : Int32) + Int32.toInt (1 : Int32) := aAD _ _ ⟨by omega, by omega⟩
    rw [← ev58] at f59
    refine And.intro (aBZ ⟨by omega, by omega⟩) ?_
    intro v60 ev60
    have f61 : Int32.toInt (v58 + 1) = Int32.toInt v58 + Int32.toInt (1 : Int32) := aAD _ _ ⟨by omega, by omega⟩
    rw [← ev60] at f61
    have f62 := aAT x4
    exact hpost _ _ _ _ _ _ _ _ _ _ _ _ _ _ _ ⟨by omega, by omega⟩ ⟨by omega, by omega⟩ yG yM zE aAR aA1 aAA zT yL xQ yY yK zL
  · skip
    have c57 := mt (aAO _ _).mpr c57
    have f63 := aAT x4
    exact ⟨65537, tb_X10_dusk_111 bT bW qG m_x gR pW qR nG oO pJ qO qQ xJ zQ xU xV aAW xK yR zM xT yF yD xZ zG zI hc0 hpost hKn _ x1 x2 x3 x4 x5 x6 0 0 x6 bL bY jD m_length oF rP dQ bZ aR aE bI aW sW oJ aBK aBN aCH aDO aF7 ⟨by omega, by omega⟩ ⟨by omega, by omega⟩ h_x6 yJ yG yM zE aAR aA1 aAA zT yL xQ yY yK zL hn96 (by omega)⟩
set_option maxHeartbeats 8000000 in
set_option maxRecDepth 200000 in
theorem tb_X10_dusk_96 {post : Int32 → Int32 → Int32 → Nat → Int32 → Int32 → Int32 → Int32 → Int32 → Int32 → Int32 → Int32 → Int32 → (Nat → Int32) → (Nat → Int32) → Prop} {SB : Int} (bT bW : Int32) (qG m_x gR pW qR nG oO pJ qO qQ : Nat → Int32) (xJ : 0 ≤ Int32.toInt bT ∧ Int32.toInt bT ≤ 16) (zQ : 0 ≤ Int32.toInt bW ∧ Int32.toInt bW ≤ 40) (xU : ∀ k : Nat, k = 17 → -1 ≤ Int32.toInt (qG k) ∧ Int32.toInt (qG k) ≤ SB) (xV : ∀ k : Nat, k = 19 → 0 ≤ Int32.toInt (qG k) ∧ Int32.toInt (qG k) ≤ 9) (aAW : ∀ k : Nat, 0 ≤ Int32.toInt (m_x k) ∧ Int32.toInt (m_x k) ≤ 99) (xK : ∀ k : Nat, 0 ≤ Int32.toInt (gR k) ∧ Int32.toInt (gR k) ≤ 99) (yR : ∀ k : Nat, 0 ≤ Int32.toInt (pW k) ∧ Int32.toInt (pW k) ≤ 9) (zM : ∀ k : Nat, 0 ≤ Int32.toInt (qR k) ∧ Int32.toInt (qR k) ≤ 9) (xT : ∀ k : Nat, 0 ≤ Int32.toInt (nG k) ∧ Int32.toInt (nG k) ≤ 99) (yF : ∀ k : Nat, 0 ≤ Int32.toInt (oO k) ∧ Int32.toInt (oO k) ≤ 99) (yD : ∀ k : Nat, k = 4 → 1 ≤ Int32.toInt (pJ k) ∧ Int32.toInt (pJ k) ≤ 30) (xZ : ∀ k : Nat, k = 3 → 0 ≤ Int32.toInt (pJ k) ∧ Int32.toInt (pJ k) ≤ 9) (zG : ∀ k : Nat, -128 ≤ Int32.toInt (qO k) ∧ Int32.toInt (qO k) ≤ 127) (zI : ∀ k : Nat, -128 ≤ Int32.toInt (qQ k) ∧ Int32.toInt (qQ k) ≤ 127) (hc0 : -1 ≤ SB ∧ SB ≤ 7) (hpost : ∀ (r : Int32) (xM : Int32) (xG : Int32) (aAP : Nat) (zS : Int32) (aAz : Int32) (aAm : Int32) (zH : Int32) (aAM : Int32) (zP : Int32) (yO : Int32) (zZ : Int32) (zO : Int32) (aBX : Nat → Int32) (aBR : Nat → Int32), (-2 ≤ Int32.toInt r ∧ Int32.toInt r ≤ 2147483647) → (0 ≤ Int32.toInt xM ∧ Int32.toInt xM ≤ 16) → (0 ≤ Int32.toInt xG ∧ Int32.toInt xG ≤ 0) → (aAP = 0 ∨ aAP = 1 ∨ aAP = 2) → (0 ≤ Int32.toInt zS ∧ Int32.toInt zS ≤ 80) → (0 ≤ Int32.toInt aAz ∧ Int32.toInt aAz ≤ 80) → (0 ≤ Int32.toInt aAm ∧ Int32.toInt aAm ≤ 80) → (-1 ≤ Int32.toInt zH ∧ Int32.toInt zH ≤ 80) → (0 ≤ Int32.toInt aAM ∧ Int32.toInt aAM ≤ 0) → (0 ≤ Int32.toInt zP ∧ Int32.toInt zP ≤ 15) → (0 ≤ Int32.toInt yO ∧ Int32.toInt yO ≤ 7) → (0 ≤ Int32.toInt zZ ∧ Int32.toInt zZ ≤ 1) → (0 ≤ Int32.toInt zO ∧ Int32.toInt zO ≤ 63) → (∀ k : Nat, 0 ≤ Int32.toInt (aBR k) ∧ Int32.toInt (aBR k) ≤ 99) → post r xM xG aAP zS aAz aAm zH aAM zP yO zZ zO aBX aBR) : ∀ (n : Nat) (x1 x2 x3 x4 x5 x6 bL bY : Int32) (jD : Nat) (m_length oF rP dQ bZ aR aE bI aW : Int32) (sW oJ : Nat → Int32), (0 ≤ Int32.toInt x1 ∧ Int32.toInt x1 ≤ 300) → (0 ≤ Int32.toInt x2 ∧ Int32.toInt x2 ≤ 65535) → (0 ≤ Int32.toInt x3 ∧ Int32.toInt x3 ≤ 65535) → (0 ≤ Int32.toInt x4 ∧ Int32.toInt x4 ≤ 2147483647) → (0 ≤ Int32.toInt x5 ∧ Int32.toInt x5 ≤ 300) → (0 ≤ Int32.toInt x6 ∧ Int32.toInt x6 ≤ 65535) → (0 ≤ Int32.toInt bL ∧ Int32.toInt bL ≤ 16) → (0 ≤ Int32.toInt bY ∧ Int32.toInt bY ≤ 0) → (jD = 0 ∨ jD = 1 ∨ jD = 2) → (0 ≤ Int32.toInt m_length ∧ Int32.toInt m_length ≤ 80) → (0 ≤ Int32.toInt oF ∧ Int32.toInt oF ≤ 80) → (0 ≤ Int32.toInt rP ∧ Int32.toInt rP ≤ 80) → (-1 ≤ Int32.toInt dQ ∧ Int32.toInt dQ ≤ 80) → (0 ≤ Int32.toInt bZ ∧ Int32.toInt bZ ≤ 0) → (0 ≤ Int32.toInt aR ∧ Int32.toInt aR ≤ 15) → (0 ≤ Int32.toInt aE ∧ Int32.toInt aE ≤ 7) → (0 ≤ Int32.toInt bI ∧ Int32.toInt bI ≤ 1) → (0 ≤ Int32.toInt aW ∧ Int32.toInt aW ≤ 63) → (∀ k : Nat, 0 ≤ Int32.toInt (oJ k) ∧ Int32.toInt (oJ k) ≤ 99) → (Int32.toInt x6 < (n : Int)) → wb_X10_dusk_96 post bT bW qG m_x gR pW qR nG oO pJ qO qQ n x1 x2 x3 x4 x5 x6 bL bY jD m_length oF rP dQ bZ aR aE bI aW sW oJ := by
  intro n
  induction n with
  | zero =>
    intro x1 x2 x3 x4 x5 x6 bL bY jD m_length oF rP dQ bZ aR aE bI aW sW oJ aBK aBN aCH aDO aF7 h_x6 yJ yG yM zE aAR aA1 aAA zT yL xQ yY yK zL hm
    exfalso; omega
  | succ n ih =>
    intro x1 x2 x3 x4 x5 x6 bL bY jD m_length oF rP dQ bZ aR aE bI aW sW oJ aBK aBN aCH aDO aF7 h_x6 yJ yG yM zE aAR aA1 aAA zT yL xQ yY yK zL hm
    exact ts_X10_dusk_96 bT bW qG m_x gR pW qR nG oO pJ qO qQ xJ zQ xU xV aAW xK yR zM xT yF yD xZ zG zI hc0 hpost ih x1 x2 x3 x4 x5 x6 bL bY jD m_length oF rP dQ bZ aR aE bI aW sW oJ aBK aBN aCH aDO aF7 h_x6 yJ yG yM zE aAR aA1 aAA zT yL xQ yY yK zL (by omega)
set_option maxHeartbeats 8000000 in
set_option maxRecDepth 200000 in
theorem ts_X10_dusk_78 {post : Int32 → Int32 → Int32 → Nat → Int32 → Int32 → Int32 → Int32 → Int32 → Int32 → Int32 → Int32 → Int32 → (Nat → Int32) → (Nat → Int32) → Prop} {SB : Int} {K39 : Int32 → Int32 → Int32 → Int32 → Int32 → Nat → Int32 → Int32 → Int32 → Int32 → Int32 → Int32 → Int32 → Int32 → Int32 → (Nat → Int32) → (Nat → Int32) → Prop} {n39 : Int} (bT bW : Int32) (qG m_x gR pW qR nG oO pJ qO qQ : Nat → Int32) (xJ : 0 ≤ Int32.toInt bT ∧ Int32.toInt bT ≤ 16) (zQ : 0 ≤ Int32.toInt bW ∧ Int32.toInt bW ≤ 40) (xU : ∀ k : Nat, k = 17 → -1 ≤ Int32.toInt (qG k) ∧ Int32.toInt (qG k) ≤ SB) (xV : ∀ k : Nat, k = 19 → 0 ≤ Int32.toInt (qG k) ∧ Int32.toInt (qG k) ≤ 9) (aAW : ∀ k : Nat, 0 ≤ Int32.toInt (m_x k) ∧ Int32.toInt (m_x k) ≤ 99) (xK : ∀ k : Nat, 0 ≤ Int32.toInt (gR k) ∧ Int32.toInt (gR k) ≤ 99) (yR : ∀ k : Nat, 0 ≤ Int32.toInt (pW k) ∧ Int32.toInt (pW k) ≤ 9) (zM : ∀ k : Nat, 0 ≤ Int32.toInt (qR k) ∧ Int32.toInt (qR k) ≤ 9) (xT : ∀ k : Nat, 0 ≤ Int32.toInt (nG k) ∧ Int32.toInt (nG k) ≤ 99) (yF : ∀ k : Nat, 0 ≤ Int32.toInt (oO k) ∧ Int32.toInt (oO k) ≤ 99) (yD : ∀ k : Nat, k = 4 → 1 ≤ Int32.toInt (pJ k) ∧ Int32.toInt (pJ k) ≤ 30) (xZ : ∀ k : Nat, k = 3 → 0 ≤ Int32.toInt (pJ k) ∧ Int32.toInt (pJ k) ≤ 9) (zG : ∀ k : Nat, -128 ≤ Int32.toInt (qO k) ∧ Int32.toInt (qO k) ≤ 127) (zI : ∀ k : Nat, -128 ≤ Int32.toInt (qQ k) ∧ Int32.toInt (qQ k) ≤ 127) (hc0 : -1 ≤ SB ∧ SB ≤ 7) (hpost : ∀ (r : Int32) (xM : Int32) (xG : Int32) (aAP : Nat) (zS : Int32) (aAz : Int32) (aAm : Int32) (zH : Int32) (aAM : Int32) (zP : Int32) (yO : Int32) (zZ : Int32) (zO : Int32) (aBX : Nat → Int32) (aBR : Nat → Int32), (-2 ≤ Int32.toInt r ∧ Int32.toInt r ≤ 2147483647) → (0 ≤ Int32.toInt xM ∧ Int32.toInt xM ≤ 16) → (0 ≤ Int32.toInt xG ∧ Int32.toInt xG ≤ 0) → (aAP = 0 ∨ aAP = 1 ∨ aAP = 2) → (0 ≤ Int32.toInt zS ∧ Int32.toInt zS ≤ 80) → (0 ≤ Int32.toInt aAz ∧ Int32.toInt aAz ≤ 80) → (0 ≤ Int32.toInt aAm ∧ Int32.toInt aAm ≤ 80) → (-1 ≤ Int32.toInt zH ∧ Int32.toInt zH ≤ 80) → (0 ≤ Int32.toInt aAM ∧ Int32.toInt aAM ≤ 0) → (0 ≤ Int32.toInt zP ∧ Int32.toInt zP ≤ 15) → (0 ≤ Int32.toInt yO ∧ Int32.toInt yO ≤ 7) → (0 ≤ Int32.toInt zZ ∧ Int32.toInt zZ ≤ 1) → (0 ≤ Int32.toInt zO ∧ Int32.toInt zO ≤ 63) → (∀ k : Nat, 0 ≤ Int32.toInt (aBR k) ∧ Int32.toInt (aBR k) ≤ 99) → post r xM xG aAP zS aAz aAm zH aAM zP yO zZ zO aBX aBR) (hK39 : ∀ (x1 : Int32) (x2 : Int32) (x3 : Int32) (bL : Int32) (bY : Int32) (jD : Nat) (m_length : Int32) (oF : Int32) (rP : Int32) (dQ : Int32) (bZ : Int32) (aR : Int32) (aE : Int32) (bI : Int32) (aW : Int32) (sW : Nat → Int32) (oJ : Nat → Int32), (0 ≤ Int32.toInt x1 ∧ Int32.toInt x1 ≤ 300) → (0 ≤ Int32.toInt x2 ∧ Int32.toInt x2 ≤ 65535) → (0 ≤ Int32.toInt x3 ∧ Int32.toInt x3 ≤ 16) → (0 ≤ Int32.toInt bL ∧ Int32.toInt bL ≤ 16) → (0 ≤ Int32.toInt bY ∧ Int32.toInt bY ≤ 0) → (jD = 0 ∨ jD = 1 ∨ jD = 2) → (0 ≤ Int32.toInt m_length ∧ Int32.toInt m_length ≤ 80) → (0 ≤ Int32.toInt oF ∧ Int32.toInt oF ≤ 80) → (0 ≤ Int32.toInt rP ∧ Int32.toInt rP ≤ 80) → (-1 ≤ Int32.toInt dQ ∧ Int32.toInt dQ ≤ 80) → (0 ≤ Int32.toInt bZ ∧ Int32.toInt bZ ≤ 0) → (0 ≤ Int32.toInt aR ∧ Int32.toInt aR ≤ 15) → (0 ≤ Int32.toInt aE ∧ Int32.toInt aE ≤ 7) → (0 ≤ Int32.toInt bI ∧ Int32.toInt bI ≤ 1) → (0 ≤ Int32.toInt aW ∧ Int32.toInt aW ≤ 63) → (∀ k : Nat, 0 ≤ Int32.toInt (oJ k) ∧ Int32.toInt (oJ k) ≤ 99) → (0 ≤ Int32.toInt (qG (17 : Int32).toNatClampNeg)) → (16 - Int32.toInt x3 < n39) → K39 x1 x2 x3 bL bY jD m_length oF rP dQ bZ aR aE bI aW sW oJ) (x1 x2 x3 k1 k2 bL bY : Int32) (jD : Nat) (m_length oF rP dQ bZ aR aE bI aW : Int32) (sW oJ : Nat → Int32) (aBK : 0 ≤ Int32.toInt x1 ∧ Int32.toInt x1 ≤ 300) (aBN : 0 ≤ Int32.toInt x2 ∧ Int32.toInt x2 ≤ 65535) (aCH : 0 ≤ Int32.toInt x3 ∧ Int32.toInt x3 ≤ 15) (h_k1 : 0 ≤ Int32.toInt k1 ∧ Int32.toInt k1 ≤ 15) (h_k2 : 0 ≤ Int32.toInt k2 ∧ Int32.toInt k2 ≤ 99) (yJ : 0 ≤ Int32.toInt bL ∧ Int32.toInt bL ≤ 16) (yG : 0 ≤ Int32.toInt bY ∧ Int32.toInt bY ≤ 0) (yM : jD = 0 ∨ jD = 1 ∨ jD = 2) (zE : 0 ≤ Int32.toInt m_length ∧ Int32.toInt m_length ≤ 80) (aAR : 0 ≤ Int32.toInt oF ∧ Int32.toInt oF ≤ 80) (aA1 : 0 ≤ Int32.toInt rP ∧ Int32.toInt rP ≤ 80) (aAA : -1 ≤ Int32.toInt dQ ∧ Int32.toInt dQ ≤ 80) (zT : 0 ≤ Int32.toInt bZ ∧ Int32.toInt bZ ≤ 0) (yL : 0 ≤ Int32.toInt aR ∧ Int32.toInt aR ≤ 15) (xQ : 0 ≤ Int32.toInt aE ∧ Int32.toInt aE ≤ 7) (yY : 0 ≤ Int32.toInt bI ∧ Int32.toInt bI ≤ 1) (yK : 0 ≤ Int32.toInt aW ∧ Int32.toInt aW ≤ 63) (zL : ∀ k : Nat, 0 ≤ Int32.toInt (oJ k) ∧ Int32.toInt (oJ k) ≤ 99) (hx0 : 0 ≤ Int32.toInt (qG (17 : Int32).toNatClampNeg)) (hn39 : 16 - Int32.toInt x3 ≤ n39) : ws_X10_dusk_78 post K39 bT bW qG m_x gR pW qR nG oO pJ qO qQ x1 x2 x3 k1 k2 bL bY jD m_length oF rP dQ bZ aR aE bI aW sW oJ := by
  have l0 := aEc
  refine And.intro (aBZ ⟨by omega, by omega⟩) ?_
  have a64 : ∀ k : Nat, 0 ≤ Int32.toInt ((upd oJ k1.toNatClampNeg k2) k) ∧ Int32.toInt ((upd oJ k1.toNatClampNeg k2) k) ≤ 99 := t_upd (fun k => by have q9 := zL k; omega) (by omega)
  intro v65 ev65
  have f66 : Int32.toInt (x3 + 1) = Int32.toInt x3 + Int32.toInt (1 : Int32) := aAD _ _ ⟨by omega, by omega⟩
  rw [← ev65] at f66
  exact hK39 x1 x2 v65 bL bY jD m_length oF rP dQ bZ aR aE bI aW sW (upd oJ k1.toNatClampNeg k2) aBK aBN ⟨by omega, by omega⟩ yJ yG yM zE aAR aA1 aAA zT yL xQ yY yK (fun k => by have q9 := a64 k; omega) hx0 (by omega)
set_option maxHeartbeats 8000000 in
set_option maxRecDepth 200000 in
theorem ts_X10_dusk_39 {post : Int32 → Int32 → Int32 → Nat → Int32 → Int32 → Int32 → Int32 → Int32 → Int32 → Int32 → Int32 → Int32 → (Nat → Int32) → (Nat → Int32) → Prop} {SB : Int} {next : Int32 → Int32 → Int32 → Int32 → Int32 → Nat → Int32 → Int32 → Int32 → Int32 → Int32 → Int32 → Int32 → Int32 → Int32 → (Nat → Int32) → (Nat → Int32) → Prop} {n39 : Int} (bT bW : Int32) (qG m_x gR pW qR nG oO pJ qO qQ : Nat → Int32) (xJ : 0 ≤ Int32.toInt bT ∧ Int32.toInt bT ≤ 16) (zQ : 0 ≤ Int32.toInt bW ∧ Int32.toInt bW ≤ 40) (xU : ∀ k : Nat, k = 17 → -1 ≤ Int32.toInt (qG k) ∧ Int32.toInt (qG k) ≤ SB) (xV : ∀ k : Nat, k = 19 → 0 ≤ Int32.toInt (qG k) ∧ Int32.toInt (qG k) ≤ 9) (aAW : ∀ k : Nat, 0 ≤ Int32.toInt (m_x k) ∧ Int32.toInt (m_x k) ≤ 99) (xK : ∀ k : Nat, 0 ≤ Int32.toInt (gR k) ∧ Int32.toInt (gR k) ≤ 99) (yR : ∀ k : Nat, 0 ≤ Int32.toInt (pW k) ∧ Int32.toInt (pW k) ≤ 9) (zM : ∀ k : Nat, 0 ≤ Int32.toInt (qR k) ∧ Int32.toInt (qR k) ≤ 9) (xT : ∀ k : Nat, 0 ≤ Int32.toInt (nG k) ∧ Int32.toInt (nG k) ≤ 99) (yF : ∀ k : Nat, 0 ≤ Int32.toInt (oO k) ∧ Int32.toInt (oO k) ≤ 99) (yD : ∀ k : Nat, k = 4 → 1 ≤ Int32.toInt (pJ k) ∧ Int32.toInt (pJ k) ≤ 30) (xZ : ∀ k : Nat, k = 3 → 0 ≤ Int32.toInt (pJ k) ∧ Int32.toInt (pJ k) ≤ 9) (zG : ∀ k : Nat, -128 ≤ Int32.toInt (qO k) ∧ Int32.toInt (qO k) ≤ 127) (zI : ∀ k : Nat, -128 ≤ Int32.toInt (qQ k) ∧ Int32.toInt (qQ k) ≤ 127) (hc0 : -1 ≤ SB ∧ SB ≤ 7) (hpost : ∀ (r : Int32) (xM : Int32) (xG : Int32) (aAP : Nat) (zS : Int32) (aAz : Int32) (aAm : Int32) (zH : Int32) (aAM : Int32) (zP : Int32) (yO : Int32) (zZ : Int32) (zO : Int32) (aBX : Nat → Int32) (aBR : Nat → Int32), (-2 ≤ Int32.toInt r ∧ Int32.toInt r ≤ 2147483647) → (0 ≤ Int32.toInt xM ∧ Int32.toInt xM ≤ 16) → (0 ≤ Int32.toInt xG ∧ Int32.toInt xG ≤ 0) → (aAP = 0 ∨ aAP = 1 ∨ aAP = 2) → (0 ≤ Int32.toInt zS ∧ Int32.toInt zS ≤ 80) → (0 ≤ Int32.toInt aAz ∧ Int32.toInt aAz ≤ 80) → (0 ≤ Int32.toInt aAm ∧ Int32.toInt aAm ≤ 80) → (-1 ≤ Int32.toInt zH ∧ Int32.toInt zH ≤ 80) → (0 ≤ Int32.toInt aAM ∧ Int32.toInt aAM ≤ 0) → (0 ≤ Int32.toInt zP ∧ Int32.toInt zP ≤ 15) → (0 ≤ Int32.toInt yO ∧ Int32.toInt yO ≤ 7) → (0 ≤ Int32.toInt zZ ∧ Int32.toInt zZ ≤ 1) → (0 ≤ Int32.toInt zO ∧ Int32.toInt zO ≤ 63) → (∀ k : Nat, 0 ≤ Int32.toInt (aBR k) ∧ Int32.toInt (aBR k) ≤ 99) → post r xM xG aAP zS aAz aAm zH aAM zP yO zZ zO aBX aBR) (hKn : ∀ (x1 : Int32) (x2 : Int32) (x3 : Int32) (bL : Int32) (bY : Int32) (jD : Nat) (m_length : Int32) (oF : Int32) (rP : Int32) (dQ : Int32) (bZ : Int32) (aR : Int32) (aE : Int32) (bI : Int32) (aW : Int32) (sW : Nat → Int32) (oJ : Nat → Int32), (0 ≤ Int32.toInt x1 ∧ Int32.toInt x1 ≤ 300) → (0 ≤ Int32.toInt x2 ∧ Int32.toInt x2 ≤ 65535) → (0 ≤ Int32.toInt x3 ∧ Int32.toInt x3 ≤ 16) → (0 ≤ Int32.toInt bL ∧ Int32.toInt bL ≤ 16) → (0 ≤ Int32.toInt bY ∧ Int32.toInt bY ≤ 0) → (jD = 0 ∨ jD = 1 ∨ jD = 2) → (0 ≤ Int32.toInt m_length ∧ Int32.toInt m_length ≤ 80) → (0 ≤ Int32.toInt oF ∧ Int32.toInt oF ≤ 80) → (0 ≤ Int32.toInt rP ∧ Int32.toInt rP ≤ 80) → (-1 ≤ Int32.toInt dQ ∧ Int32.toInt dQ ≤ 80) → (0 ≤ Int32.toInt bZ ∧ Int32.toInt bZ ≤ 0) → (0 ≤ Int32.toInt aR ∧ Int32.toInt aR ≤ 15) → (0 ≤ Int32.toInt aE ∧ Int32.toInt aE ≤ 7) → (0 ≤ Int32.toInt bI ∧ Int32.toInt bI ≤ 1) → (0 ≤ Int32.toInt aW ∧ Int32.toInt aW ≤ 63) → (∀ k : Nat, 0 ≤ Int32.toInt (oJ k) ∧ Int32.toInt (oJ k) ≤ 99) → (0 ≤ Int32.toInt (qG (17 : Int32).toNatClampNeg)) → (16 - Int32.toInt x3 < n39) → next x1 x2 x3 bL bY jD m_length oF rP dQ bZ aR aE bI aW sW oJ) (x1 x2 x3 bL bY : Int32) (jD : Nat) (m_length oF rP dQ bZ aR aE bI aW : Int32) (sW oJ : Nat → Int32) (aBK : 0 ≤ Int32.toInt x1 ∧ Int32.toInt x1 ≤ 300) (aBN : 0 ≤ Int32.toInt x2 ∧ Int32.toInt x2 ≤ 65535) (aCH : 0 ≤ Int32.toInt x3 ∧ Int32.toInt x3 ≤ 16) (yJ : 0 ≤ Int32.toInt bL ∧ Int32.toInt bL ≤ 16) (yG : 0 ≤ Int32.toInt bY ∧ Int32.toInt bY ≤ 0) (yM : jD = 0 ∨ jD = 1 ∨ jD = 2) (zE : 0 ≤ Int32.toInt m_length ∧ Int32.toInt m_length ≤ 80) (aAR : 0 ≤ Int32.toInt oF ∧ Int32.toInt oF ≤ 80) (aA1 : 0 ≤ Int32.toInt rP ∧ Int32.toInt rP ≤ 80) (aAA : -1 ≤ Int32.toInt dQ ∧ Int32.toInt dQ ≤ 80) (zT : 0 ≤ Int32.toInt bZ ∧ Int32.toInt bZ ≤ 0) (yL : 0 ≤ Int32.toInt aR ∧ Int32.toInt aR ≤ 15) (xQ : 0 ≤ Int32.toInt aE ∧ Int32.toInt aE ≤ 7) (yY : 0 ≤ Int32.toInt bI ∧ Int32.toInt bI ≤ 1) (yK : 0 ≤ Int32.toInt aW ∧ Int32.toInt aW ≤ 63) (zL : ∀ k : Nat, 0 ≤ Int32.toInt (oJ k) ∧ Int32.toInt (oJ k) ≤ 99) (hx0 : 0 ≤ Int32.toInt (qG (17 : Int32).toNatClampNeg)) (hn39 : 16 - Int32.toInt x3 ≤ n39) : ws_X10_dusk_39 post next bT bW qG m_x gR pW qR nG oO pJ qO qQ x1 x2 x3 bL bY jD m_length oF rP dQ bZ aR aE bI aW sW oJ := by
  have l0 := aE0
  have l1 := aEc
  have l2 := li_17
  refine And.intro (fun c67 => ?_) (fun c67 => ?_)
  · skip
    have c67 := (aAO _ _).mp c67
    exact ⟨65537, tb_X10_dusk_96 bT bW qG m_x gR pW qR nG oO pJ qO qQ xJ zQ xU xV aAW xK yR zM xT yF yD xZ zG zI hc0 hpost _ x1 x2 0 0 0 x2 bL bY jD m_length oF rP dQ bZ aR aE bI aW sW oJ aBK aBN ⟨by omega, by omega⟩ ⟨by omega, by omega⟩ ⟨by omega, by omega⟩ aBN yJ yG yM zE aAR aA1 aAA zT yL xQ yY yK zL (by omega)⟩
  · skip
    have c67 := mt (aAO _ _).mpr c67
    intro v68 ev68
    have f69 := aRJ x2 x3 (by omega)
    have hv68 := congrArg Int32.toInt ev68
    intro v70 ev70
    have f71 := aAQ v68 1 (by omega)
    have f72 := aBx v68 1 (by omega)
    have hv70 := congrArg Int32.toInt ev70
    refine And.intro (fun c73 => ?_) (fun c73 => ?_)
    · skip
      have c73 := mt (zJ _ _).mpr c73
      refine And.intro (fun _ => ?_) (fun h9 => absurd h9 (by decide))
      exact ts_X10_dusk_78 bT bW qG m_x gR pW qR nG oO pJ qO qQ xJ zQ xU xV aAW xK yR zM xT yF yD xZ zG zI hc0 hpost hKn x1 x2 x3 x3 0 bL bY jD m_length oF rP dQ bZ aR aE bI aW sW oJ aBK aBN ⟨by omega, by omega⟩ ⟨by omega, by omega⟩ ⟨by omega, by omega⟩ yJ yG yM zE aAR aA1 aAA zT yL xQ yY yK zL hx0 hn39
    · skip
      have c73 := (zJ _ _).mp c73
      refine And.intro (fun h9 => absurd h9 (by decide)) (fun _ => ?_)
      have q74 := xU (17 : Int32).toNatClampNeg (by have e9 : (17 : Int32).toNatClampNeg = (Int32.toInt (17 : Int32)).toNat := rfl; omega)
      intro v75 ev75
      have hv75 := congrArg Int32.toInt ev75
      refine t_X10_secondsOf ⟨by omega, by omega⟩ ⟨by omega, by omega⟩ ⟨by omega, by omega⟩ ⟨by omega, by omega⟩ yM zE aAR aA1 aAA zQ zT yL xQ yY yK aAW xK yR xT yF zG zI (fun r87 m_read_77 m_length_78 m_top_79 m_at_80 m_wrong_81 m_isAsked_82 m_askedFruit_83 m_askedStanding_84 m_askedHook_85 m_askedApron_86 h_r87 h_m_read_77 h_m_length_78 h_m_top_79 h_m_at_80 h_m_wrong_81 h_m_isAsked_82 h_m_askedFruit_83 h_m_askedStanding_84 h_m_askedHook_85 h_m_askedApron_86 => ?_)
      exact ts_X10_dusk_78 bT bW qG m_x gR pW qR nG oO pJ qO qQ xJ zQ xU xV aAW xK yR zM xT yF yD xZ zG zI hc0 hpost hKn x1 x2 x3 x3 r87 bL bY m_read_77 m_length_78 m_top_79 m_at_80 m_wrong_81 m_isAsked_82 m_askedFruit_83 m_askedStanding_84 m_askedHook_85 m_askedApron_86 sW oJ aBK aBN ⟨by omega, by omega⟩ ⟨by omega, by omega⟩ ⟨by omega, by omega⟩ yJ yG h_m_read_77 h_m_length_78 h_m_top_79 h_m_at_80 h_m_wrong_81 h_m_isAsked_82 h_m_askedFruit_83 h_m_askedStanding_84 h_m_askedHook_85 h_m_askedApron_86 zL hx0 hn39
set_option maxHeartbeats 8000000 in
set_option maxRecDepth 200000 in
theorem tb_X10_dusk_39 {post : Int32 → Int32 → Int32 → Nat → Int32 → Int32 → Int32 → Int32 → Int32 → Int32 → Int32 → Int32 → Int32 → (Nat → Int32) → (Nat → Int32) → Prop} {SB : Int} (bT bW : Int32) (qG m_x gR pW qR nG oO pJ qO qQ : Nat → Int32) (xJ : 0 ≤ Int32.toInt bT ∧ Int32.toInt bT ≤ 16) (zQ : 0 ≤ Int32.toInt bW ∧ Int32.toInt bW ≤ 40) (xU : ∀ k : Nat, k = 17 → -1 ≤ Int32.toInt (qG k) ∧ Int32.toInt (qG k) ≤ SB) (xV : ∀ k : Nat, k = 19 → 0 ≤ Int32.toInt (qG k) ∧ Int32.toInt (qG k) ≤ 9) (aAW : ∀ k : Nat, 0 ≤ Int32.toInt (m_x k) ∧ Int32.toInt (m_x k) ≤ 99) (xK : ∀ k : Nat, 0 ≤ Int32.toInt (gR k) ∧ Int32.toInt (gR k) ≤ 99) (yR : ∀ k : Nat, 0 ≤ Int32.toInt (pW k) ∧ Int32.toInt (pW k) ≤ 9) (zM : ∀ k : Nat, 0 ≤ Int32.toInt (qR k) ∧ Int32.toInt (qR k) ≤ 9) (xT : ∀ k : Nat, 0 ≤ Int32.toInt (nG k) ∧ Int32.toInt (nG k) ≤ 99) (yF : ∀ k : Nat, 0 ≤ Int32.toInt (oO k) ∧ Int32.toInt (oO k) ≤ 99) (yD : ∀ k : Nat, k = 4 → 1 ≤ Int32.toInt (pJ k) ∧ Int32.toInt (pJ k) ≤ 30) (xZ : ∀ k : Nat, k = 3 → 0 ≤ Int32.toInt (pJ k) ∧ Int32.toInt (pJ k) ≤ 9) (zG : ∀ k : Nat, -128 ≤ Int32.toInt (qO k) ∧ Int32.toInt (qO k) ≤ 127) (zI : ∀ k : Nat, -128 ≤ Int32.toInt (qQ k) ∧ Int32.toInt (qQ k) ≤ 127) (hc0 : -1 ≤ SB ∧ SB ≤ 7) (hpost : ∀ (r : Int32) (xM : Int32) (xG : Int32) (aAP : Nat) (zS : Int32) (aAz : Int32) (aAm : Int32) (zH : Int32) (aAM : Int32) (zP : Int32) (yO : Int32) (zZ : Int32) (zO : Int32) (aBX : Nat → Int32) (aBR : Nat → Int32), (-2 ≤ Int32.toInt r ∧ Int32.toInt r ≤ 2147483647) → (0 ≤ Int32.toInt xM ∧ Int32.toInt xM ≤ 16) → (0 ≤ Int32.toInt xG ∧ Int32.toInt xG ≤ 0) → (aAP = 0 ∨ aAP = 1 ∨ aAP = 2) → (0 ≤ Int32.toInt zS ∧ Int32.toInt zS ≤ 80) → (0 ≤ Int32.toInt aAz ∧ Int32.toInt aAz ≤ 80) → (0 ≤ Int32.toInt aAm ∧ Int32.toInt aAm ≤ 80) → (-1 ≤ Int32.toInt zH ∧ Int32.toInt zH ≤ 80) → (0 ≤ Int32.toInt aAM ∧ Int32.toInt aAM ≤ 0) → (0 ≤ Int32.toInt zP ∧ Int32.toInt zP ≤ 15) → (0 ≤ Int32.toInt yO ∧ Int32.toInt yO ≤ 7) → (0 ≤ Int32.toInt zZ ∧ Int32.toInt zZ ≤ 1) → (0 ≤ Int32.toInt zO ∧ Int32.toInt zO ≤ 63) → (∀ k : Nat, 0 ≤ Int32.toInt (aBR k) ∧ Int32.toInt (aBR k) ≤ 99) → post r xM xG aAP zS aAz aAm zH aAM zP yO zZ zO aBX aBR) : ∀ (n : Nat) (x1 x2 x3 bL bY : Int32) (jD : Nat) (m_length oF rP dQ bZ aR aE bI aW : Int32) (sW oJ : Nat → Int32), (0 ≤ Int32.toInt x1 ∧ Int32.toInt x1 ≤ 300) → (0 ≤ Int32.toInt x2 ∧ Int32.toInt x2 ≤ 65535) → (0 ≤ Int32.toInt x3 ∧ Int32.toInt x3 ≤ 16) → (0 ≤ Int32.toInt bL ∧ Int32.toInt bL ≤ 16) → (0 ≤ Int32.toInt bY ∧ Int32.toInt bY ≤ 0) → (jD = 0 ∨ jD = 1 ∨ jD = 2) → (0 ≤ Int32.toInt m_length ∧ Int32.toInt m_length ≤ 80) → (0 ≤ Int32.toInt oF ∧ Int32.toInt oF ≤ 80) → (0 ≤ Int32.toInt rP ∧ Int32.toInt rP ≤ 80) → (-1 ≤ Int32.toInt dQ ∧ Int32.toInt dQ ≤ 80) → (0 ≤ Int32.toInt bZ ∧ Int32.toInt bZ ≤ 0) → (0 ≤ Int32.toInt aR ∧ Int32.toInt aR ≤ 15) → (0 ≤ Int32.toInt aE ∧ Int32.toInt aE ≤ 7) → (0 ≤ Int32.toInt bI ∧ Int32.toInt bI ≤ 1) → (0 ≤ Int32.toInt aW ∧ Int32.toInt aW ≤ 63) → (∀ k : Nat, 0 ≤ Int32.toInt (oJ k) ∧ Int32.toInt (oJ k) ≤ 99) → (0 ≤ Int32.toInt (qG (17 : Int32).toNatClampNeg)) → (16 - Int32.toInt x3 < (n : Int)) → wb_X10_dusk_39 post bT bW qG m_x gR pW qR nG oO pJ qO qQ n x1 x2 x3 bL bY jD m_length oF rP dQ bZ aR aE bI aW sW oJ := by
  intro n
  induction n with
  | zero =>
    intro x1 x2 x3 bL bY jD m_length oF rP dQ bZ aR aE bI aW sW oJ aBK aBN aCH yJ yG yM zE aAR aA1 aAA zT yL xQ yY yK zL hx0 hm
    exfalso; omega
  | succ n ih =>
    intro x1 x2 x3 bL bY jD m_length oF rP dQ bZ aR aE bI aW sW oJ aBK aBN aCH yJ yG yM zE aAR aA1 aAA zT yL xQ yY yK zL hx0 hm
    exact ts_X10_dusk_39 bT bW qG m_x gR pW qR nG oO pJ qO qQ xJ zQ xU xV aAW xK yR zM xT yF yD xZ zG zI hc0 hpost ih x1 x2 x3 bL bY jD m_length oF rP dQ bZ aR aE bI aW sW oJ aBK aBN aCH yJ yG yM zE aAR aA1 aAA zT yL xQ yY yK zL hx0 (by omega)
set_option maxHeartbeats 8000000 in
set_option maxRecDepth 200000 in
theorem t_X10_dusk {post : Int32 → Int32 → Int32 → Nat → Int32 → Int32 → Int32 → Int32 → Int32 → Int32 → Int32 → Int32 → Int32 → (Nat → Int32) → (Nat → Int32) → Prop} {SB : Int} {p0 bT bL bY : Int32} {jD : Nat} {m_length oF rP dQ bW bZ aR aE bI aW : Int32} {qG m_x gR pW qR nG oO pJ qO sW qQ oJ : Nat → Int32} (xJ : 0 ≤ Int32.toInt bT ∧ Int32.toInt bT ≤ 16) (yJ : 0 ≤ Int32.toInt bL ∧ Int32.toInt bL ≤ 16) (yG : 0 ≤ Int32.toInt bY ∧ Int32.toInt bY ≤ 1) (yM : jD = 0 ∨ jD = 1 ∨ jD = 2) (zE : 0 ≤ Int32.toInt m_length ∧ Int32.toInt m_length ≤ 80) (aAR : 0 ≤ Int32.toInt oF ∧ Int32.toInt oF ≤ 80) (aA1 : 0 ≤ Int32.toInt rP ∧ Int32.toInt rP ≤ 80) (aAA : -1 ≤ Int32.toInt dQ ∧ Int32.toInt dQ ≤ 80) (zQ : 0 ≤ Int32.toInt bW ∧ Int32.toInt bW ≤ 40) (zT : 0 ≤ Int32.toInt bZ ∧ Int32.toInt bZ ≤ 0) (yL : 0 ≤ Int32.toInt aR ∧ Int32.toInt aR ≤ 15) (xQ : 0 ≤ Int32.toInt aE ∧ Int32.toInt aE ≤ 7) (yY : 0 ≤ Int32.toInt bI ∧ Int32.toInt bI ≤ 1) (yK : 0 ≤ Int32.toInt aW ∧ Int32.toInt aW ≤ 63) (xU : ∀ k : Nat, k = 17 → -1 ≤ Int32.toInt (qG k) ∧ Int32.toInt (qG k) ≤ SB) (xV : ∀ k : Nat, k = 19 → 0 ≤ Int32.toInt (qG k) ∧ Int32.toInt (qG k) ≤ 9) (aAW : ∀ k : Nat, 0 ≤ Int32.toInt (m_x k) ∧ Int32.toInt (m_x k) ≤ 99) (xK : ∀ k : Nat, 0 ≤ Int32.toInt (gR k) ∧ Int32.toInt (gR k) ≤ 99) (yR : ∀ k : Nat, 0 ≤ Int32.toInt (pW k) ∧ Int32.toInt (pW k) ≤ 9) (zM : ∀ k : Nat, 0 ≤ Int32.toInt (qR k) ∧ Int32.toInt (qR k) ≤ 9) (xT : ∀ k : Nat, 0 ≤ Int32.toInt (nG k) ∧ Int32.toInt (nG k) ≤ 99) (yF : ∀ k : Nat, 0 ≤ Int32.toInt (oO k) ∧ Int32.toInt (oO k) ≤ 99) (yD : ∀ k : Nat, k = 4 → 1 ≤ Int32.toInt (pJ k) ∧ Int32.toInt (pJ k) ≤ 30) (xZ : ∀ k : Nat, k = 3 → 0 ≤ Int32.toInt (pJ k) ∧ Int32.toInt (pJ k) ≤ 9) (zG : ∀ k : Nat, -128 ≤ Int32.toInt (qO k) ∧ Int32.toInt (qO k) ≤ 127) (zI : ∀ k : Nat, -128 ≤ Int32.toInt (qQ k) ∧ Int32.toInt (qQ k) ≤ 127) (zL : ∀ k : Nat, 0 ≤ Int32.toInt (oJ k) ∧ Int32.toInt (oJ k) ≤ 99) (hc0 : -1 ≤ SB ∧ SB ≤ 7) (hpost : ∀ (r : Int32) (xM : Int32) (xG : Int32) (aAP : Nat) (zS : Int32) (aAz : Int32) (aAm : Int32) (zH : Int32) (aAM : Int32) (zP : Int32) (yO : Int32) (zZ : Int32) (zO : Int32) (aBX : Nat → Int32) (aBR : Nat → Int32), (-2 ≤ Int32.toInt r ∧ Int32.toInt r ≤ 2147483647) → (0 ≤ Int32.toInt xM ∧ Int32.toInt xM ≤ 16) → (0 ≤ Int32.toInt xG ∧ Int32.toInt xG ≤ 0) → (aAP = 0 ∨ aAP = 1 ∨ aAP = 2) → (0 ≤ Int32.toInt zS ∧ Int32.toInt zS ≤ 80) → (0 ≤ Int32.toInt aAz ∧ Int32.toInt aAz ≤ 80) → (0 ≤ Int32.toInt aAm ∧ Int32.toInt aAm ≤ 80) → (-1 ≤ Int32.toInt zH ∧ Int32.toInt zH ≤ 80) → (0 ≤ Int32.toInt aAM ∧ Int32.toInt aAM ≤ 0) → (0 ≤ Int32.toInt zP ∧ Int32.toInt zP ≤ 15) → (0 ≤ Int32.toInt yO ∧ Int32.toInt yO ≤ 7) → (0 ≤ Int32.toInt zZ ∧ Int32.toInt zZ ≤ 1) → (0 ≤ Int32.toInt zO ∧ Int32.toInt zO ≤ 63) → (∀ k : Nat, 0 ≤ Int32.toInt (aBR k) ∧ Int32.toInt (aBR k) ≤ 99) → post r xM xG aAP zS aAz aAm zH aAM zP yO zZ zO aBX aBR) : wp_X10_dusk post p0 bT bL bY jD m_length oF rP dQ bW bZ aR aE bI aW qG m_x gR pW qR nG oO pJ qO sW qQ oJ := by
  have l0 := aI2
  have l1 := li_m2
  have l2 := aE0
  have l3 := li_17
  have l4 := li_18
  have l5 := li_19
  have l6 := li_300
  have f89 := aAT p0
  refine And.intro (fun c88 => ?_) (fun c88 => ?_)
  · skip
    have c88 := (aAd _ _).mp c88
    refine And.intro (fun h9 => absurd h9 (by decide)) (fun _ => ?_)
    exact hpost _ _ _ _ _ _ _ _ _ _ _ _ _ _ _ ⟨by omega, by omega⟩ yJ ⟨by omega, by omega⟩ yM zE aAR aA1 aAA zT yL xQ yY yK zL
  · skip
    have c88 := mt (aAd _ _).mpr c88
    refine And.intro (fun c90 => ?_) (fun c90 => ?_)
    · skip
      have c90 := (aAd _ _).mp c90
      refine And.intro (fun h9 => absurd h9 (by decide)) (fun _ => ?_)
      exact hpost _ _ _ _ _ _ _ _ _ _ _ _ _ _ _ ⟨by omega, by omega⟩ yJ ⟨by omega, by omega⟩ yM zE aAR aA1 aAA zT yL xQ yY yK zL
    · skip
      have c90 := mt (aAd _ _).mpr c90
      refine And.intro (fun _ => ?_) (fun h9 => absurd h9 (by decide))
      have q91 := xU (17 : Int32).toNatClampNeg (by have e9 : (17 : Int32).toNatClampNeg = (Int32.toInt (17 : Int32)).toNat := rfl; omega)
      intro v92 ev92
      have hv92 := congrArg Int32.toInt ev92
      refine And.intro (fun c94 => ?_) (fun c94 => ?_)
      · skip
        have c94 := mt (zJ _ _).mpr c94
        refine aKO ⟨by omega, by omega⟩ xJ xU xV (by omega) (fun r95 h_r95 ox96 => ?_)
        have q97 := xV (19 : Int32).toNatClampNeg (by have e9 : (19 : Int32).toNatClampNeg = (Int32.toInt (19 : Int32)).toNat := rfl; omega)
        intro v98 ev98
        have hv98 := congrArg Int32.toInt ev98
        refine aXh ⟨by omega, by omega⟩ xJ zM (fun r100 h_r100 ox101 => ?_)
        intro v102 ev102
        have f103 := aAQ r95 r100 (by omega)
        have f104 := aBx r95 r100 (by omega)
        have hv102 := congrArg Int32.toInt ev102
        have q105 := xU (17 : Int32).toNatClampNeg (by have e9 : (17 : Int32).toNatClampNeg = (Int32.toInt (17 : Int32)).toNat := rfl; omega)
        intro v106 ev106
        have hv106 := congrArg Int32.toInt ev106
        intro v107 ev107
        have hv107 := congrArg Int32.toInt ev107
        refine aX7 ⟨by omega, by omega⟩ ⟨by omega, by omega⟩ xJ aAW xK xT yF yD xZ (fun r109 h_r109 => ?_)
        have f110 := aAQ v102 r109 (by omega)
        have f111 := aBx v102 r109 (by omega)
        exact ⟨18, tb_X10_dusk_39 bT bW qG m_x gR pW qR nG oO pJ qO qQ xJ zQ xU xV aAW xK yR zM xT yF yD xZ zG zI hc0 hpost _ p0 (v102 &&& r109) 0 bL 0 jD m_length oF rP dQ bZ aR aE bI aW sW oJ ⟨by omega, by omega⟩ ⟨by omega, by omega⟩ ⟨by omega, by omega⟩ yJ ⟨by omega, by omega⟩ yM zE aAR aA1 aAA zT yL xQ yY yK zL (by omega) (by omega)⟩
      · skip
        have c94 := (zJ _ _).mp c94
        exact hpost _ _ _ _ _ _ _ _ _ _ _ _ _ _ _ ⟨by omega, by omega⟩ yJ ⟨by omega, by omega⟩ yM zE aAR aA1 aAA zT yL xQ yY yK zL
set_option maxHeartbeats 8000000 in
set_option maxRecDepth 200000 in
theorem ts_X10_gentle_117 {post : Int32 → Int32 → Int32 → (Nat → Int32) → Prop} {SB : Int} {K41 : Int32 → Int32 → Int32 → Int32 → Int32 → (Nat → Int32) → Prop} {n41 : Int} (bT : Int32) (qG m_x gR qR nG oO pJ : Nat → Int32) (xJ : 0 ≤ Int32.toInt bT ∧ Int32.toInt bT ≤ 16) (xU : ∀ k : Nat, k = 17 → -1 ≤ Int32.toInt (qG k) ∧ Int32.toInt (qG k) ≤ SB) (xV : ∀ k : Nat, k = 19 → 0 ≤ Int32.toInt (qG k) ∧ Int32.toInt (qG k) ≤ 9) (aAW : ∀ k : Nat, 0 ≤ Int32.toInt (m_x k) ∧ Int32.toInt (m_x k) ≤ 99) (xK : ∀ k : Nat, 0 ≤ Int32.toInt (gR k) ∧ Int32.toInt (gR k) ≤ 99) (zM : ∀ k : Nat, 0 ≤ Int32.toInt (qR k) ∧ Int32.toInt (qR k) ≤ 9) (xT : ∀ k : Nat, 0 ≤ Int32.toInt (nG k) ∧ Int32.toInt (nG k) ≤ 99) (yF : ∀ k : Nat, 0 ≤ Int32.toInt (oO k) ∧ Int32.toInt (oO k) ≤ 99) (yD : ∀ k : Nat, k = 4 → 1 ≤ Int32.toInt (pJ k) ∧ Int32.toInt (pJ k) ≤ 30) (xZ : ∀ k : Nat, k = 3 → 0 ≤ Int32.toInt (pJ k) ∧ Int32.toInt (pJ k) ≤ 9) (hc0 : -1 ≤ SB ∧ SB ≤ 7) (hpost : ∀ (r : Int32) (xM : Int32) (xG : Int32) (aBX : Nat → Int32), (-2 ≤ Int32.toInt r ∧ Int32.toInt r ≤ 16) → (0 ≤ Int32.toInt xM ∧ Int32.toInt xM ≤ 16) → (0 ≤ Int32.toInt xG ∧ Int32.toInt xG ≤ 0) → post r xM xG aBX) (hK41 : ∀ (x1 : Int32) (x2 : Int32) (x3 : Int32) (bL : Int32) (bY : Int32) (sW : Nat → Int32), (0 ≤ Int32.toInt x1 ∧ Int32.toInt x1 ≤ 65535) → (0 ≤ Int32.toInt x2 ∧ Int32.toInt x2 ≤ 65535) → (0 ≤ Int32.toInt x3 ∧ Int32.toInt x3 ≤ 1) → (0 ≤ Int32.toInt bL ∧ Int32.toInt bL ≤ 16) → (0 ≤ Int32.toInt bY ∧ Int32.toInt bY ≤ 0) → (Int32.toInt bL + ((pcn 16 x1 : Nat) : Int) ≤ 16) → (((pcn 16 x1 : Nat) : Int) + Int32.toInt x3 < n41) → K41 x1 x2 x3 bL bY sW) (x1 x2 x3 bL bY : Int32) (sW : Nat → Int32) (aBK : 0 ≤ Int32.toInt x1 ∧ Int32.toInt x1 ≤ 65535) (aBN : 0 ≤ Int32.toInt x2 ∧ Int32.toInt x2 ≤ 65535) (aCH : 0 ≤ Int32.toInt x3 ∧ Int32.toInt x3 ≤ 1) (yJ : 0 ≤ Int32.toInt bL ∧ Int32.toInt bL ≤ 16) (yG : 0 ≤ Int32.toInt bY ∧ Int32.toInt bY ≤ 0) (hx0 : Int32.toInt bL + ((pcn 16 x1 : Nat) : Int) ≤ 16) (hx1 : ((pcn 16 x1 : Nat) : Int) + Int32.toInt x3 < n41) (hn41 : ((pcn 16 x1 : Nat) : Int) + Int32.toInt x3 ≤ n41) : ws_X10_gentle_117 post K41 bT qG m_x gR qR nG oO pJ x1 x2 x3 bL bY sW := by
  have j1 := pcn_le 16 (x1)
  exact hK41 x1 x2 x3 bL bY sW aBK aBN aCH yJ yG hx0 (by omega)
set_option maxHeartbeats 8000000 in
set_option maxRecDepth 200000 in
theorem ts_X10_gentle_111 {post : Int32 → Int32 → Int32 → (Nat → Int32) → Prop} {SB : Int} {K41 : Int32 → Int32 → Int32 → Int32 → Int32 → (Nat → Int32) → Prop} {K50 : Int32 → Int32 → Int32 → Int32 → Int32 → Int32 → (Nat → Int32) → Prop} {n41 n50 : Int} (bT : Int32) (qG m_x gR qR nG oO pJ : Nat → Int32) (xJ : 0 ≤ Int32.toInt bT ∧ Int32.toInt bT ≤ 16) (xU : ∀ k : Nat, k = 17 → -1 ≤ Int32.toInt (qG k) ∧ Int32.toInt (qG k) ≤ SB) (xV : ∀ k : Nat, k = 19 → 0 ≤ Int32.toInt (qG k) ∧ Int32.toInt (qG k) ≤ 9) (aAW : ∀ k : Nat, 0 ≤ Int32.toInt (m_x k) ∧ Int32.toInt (m_x k) ≤ 99) (xK : ∀ k : Nat, 0 ≤ Int32.toInt (gR k) ∧ Int32.toInt (gR k) ≤ 99) (zM : ∀ k : Nat, 0 ≤ Int32.toInt (qR k) ∧ Int32.toInt (qR k) ≤ 9) (xT : ∀ k : Nat, 0 ≤ Int32.toInt (nG k) ∧ Int32.toInt (nG k) ≤ 99) (yF : ∀ k : Nat, 0 ≤ Int32.toInt (oO k) ∧ Int32.toInt (oO k) ≤ 99) (yD : ∀ k : Nat, k = 4 → 1 ≤ Int32.toInt (pJ k) ∧ Int32.toInt (pJ k) ≤ 30) (xZ : ∀ k : Nat, k = 3 → 0 ≤ Int32.toInt (pJ k) ∧ Int32.toInt (pJ k) ≤ 9) (hc0 : -1 ≤ SB ∧ SB ≤ 7) (hpost : ∀ (r : Int32) (xM : Int32) (xG : Int32) (aBX : Nat → Int32), (-2 ≤ Int32.toInt r ∧ Int32.toInt r ≤ 16) → (0 ≤ Int32.toInt xM ∧ Int32.toInt xM ≤ 16) → (0 ≤ Int32.toInt xG ∧ Int32.toInt xG ≤ 0) → post r xM xG aBX) (hK41 : ∀ (x1 : Int32) (x2 : Int32) (x3 : Int32) (bL : Int32) (bY : Int32) (sW : Nat → Int32), (0 ≤ Int32.toInt x1 ∧ Int32.toInt x1 ≤ 65535) → (0 ≤ Int32.toInt x2 ∧ Int32.toInt x2 ≤ 65535) → (0 ≤ Int32.toInt x3 ∧ Int32.toInt x3 ≤ 1) → (0 ≤ Int32.toInt bL ∧ Int32.toInt bL ≤ 16) → (0 ≤ Int32.toInt bY ∧ Int32.toInt bY ≤ 0) → (Int32.toInt bL + ((pcn 16 x1 : Nat) : Int) ≤ 16) → (((pcn 16 x1 : Nat) : Int) + Int32.toInt x3 < n41) → K41 x1 x2 x3 bL bY sW) (hK50 : ∀ (x1 : Int32) (x2 : Int32) (x3 : Int32) (x4 : Int32) (bL : Int32) (bY : Int32) (sW : Nat → Int32), (0 ≤ Int32.toInt x1 ∧ Int32.toInt x1 ≤ 65535) → (0 ≤ Int32.toInt x2 ∧ Int32.toInt x2 ≤ 65535) → (0 ≤ Int32.toInt x3 ∧ Int32.toInt x3 ≤ 1) → (0 ≤ Int32.toInt x4 ∧ Int32.toInt x4 ≤ 16) → (0 ≤ Int32.toInt bL ∧ Int32.toInt bL ≤ 16) → (0 ≤ Int32.toInt bY ∧ Int32.toInt bY ≤ 0) → (Int32.toInt bL + ((pcn 16 x1 : Nat) : Int) ≤ 16) → (((pcn 16 x1 : Nat) : Int) + Int32.toInt x3 < n41) → (((pcn 16 x1 : Nat) : Int) + Int32.toInt x3 ≤ n41) → (16 - Int32.toInt x4 < n50) → K50 x1 x2 x3 x4 bL bY sW) (x1 x2 x3 x4 bL bY : Int32) (sW : Nat → Int32) (aBK : 0 ≤ Int32.toInt x1 ∧ Int32.toInt x1 ≤ 65535) (aBN : 0 ≤ Int32.toInt x2 ∧ Int32.toInt x2 ≤ 65535) (aCH : 0 ≤ Int32.toInt x3 ∧ Int32.toInt x3 ≤ 1) (aDO : 0 ≤ Int32.toInt x4 ∧ Int32.toInt x4 ≤ 15) (yJ : 0 ≤ Int32.toInt bL ∧ Int32.toInt bL ≤ 16) (yG : 0 ≤ Int32.toInt bY ∧ Int32.toInt bY ≤ 0) (hx0 : Int32.toInt bL + ((pcn 16 x1 : Nat) : Int) ≤ 16) (hx1 : ((pcn 16 x1 : Nat) : Int) + Int32.toInt x3 < n41) (hn41 : ((pcn 16 x1 : Nat) : Int) + Int32.toInt x3 ≤ n41) (hn50 : 16 - Int32.toInt x4 ≤ n50) : ws_X10_gentle_111 post K41 K50 bT qG m_x gR qR nG oO pJ x1 x2 x3 x4 bL bY sW := by
  have l0 := aEc
  intro v2 ev2
  have f3 : Int32.toInt (x4 + 1) = Int32.toInt x4 + Int32.toInt (1 : Int32) := aAD _ _ ⟨by omega, by omega⟩
  rw [← ev2] at f3
  have j4 := pcn_le 16 (x1)
  exact hK50 x1 x2 x3 v2 bL bY sW aBK aBN aCH ⟨by omega, by omega⟩ yJ yG hx0 hx1 hn41 (by omega)
set_option maxHeartbeats 8000000 in
set_option maxRecDepth 200000 in
theorem ts_X10_gentle_50 {post : Int32 → Int32 → Int32 → (Nat → Int32) → Prop} {SB : Int} {K41 : Int32 → Int32 → Int32 → Int32 → Int32 → (Nat → Int32) → Prop} {next : Int32 → Int32 → Int32 → Int32 → Int32 → Int32 → (Nat → Int32) → Prop} {n50 n41 : Int} (bT : Int32) (qG m_x gR qR nG oO pJ : Nat → Int32) (xJ : 0 ≤ Int32.toInt bT ∧ Int32.toInt bT ≤ 16) (xU : ∀ k : Nat, k = 17 → -1 ≤ Int32.toInt (qG k) ∧ Int32.toInt (qG k) ≤ SB) (xV : ∀ k : Nat, k = 19 → 0 ≤ Int32.toInt (qG k) ∧ Int32.toInt (qG k) ≤ 9) (aAW : ∀ k : Nat, 0 ≤ Int32.toInt (m_x k) ∧ Int32.toInt (m_x k) ≤ 99) (xK : ∀ k : Nat, 0 ≤ Int32.toInt (gR k) ∧ Int32.toInt (gR k) ≤ 99) (zM : ∀ k : Nat, 0 ≤ Int32.toInt (qR k) ∧ Int32.toInt (qR k) ≤ 9) (xT : ∀ k : Nat, 0 ≤ Int32.toInt (nG k) ∧ Int32.toInt (nG k) ≤ 99) (yF : ∀ k : Nat, 0 ≤ Int32.toInt (oO k) ∧ Int32.toInt (oO k) ≤ 99) (yD : ∀ k : Nat, k = 4 → 1 ≤ Int32.toInt (pJ k) ∧ Int32.toInt (pJ k) ≤ 30) (xZ : ∀ k : Nat, k = 3 → 0 ≤ Int32.toInt (pJ k) ∧ Int32.toInt (pJ k) ≤ 9) (hc0 : -1 ≤ SB ∧ SB ≤ 7) (hpost : ∀ (r : Int32) (xM : Int32) (xG : Int32) (aBX : Nat → Int32), (-2 ≤ Int32.toInt r ∧ Int32.toInt r ≤ 16) → (0 ≤ Int32.toInt xM ∧ Int32.toInt xM ≤ 16) → (0 ≤ Int32.toInt xG ∧ Int32.toInt xG ≤ 0) → post r xM xG aBX) (hK41 : ∀ (x1 : Int32) (x2 : Int32) (x3 : Int32) (bL : Int32) (bY : Int32) (sW : Nat → Int32), (0 ≤ Int32.toInt x1 ∧ Int32.toInt x1 ≤ 65535) → (0 ≤ Int32.toInt x2 ∧ Int32.toInt x2 ≤ 65535) → (0 ≤ Int32.toInt x3 ∧ Int32.toInt x3 ≤ 1) → (0 ≤ Int32.toInt bL ∧ Int32.toInt bL ≤ 16) → (0 ≤ Int32.toInt bY ∧ Int32.toInt bY ≤ 0) → (Int32.toInt bL + ((pcn 16 x1 : Nat) : Int) ≤ 16) → (((pcn 16 x1 : Nat) : Int) + Int32.toInt x3 < n41) → K41 x1 x2 x3 bL bY sW) (hKn : ∀ (x1 : Int32) (x2 : Int32) (x3 : Int32) (x4 : Int32) (bL : Int32) (bY : Int32) (sW : Nat → Int32), (0 ≤ Int32.toInt x1 ∧ Int32.toInt x1 ≤ 65535) → (0 ≤ Int32.toInt x2 ∧ Int32.toInt x2 ≤ 65535) → (0 ≤ Int32.toInt x3 ∧ Int32.toInt x3 ≤ 1) → (0 ≤ Int32.toInt x4 ∧ Int32.toInt x4 ≤ 16) → (0 ≤ Int32.toInt bL ∧ Int32.toInt bL ≤ 16) → (0 ≤ Int32.toInt bY ∧ Int32.toInt bY ≤ 0) → (Int32.toInt bL + ((pcn 16 x1 : Nat) : Int) ≤ 16) → (((pcn 16 x1 : Nat) : Int) + Int32.toInt x3 < n41) → (((pcn 16 x1 : Nat) : Int) + Int32.toInt x3 ≤ n41) → (16 - Int32.toInt x4 < n50) → next x1 x2 x3 x4 bL bY sW) (x1 x2 x3 x4 bL bY : Int32) (sW : Nat → Int32) (aBK : 0 ≤ Int32.toInt x1 ∧ Int32.toInt x1 ≤ 65535) (aBN : 0 ≤ Int32.toInt x2 ∧ Int32.toInt x2 ≤ 65535) (aCH : 0 ≤ Int32.toInt x3 ∧ Int32.toInt x3 ≤ 1) (aDO : 0 ≤ Int32.toInt x4 ∧ Int32.toInt x4 ≤ 16) (yJ : 0 ≤ Int32.toInt bL ∧ Int32.toInt bL ≤ 16) (yG : 0 ≤ Int32.toInt bY ∧ Int32.toInt bY ≤ 0) (hx0 : Int32.toInt bL + ((pcn 16 x1 : Nat) : Int) ≤ 16) (hx1 : ((pcn 16 x1 : Nat) : Int) + Int32.toInt x3 < n41) (hn41 : ((pcn 16 x1 : Nat) : Int) + Int32.toInt x3 ≤ n41) (hn50 : 16 - Int32.toInt x4 ≤ n50) : ws_X10_gentle_50 post K41 next bT qG m_x gR qR nG oO pJ x1 x2 x3 x4 bL bY sW := by
  have l0 := aE0
  have l1 := aEc
  refine And.intro (fun c5 => ?_) (fun c5 => ?_)
  · skip
    have c5 := (aAO _ _).mp c5
    have j6 := pcn_le 16 (x1)
    exact ts_X10_gentle_117 bT qG m_x gR qR nG oO pJ xJ xU xV aAW xK zM xT yF yD xZ hc0 hpost hK41 x1 x2 x3 bL bY sW aBK aBN aCH yJ yG hx0 hx1 hn41
  · skip
    have c5 := mt (aAO _ _).mpr c5
    refine And.intro (fun c7 => ?_) (fun c7 => ?_)
    · skip
      have c7 := mt (zJ _ _).mpr c7
      have j8 := pcn_le 16 (x1)
      exact ts_X10_gentle_117 bT qG m_x gR qR nG oO pJ xJ xU xV aAW xK zM xT yF yD xZ hc0 hpost hK41 x1 x2 x3 bL bY sW aBK aBN aCH yJ yG hx0 hx1 hn41
    · skip
      have c7 := (zJ _ _).mp c7
      intro v9 ev9
      have f10 := aRJ x1 x4 (by omega)
      have hv9 := congrArg Int32.toInt ev9
      intro v11 ev11
      have f12 := aAQ v9 1 (by omega)
      have f13 := aBx v9 1 (by omega)
      have hv11 := congrArg Int32.toInt ev11
      refine And.intro (fun c14 => ?_) (fun c14 => ?_)
      · skip
        have c14 := mt (zJ _ _).mpr c14
        refine And.intro (fun _ => ?_) (fun h9 => absurd h9 (by decide))
        have j15 := pcn_le 16 (x1)
        exact ts_X10_gentle_111 bT qG m_x gR qR nG oO pJ xJ xU xV aAW xK zM xT yF yD xZ hc0 hpost hK41 hKn x1 x2 x3 x4 bL bY sW aBK aBN aCH ⟨by omega, by omega⟩ yJ yG hx0 hx1 hn41 hn50
      · skip
        have c14 := (zJ _ _).mp c14
        refine And.intro (fun h9 => absurd h9 (by decide)) (fun _ => ?_)
        have j16 := pcn_pos x1 x4 (by assumption) (by assumption) (by omega) (by omega)
        refine t_X10_below ⟨by omega, by omega⟩ aBN xJ aAW xK (fun r17 h_r17 => ?_)
        refine And.intro (fun c18 => ?_) (fun c18 => ?_)
        · skip
          have c18 := (zJ _ _).mp c18
          refine And.intro (aBZ ⟨by omega, by omega⟩) ?_
          intro v19 ev19
          have f20 : Int32.toInt (bL + 1) = Int32.toInt bL + Int32.toInt (1 : Int32) := aAD _ _ ⟨by omega, by omega⟩
          rw [← ev19] at f20
          intro v21 ev21
          have f22 := aDv 15 32768 x4 (by decide) ⟨by omega, by omega⟩
          have hv21 := congrArg Int32.toInt ev21
          intro v23 ev23
          have f25 := aBx x1 (v21 ^^^ (-1)) (by omega)
          have hv23 := congrArg Int32.toInt ev23
          have j26 := pcn_clr v23 x4 (by assumption) (by assumption) (by omega) (by assumption) (by assumption) (by omega)
          intro v27 ev27
          have hv27 := congrArg Int32.toInt ev27
          intro v28 ev28
          have f30 := aBx x2 (v27 ^^^ (-1)) (by omega)
          have hv28 := congrArg Int32.toInt ev28
          have j31 := pcn_le 16 (v23)
          exact ts_X10_gentle_111 bT qG m_x gR qR nG oO pJ xJ xU xV aAW xK zM xT yF yD xZ hc0 hpost hK41 hKn v23 v28 1 x4 v19 bY (upd sW bL.toNatClampNeg x4) ⟨by omega, by omega⟩ ⟨by omega, by omega⟩ ⟨by omega, by omega⟩ ⟨by omega, by omega⟩ ⟨by omega, by omega⟩ yG (by omega) (by omega) (by omega) hn50
        · skip
          have c18 := mt (zJ _ _).mpr c18
          have j32 := pcn_le 16 (x1)
          exact ts_X10_gentle_111 bT qG m_x gR qR nG oO pJ xJ xU xV aAW xK zM xT yF yD xZ hc0 hpost hK41 hKn x1 x2 x3 x4 bL bY sW aBK aBN aCH ⟨by omega, by omega⟩ yJ yG hx0 hx1 hn41 hn50
set_option maxHeartbeats 8000000 in
set_option maxRecDepth 200000 in
theorem tb_X10_gentle_50 {post : Int32 → Int32 → Int32 → (Nat → Int32) → Prop} {SB : Int} {K41 : Int32 → Int32 → Int32 → Int32 → Int32 → (Nat → Int32) → Prop} {n41 : Int} (bT : Int32) (qG m_x gR qR nG oO pJ : Nat → Int32) (xJ : 0 ≤ Int32.toInt bT ∧ Int32.toInt bT ≤ 16) (xU : ∀ k : Nat, k = 17 → -1 ≤ Int32.toInt (qG k) ∧ Int32.toInt (qG k) ≤ SB) (xV : ∀ k : Nat, k = 19 → 0 ≤ Int32.toInt (qG k) ∧ Int32.toInt (qG k) ≤ 9) (aAW : ∀ k : Nat, 0 ≤ Int32.toInt (m_x k) ∧ Int32.toInt (m_x k) ≤ 99) (xK : ∀ k : Nat, 0 ≤ Int32.toInt (gR k) ∧ Int32.toInt (gR k) ≤ 99) (zM : ∀ k : Nat, 0 ≤ Int32.toInt (qR k) ∧ Int32.toInt (qR k) ≤ 9) (xT : ∀ k : Nat, 0 ≤ Int32.toInt (nG k) ∧ Int32.toInt (nG k) ≤ 99) (yF : ∀ k : Nat, 0 ≤ Int32.toInt (oO k) ∧ Int32.toInt (oO k) ≤ 99) (yD : ∀ k : Nat, k = 4 → 1 ≤ Int32.toInt (pJ k) ∧ Int32.toInt (pJ k) ≤ 30) (xZ : ∀ k : Nat, k = 3 → 0 ≤ Int32.toInt (pJ k) ∧ Int32.toInt (pJ k) ≤ 9) (hc0 : -1 ≤ SB ∧ SB ≤ 7) (hpost : ∀ (r : Int32) (xM : Int32) (xG : Int32) (aBX : Nat → Int32), (-2 ≤ Int32.toInt r ∧ Int32.toInt r ≤ 16) → (0 ≤ Int32.toInt xM ∧ Int32.toInt xM ≤ 16) → (0 ≤ Int32.toInt xG ∧ Int32.toInt xG ≤ 0) → post r xM xG aBX) (hK41 : ∀ (x1 : Int32) (x2 : Int32) (x3 : Int32) (bL : Int32) (bY : Int32) (sW : Nat → Int32), (0 ≤ Int32.toInt x1 ∧ Int32.toInt x1 ≤ 65535) → (0 ≤ Int32.toInt x2 ∧ Int32.toInt x2 ≤ 65535) → (0 ≤ Int32.toInt x3 ∧ Int32.toInt x3 ≤ 1) → (0 ≤ Int32.toInt bL ∧ Int32.toInt bL ≤ 16) → (0 ≤ Int32.toInt bY ∧ Int32.toInt bY ≤ 0) → (Int32.toInt bL + ((pcn 16 x1 : Nat) : Int) ≤ 16) → (((pcn 16 x1 : Nat) : Int) + Int32.toInt x3 < n41) → K41 x1 x2 x3 bL bY sW) : ∀ (n : Nat) (x1 x2 x3 x4 bL bY : Int32) (sW : Nat → Int32), (0 ≤ Int32.toInt x1 ∧ Int32.toInt x1 ≤ 65535) → (0 ≤ Int32.toInt x2 ∧ Int32.toInt x2 ≤ 65535) → (0 ≤ Int32.toInt x3 ∧ Int32.toInt x3 ≤ 1) → (0 ≤ Int32.toInt x4 ∧ Int32.toInt x4 ≤ 16) → (0 ≤ Int32.toInt bL ∧ Int32.toInt bL ≤ 16) → (0 ≤ Int32.toInt bY ∧ Int32.toInt bY ≤ 0) → (Int32.toInt bL + ((pcn 16 x1 : Nat) : Int) ≤ 16) → (((pcn 16 x1 : Nat) : Int) + Int32.toInt x3 < n41) → (((pcn 16 x1 : Nat) : Int) + Int32.toInt x3 ≤ n41) → (16 - Int32.toInt x4 < (n : Int)) → wb_X10_gentle_50 post K41 bT qG m_x gR qR nG oO pJ n x1 x2 x3 x4 bL bY sW := by
  intro n
  induction n with
  | zero =>
    intro x1 x2 x3 x4 bL bY sW aBK aBN aCH aDO yJ yG hx0 hx1 hn41 hm
    exfalso; omega
  | succ n ih =>
    intro x1 x2 x3 x4 bL bY sW aBK aBN aCH aDO yJ yG hx0 hx1 hn41 hm
    exact ts_X10_gentle_50 bT qG m_x gR qR nG oO pJ xJ xU xV aAW xK zM xT yF yD xZ hc0 hpost hK41 ih x1 x2 x3 x4 bL bY sW aBK aBN aCH aDO yJ yG hx0 hx1 hn41 (by omega)
set_option maxHeartbeats 8000000 in
set_option maxRecDepth 200000 in
theorem ts_X10_gentle_41 {post : Int32 → Int32 → Int32 → (Nat → Int32) → Prop} {SB : Int} {next : Int32 → Int32 → Int32 → Int32 → Int32 → (Nat → Int32) → Prop} {n41 : Int} (bT : Int32) (qG m_x gR qR nG oO pJ : Nat → Int32) (xJ : 0 ≤ Int32.toInt bT ∧ Int32.toInt bT ≤ 16) (xU : ∀ k : Nat, k = 17 → -1 ≤ Int32.toInt (qG k) ∧ Int32.toInt (qG k) ≤ SB) (xV : ∀ k : Nat, k = 19 → 0 ≤ Int32.toInt (qG k) ∧ Int32.toInt (qG k) ≤ 9) (aAW : ∀ k : Nat, 0 ≤ Int32.toInt (m_x k) ∧ Int32.toInt (m_x k) ≤ 99) (xK : ∀ k : Nat, 0 ≤ Int32.toInt (gR k) ∧ Int32.toInt (gR k) ≤ 99) (zM : ∀ k : Nat, 0 ≤ Int32.toInt (qR k) ∧ Int32.toInt (qR k) ≤ 9) (xT : ∀ k : Nat, 0 ≤ Int32.toInt (nG k) ∧ Int32.toInt (nG k) ≤ 99) (yF : ∀ k : Nat, 0 ≤ Int32.toInt (oO k) ∧ Int32.toInt (oO k) ≤ 99) (yD : ∀ k : Nat, k = 4 → 1 ≤ Int32.toInt (pJ k) ∧ Int32.toInt (pJ k) ≤ 30) (xZ : ∀ k : Nat, k = 3 → 0 ≤ Int32.toInt (pJ k) ∧ Int32.toInt (pJ k) ≤ 9) (hc0 : -1 ≤ SB ∧ SB ≤ 7) (hpost : ∀ (r : Int32) (xM : Int32) (xG : Int32) (aBX : Nat → Int32), (-2 ≤ Int32.toInt r ∧ Int32.toInt r ≤ 16) → (0 ≤ Int32.toInt xM ∧ Int32.toInt xM ≤ 16) → (0 ≤ Int32.toInt xG ∧ Int32.toInt xG ≤ 0) → post r xM xG aBX) (hKn : ∀ (x1 : Int32) (x2 : Int32) (x3 : Int32) (bL : Int32) (bY : Int32) (sW : Nat → Int32), (0 ≤ Int32.toInt x1 ∧ Int32.toInt x1 ≤ 65535) → (0 ≤ Int32.toInt x2 ∧ Int32.toInt x2 ≤ 65535) → (0 ≤ Int32.toInt x3 ∧ Int32.toInt x3 ≤ 1) → (0 ≤ Int32.toInt bL ∧ Int32.toInt bL ≤ 16) → (0 ≤ Int32.toInt bY ∧ Int32.toInt bY ≤ 0) → (Int32.toInt bL + ((pcn 16 x1 : Nat) : Int) ≤ 16) → (((pcn 16 x1 : Nat) : Int) + Int32.toInt x3 < n41) → next x1 x2 x3 bL bY sW) (x1 x2 x3 bL bY : Int32) (sW : Nat → Int32) (aBK : 0 ≤ Int32.toInt x1 ∧ Int32.toInt x1 ≤ 65535) (aBN : 0 ≤ Int32.toInt x2 ∧ Int32.toInt x2 ≤ 65535) (aCH : 0 ≤ Int32.toInt x3 ∧ Int32.toInt x3 ≤ 1) (yJ : 0 ≤ Int32.toInt bL ∧ Int32.toInt bL ≤ 16) (yG : 0 ≤ Int32.toInt bY ∧ Int32.toInt bY ≤ 0) (hx0 : Int32.toInt bL + ((pcn 16 x1 : Nat) : Int) ≤ 16) (hn41 : ((pcn 16 x1 : Nat) : Int) + Int32.toInt x3 ≤ n41) : ws_X10_gentle_41 post next bT qG m_x gR qR nG oO pJ x1 x2 x3 bL bY sW := by
  have l0 := aE0
  refine And.intro (fun c33 => ?_) (fun c33 => ?_)
  · skip
    have c33 := (zJ _ _).mp c33
    exact hpost _ _ _ _ ⟨by omega, by omega⟩ yJ yG
  · skip
    have c33 := mt (zJ _ _).mpr c33
    have j34 := pcn_le 16 (x1)
    exact ⟨18, tb_X10_gentle_50 bT qG m_x gR qR nG oO pJ xJ xU xV aAW xK zM xT yF yD xZ hc0 hpost hKn _ x1 x2 0 0 bL bY sW aBK aBN ⟨by omega, by omega⟩ ⟨by omega, by omega⟩ yJ yG hx0 (by omega) (by omega) (by omega)⟩
set_option maxHeartbeats 8000000 in
set_option maxRecDepth 200000 in
theorem tb_X10_gentle_41 {post : Int32 → Int32 → Int32 → (Nat → Int32) → Prop} {SB : Int} (bT : Int32) (qG m_x gR qR nG oO pJ : Nat → Int32) (xJ : 0 ≤ Int32.toInt bT ∧ Int32.toInt bT ≤ 16) (xU : ∀ k : Nat, k = 17 → -1 ≤ Int32.toInt (qG k) ∧ Int32.toInt (qG k) ≤ SB) (xV : ∀ k : Nat, k = 19 → 0 ≤ Int32.toInt (qG k) ∧ Int32.toInt (qG k) ≤ 9) (aAW : ∀ k : Nat, 0 ≤ Int32.toInt (m_x k) ∧ Int32.toInt (m_x k) ≤ 99) (xK : ∀ k : Nat, 0 ≤ Int32.toInt (gR k) ∧ Int32.toInt (gR k) ≤ 99) (zM : ∀ k : Nat, 0 ≤ Int32.toInt (qR k) ∧ Int32.toInt (qR k) ≤ 9) (xT : ∀ k : Nat, 0 ≤ Int32.toInt (nG k) ∧ Int32.toInt (nG k) ≤ 99) (yF : ∀ k : Nat, 0 ≤ Int32.toInt (oO k) ∧ Int32.toInt (oO k) ≤ 99) (yD : ∀ k : Nat, k = 4 → 1 ≤ Int32.toInt (pJ k) ∧ Int32.toInt (pJ k) ≤ 30) (xZ : ∀ k : Nat, k = 3 → 0 ≤ Int32.toInt (pJ k) ∧ Int32.toInt (pJ k) ≤ 9) (hc0 : -1 ≤ SB ∧ SB ≤ 7) (hpost : ∀ (r : Int32) (xM : Int32) (xG : Int32) (aBX : Nat → Int32), (-2 ≤ Int32.toInt r ∧ Int32.toInt r ≤ 16) → (0 ≤ Int32.toInt xM ∧ Int32.toInt xM ≤ 16) → (0 ≤ Int32.toInt xG ∧ Int32.toInt xG ≤ 0) → post r xM xG aBX) : ∀ (n : Nat) (x1 x2 x3 bL bY : Int32) (sW : Nat → Int32), (0 ≤ Int32.toInt x1 ∧ Int32.toInt x1 ≤ 65535) → (0 ≤ Int32.toInt x2 ∧ Int32.toInt x2 ≤ 65535) → (0 ≤ Int32.toInt x3 ∧ Int32.toInt x3 ≤ 1) → (0 ≤ Int32.toInt bL ∧ Int32.toInt bL ≤ 16) → (0 ≤ Int32.toInt bY ∧ Int32.toInt bY ≤ 0) → (Int32.toInt bL + ((pcn 16 x1 : Nat) : Int) ≤ 16) → (((pcn 16 x1 : Nat) : Int) + Int32.toInt x3 < (n : Int)) → wb_X10_gentle_41 post bT qG m_x gR qR nG oO pJ n x1 x2 x3 bL bY sW := by
  intro n
  induction n with
  | zero =>
    intro x1 x2 x3 bL bY sW aBK aBN aCH yJ yG hx0 hm
    exfalso; omega
  | succ n ih =>
    intro x1 x2 x3 bL bY sW aBK aBN aCH yJ yG hx0 hm
    exact ts_X10_gentle_41 bT qG m_x gR qR nG oO pJ xJ xU xV aAW xK zM xT yF yD xZ hc0 hpost ih x1 x2 x3 bL bY sW aBK aBN aCH yJ yG hx0 (by omega)
set_option maxHeartbeats 8000000 in
set_option maxRecDepth 200000 in
theorem t_X10_gentle {post : Int32 → Int32 → Int32 → (Nat → Int32) → Prop} {SB : Int} {bT bL bY : Int32} {qG m_x gR qR nG oO pJ sW : Nat → Int32} (xJ : 0 ≤ Int32.toInt bT ∧ Int32.toInt bT ≤ 16) (yJ : 0 ≤ Int32.toInt bL ∧ Int32.toInt bL ≤ 16) (yG : 0 ≤ Int32.toInt bY ∧ Int32.toInt bY ≤ 1) (xU : ∀ k : Nat, k = 17 → -1 ≤ Int32.toInt (qG k) ∧ Int32.toInt (qG k) ≤ SB) (xV : ∀ k : Nat, k = 19 → 0 ≤ Int32.toInt (qG k) ∧ Int32.toInt (qG k) ≤ 9) (aAW : ∀ k : Nat, 0 ≤ Int32.toInt (m_x k) ∧ Int32.toInt (m_x k) ≤ 99) (xK : ∀ k : Nat, 0 ≤ Int32.toInt (gR k) ∧ Int32.toInt (gR k) ≤ 99) (zM : ∀ k : Nat, 0 ≤ Int32.toInt (qR k) ∧ Int32.toInt (qR k) ≤ 9) (xT : ∀ k : Nat, 0 ≤ Int32.toInt (nG k) ∧ Int32.toInt (nG k) ≤ 99) (yF : ∀ k : Nat, 0 ≤ Int32.toInt (oO k) ∧ Int32.toInt (oO k) ≤ 99) (yD : ∀ k : Nat, k = 4 → 1 ≤ Int32.toInt (pJ k) ∧ Int32.toInt (pJ k) ≤ 30) (xZ : ∀ k : Nat, k = 3 → 0 ≤ Int32.toInt (pJ k) ∧ Int32.toInt (pJ k) ≤ 9) (hc0 : -1 ≤ SB ∧ SB ≤ 7) (hpost : ∀ (r : Int32) (xM : Int32) (xG : Int32) (aBX : Nat → Int32), (-2 ≤ Int32.toInt r ∧ Int32.toInt r ≤ 16) → (0 ≤ Int32.toInt xM ∧ Int32.toInt xM ≤ 16) → (0 ≤ Int32.toInt xG ∧ Int32.toInt xG ≤ 0) → post r xM xG aBX) : wp_X10_gentle post bT bL bY qG m_x gR qR nG oO pJ sW := by
  have l0 := aI2
  have l1 := li_m2
  have l2 := aE0
  have l3 := aEc
  have l4 := li_17
  have l5 := li_18
  have l6 := li_19
  have q35 := xU (17 : Int32).toNatClampNeg (by have e9 : (17 : Int32).toNatClampNeg = (Int32.toInt (17 : Int32)).toNat := rfl; omega)
  intro v36 ev36
  have hv36 := congrArg Int32.toInt ev36
  refine And.intro (fun c38 => ?_) (fun c38 => ?_)
  · skip
    have c38 := mt (zJ _ _).mpr c38
    refine aKO ⟨by omega, by omega⟩ xJ xU xV (by omega) (fun r39 h_r39 ox40 => ?_)
    have q41 := xV (19 : Int32).toNatClampNeg (by have e9 : (19 : Int32).toNatClampNeg = (Int32.toInt (19 : Int32)).toNat := rfl; omega)
    intro v42 ev42
    have hv42 := congrArg Int32.toInt ev42
    refine aXh ⟨by omega, by omega⟩ xJ zM (fun r44 h_r44 ox45 => ?_)
    intro v46 ev46
    have f47 := aAQ r39 r44 (by omega)
    have f48 := aBx r39 r44 (by omega)
    have hv46 := congrArg Int32.toInt ev46
    have q49 := xU (17 : Int32).toNatClampNeg (by have e9 : (17 : Int32).toNatClampNeg = (Int32.toInt (17 : Int32)).toNat := rfl; omega)
    intro v50 ev50
    have hv50 := congrArg Int32.toInt ev50
    intro v51 ev51
    have hv51 := congrArg Int32.toInt ev51
    refine aX7 ⟨by omega, by omega⟩ ⟨by omega, by omega⟩ xJ aAW xK xT yF yD xZ (fun r53 h_r53 => ?_)
    refine aKO ⟨by omega, by omega⟩ xJ xU xV (by omega) (fun r54 h_r54 ox55 => ?_)
    have f56 := aAQ v46 r53 (by omega)
    have f57 := aBx v46 r53 (by omega)
    have j58 := pcn_le 16 (v46 &&& r53)
    exact ⟨19, tb_X10_gentle_41 bT qG m_x gR qR nG oO pJ xJ xU xV aAW xK zM xT yF yD xZ hc0 hpost _ (v46 &&& r53) r54 1 0 0 sW ⟨by omega, by omega⟩ h_r54 ⟨by omega, by omega⟩ ⟨by omega, by omega⟩ ⟨by omega, by omega⟩ (by omega) (by omega)⟩
  · skip
    have c38 := (zJ _ _).mp c38
    exact hpost _ _ _ _ ⟨by omega, by omega⟩ yJ ⟨by omega, by omega⟩
set_option maxHeartbeats 8000000 in
set_option maxRecDepth 200000 in
theorem ts_X10_harm_79 {post : Int32 → Int32 → Int32 → (Nat → Int32) → Prop} {SB : Int} {K39 : Int32 → Int32 → Int32 → Int32 → Int32 → Int32 → (Nat → Int32) → Prop} {n39 : Int} (bT : Int32) (qG m_x gR pW qR nG oO pJ : Nat → Int32) (xJ : 0 ≤ Int32.toInt bT ∧ Int32.toInt bT ≤ 16) (xU : ∀ k : Nat, k = 17 → -1 ≤ Int32.toInt (qG k) ∧ Int32.toInt (qG k) ≤ SB) (xV : ∀ k : Nat, k = 19 → 0 ≤ Int32.toInt (qG k) ∧ Int32.toInt (qG k) ≤ 9) (aAW : ∀ k : Nat, 0 ≤ Int32.toInt (m_x k) ∧ Int32.toInt (m_x k) ≤ 99) (xK : ∀ k : Nat, 0 ≤ Int32.toInt (gR k) ∧ Int32.toInt (gR k) ≤ 99) (yR : ∀ k : Nat, 0 ≤ Int32.toInt (pW k) ∧ Int32.toInt (pW k) ≤ 9) (zM : ∀ k : Nat, 0 ≤ Int32.toInt (qR k) ∧ Int32.toInt (qR k) ≤ 9) (xT : ∀ k : Nat, 0 ≤ Int32.toInt (nG k) ∧ Int32.toInt (nG k) ≤ 99) (yF : ∀ k : Nat, 0 ≤ Int32.toInt (oO k) ∧ Int32.toInt (oO k) ≤ 99) (yD : ∀ k : Nat, k = 4 → 1 ≤ Int32.toInt (pJ k) ∧ Int32.toInt (pJ k) ≤ 30) (xZ : ∀ k : Nat, k = 3 → 0 ≤ Int32.toInt (pJ k) ∧ Int32.toInt (pJ k) ≤ 9) (hc0 : -1 ≤ SB ∧ SB ≤ 7) (hpost : ∀ (r : Int32) (xM : Int32) (xG : Int32) (aBX : Nat → Int32), (-2 ≤ Int32.toInt r ∧ Int32.toInt r ≤ 65535) → (0 ≤ Int32.toInt xM ∧ Int32.toInt xM ≤ 16) → (0 ≤ Int32.toInt xG ∧ Int32.toInt xG ≤ 0) → post r xM xG aBX) (hK39 : ∀ (x1 : Int32) (x2 : Int32) (x3 : Int32) (x4 : Int32) (bL : Int32) (bY : Int32) (sW : Nat → Int32), (0 ≤ Int32.toInt x1 ∧ Int32.toInt x1 ≤ 65535) → (0 ≤ Int32.toInt x2 ∧ Int32.toInt x2 ≤ 65535) → (0 ≤ Int32.toInt x3 ∧ Int32.toInt x3 ≤ 65535) → (0 ≤ Int32.toInt x4 ∧ Int32.toInt x4 ≤ 16) → (0 ≤ Int32.toInt bL ∧ Int32.toInt bL ≤ 16) → (0 ≤ Int32.toInt bY ∧ Int32.toInt bY ≤ 0) → (16 - Int32.toInt x4 < n39) → K39 x1 x2 x3 x4 bL bY sW) (x1 x2 x3 x4 bL bY : Int32) (sW : Nat → Int32) (aBK : 0 ≤ Int32.toInt x1 ∧ Int32.toInt x1 ≤ 65535) (aBN : 0 ≤ Int32.toInt x2 ∧ Int32.toInt x2 ≤ 65535) (aCH : 0 ≤ Int32.toInt x3 ∧ Int32.toInt x3 ≤ 65535) (aDO : 0 ≤ Int32.toInt x4 ∧ Int32.toInt x4 ≤ 15) (yJ : 0 ≤ Int32.toInt bL ∧ Int32.toInt bL ≤ 16) (yG : 0 ≤ Int32.toInt bY ∧ Int32.toInt bY ≤ 0) (hn39 : 16 - Int32.toInt x4 ≤ n39) : ws_X10_harm_79 post K39 bT qG m_x gR pW qR nG oO pJ x1 x2 x3 x4 bL bY sW := by
  have l0 := aEc
  intro v1 ev1
  have f2 : Int32.toInt (x4 + 1) = Int32.toInt x4 + Int32.toInt (1 : Int32) := aAD _ _ ⟨by omega, by omega⟩
  rw [← ev1] at f2
  exact hK39 x1 x2 x3 v1 bL bY sW aBK aBN aCH ⟨by omega, by omega⟩ yJ yG (by omega)
set_option maxHeartbeats 8000000 in
set_option maxRecDepth 200000 in
theorem ts_X10_harm_39 {post : Int32 → Int32 → Int32 → (Nat → Int32) → Prop} {SB : Int} {next : Int32 → Int32 → Int32 → Int32 → Int32 → Int32 → (Nat → Int32) → Prop} {n39 : Int} (bT : Int32) (qG m_x gR pW qR nG oO pJ : Nat → Int32) (xJ : 0 ≤ Int32.toInt bT ∧ Int32.toInt bT ≤ 16) (xU : ∀ k : Nat, k = 17 → -1 ≤ Int32.toInt (qG k) ∧ Int32.toInt (qG k) ≤ SB) (xV : ∀ k : Nat, k = 19 → 0 ≤ Int32.toInt (qG k) ∧ Int32.toInt (qG k) ≤ 9) (aAW : ∀ k : Nat, 0 ≤ Int32.toInt (m_x k) ∧ Int32.toInt (m_x k) ≤ 99) (xK : ∀ k : Nat, 0 ≤ Int32.toInt (gR k) ∧ Int32.toInt (gR k) ≤ 99) (yR : ∀ k : Nat, 0 ≤ Int32.toInt (pW k) ∧ Int32.toInt (pW k) ≤ 9) (zM : ∀ k : Nat, 0 ≤ Int32.toInt (qR k) ∧ Int32.toInt (qR k) ≤ 9) (xT : ∀ k : Nat, 0 ≤ Int32.toInt (nG k) ∧ Int32.toInt (nG k) ≤ 99) (yF : ∀ k : Nat, 0 ≤ Int32.toInt (oO k) ∧ Int32.toInt (oO k) ≤ 99) (yD : ∀ k : Nat, k = 4 → 1 ≤ Int32.toInt (pJ k) ∧ Int32.toInt (pJ k) ≤ 30) (xZ : ∀ k : Nat, k = 3 → 0 ≤ Int32.toInt (pJ k) ∧ Int32.toInt (pJ k) ≤ 9) (hc0 : -1 ≤ SB ∧ SB ≤ 7) (hpost : ∀ (r : Int32) (xM : Int32) (xG : Int32) (aBX : Nat → Int32), (-2 ≤ Int32.toInt r ∧ Int32.toInt r ≤ 65535) → (0 ≤ Int32.toInt xM ∧ Int32.toInt xM ≤ 16) → (0 ≤ Int32.toInt xG ∧ Int32.toInt xG ≤ 0) → post r xM xG aBX) (hKn : ∀ (x1 : Int32) (x2 : Int32) (x3 : Int32) (x4 : Int32) (bL : Int32) (bY : Int32) (sW : Nat → Int32), (0 ≤ Int32.toInt x1 ∧ Int32.toInt x1 ≤ 65535) → (0 ≤ Int32.toInt x2 ∧ Int32.toInt x2 ≤ 65535) → (0 ≤ Int32.toInt x3 ∧ Int32.toInt x3 ≤ 65535) → (0 ≤ Int32.toInt x4 ∧ Int32.toInt x4 ≤ 16) → (0 ≤ Int32.toInt bL ∧ Int32.toInt bL ≤ 16) → (0 ≤ Int32.toInt bY ∧ Int32.toInt bY ≤ 0) → (16 - Int32.toInt x4 < n39) → next x1 x2 x3 x4 bL bY sW) (x1 x2 x3 x4 bL bY : Int32) (sW : Nat → Int32) (aBK : 0 ≤ Int32.toInt x1 ∧ Int32.toInt x1 ≤ 65535) (aBN : 0 ≤ Int32.toInt x2 ∧ Int32.toInt x2 ≤ 65535) (aCH : 0 ≤ Int32.toInt x3 ∧ Int32.toInt x3 ≤ 65535) (aDO : 0 ≤ Int32.toInt x4 ∧ Int32.toInt x4 ≤ 16) (yJ : 0 ≤ Int32.toInt bL ∧ Int32.toInt bL ≤ 16) (yG : 0 ≤ Int32.toInt bY ∧ Int32.toInt bY ≤ 0) (hn39 : 16 - Int32.toInt x4 ≤ n39) : ws_X10_harm_39 post next bT qG m_x gR pW qR nG oO pJ x1 x2 x3 x4 bL bY sW := by
  have l0 := aE0
  have l1 := aEc
  have l2 := li_16
  refine And.intro (fun c3 => ?_) (fun c3 => ?_)
  · skip
    have c3 := (aAO _ _).mp c3
    intro v4 ev4
    have hv4 := congrArg Int32.toInt ev4
    intro v6 ev6
    have f8 := aBx x3 (v4 ^^^ (-1)) (by omega)
    have hv6 := congrArg Int32.toInt ev6
    refine aNU ⟨by omega, by omega⟩ xJ yR (fun r9 => ?_)
    refine aNU ⟨by omega, by omega⟩ xJ yR (fun r10 => ?_)
    intro v11 ev11
    have hv11 := congrArg Int32.toInt ev11
    refine And.intro (aBZ ⟨by omega, by omega⟩) ?_
    intro v13 ev13
    have f14 : Int32.toInt (0 + 1) = Int32.toInt (0 : Int32) + Int32.toInt (1 : Int32) := aAD _ _ ⟨by omega, by omega⟩
    rw [← ev13] at f14
    exact hpost _ _ _ _ ⟨by omega, by omega⟩ ⟨by omega, by omega⟩ yG
  · skip
    have c3 := mt (aAO _ _).mpr c3
    intro v15 ev15
    have f16 := aRJ x1 x4 (by omega)
    have hv15 := congrArg Int32.toInt ev15
    intro v17 ev17
    have f18 := aAQ v15 1 (by omega)
    have f19 := aBx v15 1 (by omega)
    have hv17 := congrArg Int32.toInt ev17
    refine And.intro (fun c20 => ?_) (fun c20 => ?_)
    · skip
      have c20 := mt (zJ _ _).mpr c20
      refine And.intro (fun h9 => absurd h9 (by decide)) (fun _ => ?_)
      exact ts_X10_harm_79 bT qG m_x gR pW qR nG oO pJ xJ xU xV aAW xK yR zM xT yF yD xZ hc0 hpost hKn x1 x2 x3 x4 bL bY sW aBK aBN aCH ⟨by omega, by omega⟩ yJ yG hn39
    · skip
      have c20 := (zJ _ _).mp c20
      refine And.intro (fun _ => ?_) (fun h9 => absurd h9 (by decide))
      refine t_X10_below ⟨by omega, by omega⟩ aBN xJ aAW xK (fun r21 h_r21 => ?_)
      intro v22 ev22
      have f23 := ti_or 16 65536 x3 r21 (by decide) ⟨by omega, by omega⟩ ⟨by omega, by omega⟩
      have hv22 := congrArg Int32.toInt ev22
      intro v24 ev24
      have f25 := aDv 15 32768 x4 (by decide) ⟨by omega, by omega⟩
      have hv24 := congrArg Int32.toInt ev24
      intro v26 ev26
      have f28 := aBx x2 (v24 ^^^ (-1)) (by omega)
      have hv26 := congrArg Int32.toInt ev26
      exact ts_X10_harm_79 bT qG m_x gR pW qR nG oO pJ xJ xU xV aAW xK yR zM xT yF yD xZ hc0 hpost hKn x1 v26 v22 x4 bL bY sW aBK ⟨by omega, by omega⟩ ⟨by omega, by omega⟩ ⟨by omega, by omega⟩ yJ yG hn39
set_option maxHeartbeats 8000000 in
set_option maxRecDepth 200000 in
theorem tb_X10_harm_39 {post : Int32 → Int32 → Int32 → (Nat → Int32) → Prop} {SB : Int} (bT : Int32) (qG m_x gR pW qR nG oO pJ : Nat → Int32) (xJ : 0 ≤ Int32.toInt bT ∧ Int32.toInt bT ≤ 16) (xU : ∀ k : Nat, k = 17 → -1 ≤ Int32.toInt (qG k) ∧ Int32.toInt (qG k) ≤ SB) (xV : ∀ k : Nat, k = 19 → 0 ≤ Int32.toInt (qG k) ∧ Int32.toInt (qG k) ≤ 9) (aAW : ∀ k : Nat, 0 ≤ Int32.toInt (m_x k) ∧ Int32.toInt (m_x k) ≤ 99) (xK : ∀ k : Nat, 0 ≤ Int32.toInt (gR k) ∧ Int32.toInt (gR k) ≤ 99) (yR : ∀ k : Nat, 0 ≤ Int32.toInt (pW k) ∧ Int32.toInt (pW k) ≤ 9) (zM : ∀ k : Nat, 0 ≤ Int32.toInt (qR k) ∧ Int32.toInt (qR k) ≤ 9) (xT : ∀ k : Nat, 0 ≤ Int32.toInt (nG k) ∧ Int32.toInt (nG k) ≤ 99) (yF : ∀ k : Nat, 0 ≤ Int32.toInt (oO k) ∧ Int32.toInt (oO k) ≤ 99) (yD : ∀ k : Nat, k = 4 → 1 ≤ Int32.toInt (pJ k) ∧ Int32.toInt (pJ k) ≤ 30) (xZ : ∀ k : Nat, k = 3 → 0 ≤ Int32.toInt (pJ k) ∧ Int32.toInt (pJ k) ≤ 9) (hc0 : -1 ≤ SB ∧ SB ≤ 7) (hpost : ∀ (r : Int32) (xM : Int32) (xG : Int32) (aBX : Nat → Int32), (-2 ≤ Int32.toInt r ∧ Int32.toInt r ≤ 65535) → (0 ≤ Int32.toInt xM ∧ Int32.toInt xM ≤ 16) → (0 ≤ Int32.toInt xG ∧ Int32.toInt xG ≤ 0) → post r xM xG aBX) : ∀ (n : Nat) (x1 x2 x3 x4 bL bY : Int32) (sW : Nat → Int32), (0 ≤ Int32.toInt x1 ∧ Int32.toInt x1 ≤ 65535) → (0 ≤ Int32.toInt x2 ∧ Int32.toInt x2 ≤ 65535) → (0 ≤ Int32.toInt x3 ∧ Int32.toInt x3 ≤ 65535) → (0 ≤ Int32.toInt x4 ∧ Int32.toInt x4 ≤ 16) → (0 ≤ Int32.toInt bL ∧ Int32.toInt bL ≤ 16) → (0 ≤ Int32.toInt bY ∧ Int32.toInt bY ≤ 0) → (16 - Int32.toInt x4 < (n : Int)) → wb_X10_harm_39 post bT qG m_x gR pW qR nG oO pJ n x1 x2 x3 x4 bL bY sW := by
  intro n
  induction n with
  | zero =>
    intro x1 x2 x3 x4 bL bY sW aBK aBN aCH aDO yJ yG hm
    exfalso; omega
  | succ n ih =>
    intro x1 x2 x3 x4 bL bY sW aBK aBN aCH aDO yJ yG hm
    exact ts_X10_harm_39 bT qG m_x gR pW qR nG oO pJ xJ xU xV aAW xK yR zM xT yF yD xZ hc0 hpost ih x1 x2 x3 x4 bL bY sW aBK aBN aCH aDO yJ yG (by omega)
set_option maxHeartbeats 8000000 in
set_option maxRecDepth 200000 in
theorem t_X10_harm {post : Int32 → Int32 → Int32 → (Nat → Int32) → Prop} {SB : Int} {bT bL bY : Int32} {qG m_x gR pW qR nG oO pJ sW : Nat → Int32} (xJ : 0 ≤ Int32.toInt bT ∧ Int32.toInt bT ≤ 16) (yJ : 0 ≤ Int32.toInt bL ∧ Int32.toInt bL ≤ 16) (yG : 0 ≤ Int32.toInt bY ∧ Int32.toInt bY ≤ 1) (xU : ∀ k : Nat, k = 17 → -1 ≤ Int32.toInt (qG k) ∧ Int32.toInt (qG k) ≤ SB) (xV : ∀ k : Nat, k = 19 → 0 ≤ Int32.toInt (qG k) ∧ Int32.toInt (qG k) ≤ 9) (aAW : ∀ k : Nat, 0 ≤ Int32.toInt (m_x k) ∧ Int32.toInt (m_x k) ≤ 99) (xK : ∀ k : Nat, 0 ≤ Int32.toInt (gR k) ∧ Int32.toInt (gR k) ≤ 99) (yR : ∀ k : Nat, 0 ≤ Int32.toInt (pW k) ∧ Int32.toInt (pW k) ≤ 9) (zM : ∀ k : Nat, 0 ≤ Int32.toInt (qR k) ∧ Int32.toInt (qR k) ≤ 9) (xT : ∀ k : Nat, 0 ≤ Int32.toInt (nG k) ∧ Int32.toInt (nG k) ≤ 99) (yF : ∀ k : Nat, 0 ≤ Int32.toInt (oO k) ∧ Int32.toInt (oO k) ≤ 99) (yD : ∀ k : Nat, k = 4 → 1 ≤ Int32.toInt (pJ k) ∧ Int32.toInt (pJ k) ≤ 30) (xZ : ∀ k : Nat, k = 3 → 0 ≤ Int32.toInt (pJ k) ∧ Int32.toInt (pJ k) ≤ 9) (hc0 : -1 ≤ SB ∧ SB ≤ 7) (hpost : ∀ (r : Int32) (xM : Int32) (xG : Int32) (aBX : Nat → Int32), (-2 ≤ Int32.toInt r ∧ Int32.toInt r ≤ 65535) → (0 ≤ Int32.toInt xM ∧ Int32.toInt xM ≤ 16) → (0 ≤ Int32.toInt xG ∧ Int32.toInt xG ≤ 0) → post r xM xG aBX) : wp_X10_harm post bT bL bY qG m_x gR pW qR nG oO pJ sW := by
  have l0 := aI2
  have l1 := li_m2
  have l2 := aE0
  have l3 := li_17
  have l4 := li_18
  have l5 := li_19
  have q29 := xU (17 : Int32).toNatClampNeg (by have e9 : (17 : Int32).toNatClampNeg = (Int32.toInt (17 : Int32)).toNat := rfl; omega)
  intro v30 ev30
  have hv30 := congrArg Int32.toInt ev30
  refine And.intro (fun c32 => ?_) (fun c32 => ?_)
  · skip
    have c32 := mt (zJ _ _).mpr c32
    refine aKO ⟨by omega, by omega⟩ xJ xU xV (by omega) (fun r33 h_r33 ox34 => ?_)
    have q35 := xV (19 : Int32).toNatClampNeg (by have e9 : (19 : Int32).toNatClampNeg = (Int32.toInt (19 : Int32)).toNat := rfl; omega)
    intro v36 ev36
    have hv36 := congrArg Int32.toInt ev36
    refine aXh ⟨by omega, by omega⟩ xJ zM (fun r38 h_r38 ox39 => ?_)
    intro v40 ev40
    have f41 := aAQ r33 r38 (by omega)
    have f42 := aBx r33 r38 (by omega)
    have hv40 := congrArg Int32.toInt ev40
    have q43 := xU (17 : Int32).toNatClampNeg (by have e9 : (17 : Int32).toNatClampNeg = (Int32.toInt (17 : Int32)).toNat := rfl; omega)
    intro v44 ev44
    have hv44 := congrArg Int32.toInt ev44
    intro v45 ev45
    have hv45 := congrArg Int32.toInt ev45
    refine aX7 ⟨by omega, by omega⟩ ⟨by omega, by omega⟩ xJ aAW xK xT yF yD xZ (fun r47 h_r47 => ?_)
    refine aKO ⟨by omega, by omega⟩ xJ xU xV (by omega) (fun r48 h_r48 ox49 => ?_)
    have f50 := aAQ v40 r47 (by omega)
    have f51 := aBx v40 r47 (by omega)
    exact ⟨18, tb_X10_harm_39 bT qG m_x gR pW qR nG oO pJ xJ xU xV aAW xK yR zM xT yF yD xZ hc0 hpost _ (v40 &&& r47) r48 0 0 bL 0 sW ⟨by omega, by omega⟩ h_r48 ⟨by omega, by omega⟩ ⟨by omega, by omega⟩ yJ ⟨by omega, by omega⟩ (by omega)⟩
  · skip
    have c32 := (zJ _ _).mp c32
    exact hpost _ _ _ _ ⟨by omega, by omega⟩ yJ ⟨by omega, by omega⟩
set_option maxHeartbeats 8000000 in
set_option maxRecDepth 200000 in
theorem ts_X10_loadOf_31 {post : Int32 → Prop} {K4 : Int32 → Int32 → Int32 → Prop} {n4 : Int} (aG : Int32) (vK : Nat → Int32) (vZ : 0 ≤ Int32.toInt aG ∧ Int32.toInt aG ≤ 8) (hpost : ∀ (r : Int32) , post r) (hK4 : ∀ (x1 : Int32) (x2 : Int32) (x3 : Int32), (0 ≤ Int32.toInt x1 ∧ Int32.toInt x1 ≤ 255) → (0 ≤ Int32.toInt x3 ∧ Int32.toInt x3 ≤ 8) → (8 - Int32.toInt x3 < n4) → K4 x1 x2 x3) (x1 x3 k0 k1 : Int32) (aBK : 0 ≤ Int32.toInt x1 ∧ Int32.toInt x1 ≤ 255) (aCH : 0 ≤ Int32.toInt x3 ∧ Int32.toInt x3 ≤ 7) (hn4 : 8 - Int32.toInt x3 ≤ n4) : ws_X10_loadOf_31 post K4 aG vK x1 x3 k0 k1 := by
  have l0 := aEc
  intro v1 ev1
  have hv1 := congrArg Int32.toInt ev1
  intro v3 ev3
  have f4 : Int32.toInt (x3 + 1) = Int32.toInt x3 + Int32.toInt (1 : Int32) := aAD _ _ ⟨by omega, by omega⟩
  rw [← ev3] at f4
  have f5 := aAT v1
  exact hK4 x1 v1 v3 aBK ⟨by omega, by omega⟩ (by omega)
set_option maxHeartbeats 8000000 in
set_option maxRecDepth 200000 in
theorem ts_X10_loadOf_4 {post : Int32 → Prop} {next : Int32 → Int32 → Int32 → Prop} {n4 : Int} (aG : Int32) (vK : Nat → Int32) (vZ : 0 ≤ Int32.toInt aG ∧ Int32.toInt aG ≤ 8) (hpost : ∀ (r : Int32) , post r) (hKn : ∀ (x1 : Int32) (x2 : Int32) (x3 : Int32), (0 ≤ Int32.toInt x1 ∧ Int32.toInt x1 ≤ 255) → (0 ≤ Int32.toInt x3 ∧ Int32.toInt x3 ≤ 8) → (8 - Int32.toInt x3 < n4) → next x1 x2 x3) (x1 x2 x3 : Int32) (aBK : 0 ≤ Int32.toInt x1 ∧ Int32.toInt x1 ≤ 255) (aCH : 0 ≤ Int32.toInt x3 ∧ Int32.toInt x3 ≤ 8) (hn4 : 8 - Int32.toInt x3 ≤ n4) : ws_X10_loadOf_4 post next aG vK x1 x2 x3 := by
  have l0 := aE0
  have l1 := aEc
  refine And.intro (fun c6 => ?_) (fun c6 => ?_)
  · skip
    have c6 := (aAO _ _).mp c6
    exact hpost _ 
  · skip
    have c6 := mt (aAO _ _).mpr c6
    intro v7 ev7
    have f8 := aRJ x1 x3 (by omega)
    have hv7 := congrArg Int32.toInt ev7
    intro v9 ev9
    have f10 := aAQ v7 1 (by omega)
    have f11 := aBx v7 1 (by omega)
    have hv9 := congrArg Int32.toInt ev9
    refine And.intro (fun c12 => ?_) (fun c12 => ?_)
    · skip
      have c12 := mt (zJ _ _).mpr c12
      refine And.intro (fun _ => ?_) (fun h9 => absurd h9 (by decide))
      have f13 := aAT x2
      exact ts_X10_loadOf_31 aG vK vZ hpost hKn x1 x3 x2 0 aBK ⟨by omega, by omega⟩ hn4
    · skip
      have c12 := (zJ _ _).mp c12
      refine And.intro (fun h9 => absurd h9 (by decide)) (fun _ => ?_)
      refine And.intro (aBZ ⟨by omega, by omega⟩) ?_
      intro v14 ev14
      have hv14 := congrArg Int32.toInt ev14
      have f16 := aAT x2
      have f17 := aAT v14
      exact ts_X10_loadOf_31 aG vK vZ hpost hKn x1 x3 x2 v14 aBK ⟨by omega, by omega⟩ hn4
set_option maxHeartbeats 8000000 in
set_option maxRecDepth 200000 in
theorem tb_X10_loadOf_4 {post : Int32 → Prop} (aG : Int32) (vK : Nat → Int32) (vZ : 0 ≤ Int32.toInt aG ∧ Int32.toInt aG ≤ 8) (hpost : ∀ (r : Int32) , post r) : ∀ (n : Nat) (x1 x2 x3 : Int32), (0 ≤ Int32.toInt x1 ∧ Int32.toInt x1 ≤ 255) → (0 ≤ Int32.toInt x3 ∧ Int32.toInt x3 ≤ 8) → (8 - Int32.toInt x3 < (n : Int)) → wb_X10_loadOf_4 post aG vK n x1 x2 x3 := by
  intro n
  induction n with
  | zero =>
    intro x1 x2 x3 aBK aCH hm
    exfalso; omega
  | succ n ih =>
    intro x1 x2 x3 aBK aCH hm
    exact ts_X10_loadOf_4 aG vK vZ hpost ih x1 x2 x3 aBK aCH (by omega)
set_option maxHeartbeats 8000000 in
set_option maxRecDepth 200000 in
theorem t_X10_loadOf {post : Int32 → Prop} {p0 aG : Int32} {vK : Nat → Int32} (h_p0 : 0 ≤ Int32.toInt p0 ∧ Int32.toInt p0 ≤ 255) (vZ : 0 ≤ Int32.toInt aG ∧ Int32.toInt aG ≤ 8) (hpost : ∀ (r : Int32) , post r) : wp_X10_loadOf post p0 aG vK := by
  have l0 := aE0
  exact ⟨10, tb_X10_loadOf_4 aG vK vZ hpost _ p0 0 0 h_p0 ⟨by omega, by omega⟩ (by omega)⟩
set_option maxHeartbeats 8000000 in
set_option maxRecDepth 200000 in
theorem ts_X10_share_130 {post : Int32 → Int32 → Int32 → Nat → Int32 → Int32 → Int32 → Int32 → Int32 → Int32 → Int32 → Int32 → Int32 → Int32 → (Nat → Int32) → (Nat → Int32) → (Nat → Int32) → Prop} {SB : Int} {K46 : Int32 → Int32 → Int32 → Int32 → Nat → Int32 → Int32 → Int32 → Int32 → Int32 → Int32 → Int32 → Int32 → Int32 → Int32 → (Nat → Int32) → (Nat → Int32) → (Nat → Int32) → Prop} {n46 : Int} (bT aG bW : Int32) (qG m_x gR pW qR nG oO pJ qO qQ : Nat → Int32) (xJ : 0 ≤ Int32.toInt bT ∧ Int32.toInt bT ≤ 16) (vZ : 0 ≤ Int32.toInt aG ∧ Int32.toInt aG ≤ 8) (zQ : 0 ≤ Int32.toInt bW ∧ Int32.toInt bW ≤ 40) (xU : ∀ k : Nat, k = 17 → -1 ≤ Int32.toInt (qG k) ∧ Int32.toInt (qG k) ≤ SB) (xV : ∀ k : Nat, k = 19 → 0 ≤ Int32.toInt (qG k) ∧ Int32.toInt (qG k) ≤ 9) (aAW : ∀ k : Nat, 0 ≤ Int32.toInt (m_x k) ∧ Int32.toInt (m_x k) ≤ 99) (xK : ∀ k : Nat, 0 ≤ Int32.toInt (gR k) ∧ Int32.toInt (gR k) ≤ 99) (yR : ∀ k : Nat, 0 ≤ Int32.toInt (pW k) ∧ Int32.toInt (pW k) ≤ 9) (zM : ∀ k : Nat, 0 ≤ Int32.toInt (qR k) ∧ Int32.toInt (qR k) ≤ 9) (xT : ∀ k : Nat, 0 ≤ Int32.toInt (nG k) ∧ Int32.toInt (nG k) ≤ 99) (yF : ∀ k : Nat, 0 ≤ Int32.toInt (oO k) ∧ Int32.toInt (oO k) ≤ 99) (yD : ∀ k : Nat, k = 4 → 1 ≤ Int32.toInt (pJ k) ∧ Int32.toInt (pJ k) ≤ 30) (xZ : ∀ k : Nat, k = 3 → 0 ≤ Int32.toInt (pJ k) ∧ Int32.toInt (pJ k) ≤ 9) (zG : ∀ k : Nat, -128 ≤ Int32.toInt (qO k) ∧ Int32.toInt (qO k) ≤ 127) (zI : ∀ k : Nat, -128 ≤ Int32.toInt (qQ k) ∧ Int32.toInt (qQ k) ≤ 127) (hc0 : -1 ≤ SB ∧ SB ≤ 7) (hc1 : (Int32.toInt aG ≤ 0 ∧ SB = 0) ∨ (1 ≤ Int32.toInt aG ∧ SB = Int32.toInt aG - 1)) (hpost : ∀ (r : Int32) (xM : Int32) (xG : Int32) (aAP : Nat) (zS : Int32) (aAz : Int32) (aAm : Int32) (zH : Int32) (aAM : Int32) (zP : Int32) (yO : Int32) (zZ : Int32) (zO : Int32) (aAS : Int32) (aBX : Nat → Int32) (aA5 : Nat → Int32) (aGb : Nat → Int32), (-2147483648 ≤ Int32.toInt r ∧ Int32.toInt r ≤ 1000000) → (0 ≤ Int32.toInt xM ∧ Int32.toInt xM ≤ 16) → (0 ≤ Int32.toInt xG ∧ Int32.toInt xG ≤ 0) → (aAP = 0 ∨ aAP = 1 ∨ aAP = 2) → (0 ≤ Int32.toInt zS ∧ Int32.toInt zS ≤ 80) → (0 ≤ Int32.toInt aAz ∧ Int32.toInt aAz ≤ 80) → (0 ≤ Int32.toInt aAm ∧ Int32.toInt aAm ≤ 80) → (-1 ≤ Int32.toInt zH ∧ Int32.toInt zH ≤ 80) → (0 ≤ Int32.toInt aAM ∧ Int32.toInt aAM ≤ 0) → (0 ≤ Int32.toInt zP ∧ Int32.toInt zP ≤ 15) → (0 ≤ Int32.toInt yO ∧ Int32.toInt yO ≤ 7) → (0 ≤ Int32.toInt zZ ∧ Int32.toInt zZ ≤ 1) → (0 ≤ Int32.toInt zO ∧ Int32.toInt zO ≤ 63) → (0 ≤ Int32.toInt aAS ∧ Int32.toInt aAS ≤ 65535) → (∀ k : Nat, 0 ≤ Int32.toInt (aA5 k) ∧ Int32.toInt (aA5 k) ≤ 65535) → post r xM xG aAP zS aAz aAm zH aAM zP yO zZ zO aAS aBX aA5 aGb) (hK46 : ∀ (x1 : Int32) (x2 : Int32) (bL : Int32) (bY : Int32) (jD : Nat) (m_length : Int32) (oF : Int32) (rP : Int32) (dQ : Int32) (bZ : Int32) (aR : Int32) (aE : Int32) (bI : Int32) (aW : Int32) (dO : Int32) (sW : Nat → Int32) (sH : Nat → Int32) (vK : Nat → Int32), (0 ≤ Int32.toInt x1 ∧ Int32.toInt x1 ≤ 255) → (0 ≤ Int32.toInt x2 ∧ Int32.toInt x2 ≤ 16) → (0 ≤ Int32.toInt bL ∧ Int32.toInt bL ≤ 16) → (0 ≤ Int32.toInt bY ∧ Int32.toInt bY ≤ 0) → (jD = 0 ∨ jD = 1 ∨ jD = 2) → (0 ≤ Int32.toInt m_length ∧ Int32.toInt m_length ≤ 80) → (0 ≤ Int32.toInt oF ∧ Int32.toInt oF ≤ 80) → (0 ≤ Int32.toInt rP ∧ Int32.toInt rP ≤ 80) → (-1 ≤ Int32.toInt dQ ∧ Int32.toInt dQ ≤ 80) → (0 ≤ Int32.toInt bZ ∧ Int32.toInt bZ ≤ 0) → (0 ≤ Int32.toInt aR ∧ Int32.toInt aR ≤ 15) → (0 ≤ Int32.toInt aE ∧ Int32.toInt aE ≤ 7) → (0 ≤ Int32.toInt bI ∧ Int32.toInt bI ≤ 1) → (0 ≤ Int32.toInt aW ∧ Int32.toInt aW ≤ 63) → (0 ≤ Int32.toInt dO ∧ Int32.toInt dO ≤ 65535) → (∀ k : Nat, 0 ≤ Int32.toInt (sH k) ∧ Int32.toInt (sH k) ≤ 65535) → (16 - Int32.toInt x2 < n46) → K46 x1 x2 bL bY jD m_length oF rP dQ bZ aR aE bI aW dO sW sH vK) (x1 x2 bL bY : Int32) (jD : Nat) (m_length oF rP dQ bZ aR aE bI aW dO : Int32) (sW sH vK : Nat → Int32) (aBK : 0 ≤ Int32.toInt x1 ∧ Int32.toInt x1 ≤ 255) (aBN : 0 ≤ Int32.toInt x2 ∧ Int32.toInt x2 ≤ 15) (yJ : 0 ≤ Int32.toInt bL ∧ Int32.toInt bL ≤ 16) (yG : 0 ≤ Int32.toInt bY ∧ Int32.toInt bY ≤ 0) (yM : jD = 0 ∨ jD = 1 ∨ jD = 2) (zE : 0 ≤ Int32.toInt m_length ∧ Int32.toInt m_length ≤ 80) (aAR : 0 ≤ Int32.toInt oF ∧ Int32.toInt oF ≤ 80) (aA1 : 0 ≤ Int32.toInt rP ∧ Int32.toInt rP ≤ 80) (aAA : -1 ≤ Int32.toInt dQ ∧ Int32.toInt dQ ≤ 80) (zT : 0 ≤ Int32.toInt bZ ∧ Int32.toInt bZ ≤ 0) (yL : 0 ≤ Int32.toInt aR ∧ Int32.toInt aR ≤ 15) (xQ : 0 ≤ Int32.toInt aE ∧ Int32.toInt aE ≤ 7) (yY : 0 ≤ Int32.toInt bI ∧ Int32.toInt bI ≤ 1) (yK : 0 ≤ Int32.toInt aW ∧ Int32.toInt aW ≤ 63) (aAH : 0 ≤ Int32.toInt dO ∧ Int32.toInt dO ≤ 65535) (zY : ∀ k : Nat, 0 ≤ Int32.toInt (sH k) ∧ Int32.toInt (sH k) ≤ 65535) (hn46 : 16 - Int32.toInt x2 ≤ n46) : ws_X10_share_130 post K46 bT aG bW qG m_x gR pW qR nG oO pJ qO qQ x1 x2 bL bY jD m_length oF rP dQ bZ aR aE bI aW dO sW sH vK := by
  have l0 := aEc
  intro v1 ev1
  have f2 : Int32.toInt (x2 + 1) = Int32.toInt x2 + Int32.toInt (1 : Int32) := aAD _ _ ⟨by omega, by omega⟩
  rw [← ev1] at f2
  exact hK46 x1 v1 bL bY jD m_length oF rP dQ bZ aR aE bI aW dO sW sH vK aBK ⟨by omega, by omega⟩ yJ yG yM zE aAR aA1 aAA zT yL xQ yY yK aAH zY (by omega)
set_option maxHeartbeats 8000000 in
set_option maxRecDepth 200000 in
theorem ts_X10_share_215 {post : Int32 → Int32 → Int32 → Nat → Int32 → Int32 → Int32 → Int32 → Int32 → Int32 → Int32 → Int32 → Int32 → Int32 → (Nat → Int32) → (Nat → Int32) → (Nat → Int32) → Prop} {SB : Int} {K148 : Int32 → Int32 → Int32 → Int32 → Int32 → Int32 → Int32 → Nat → Int32 → Int32 → Int32 → Int32 → Int32 → Int32 → Int32 → Int32 → Int32 → Int32 → (Nat → Int32) → (Nat → Int32) → (Nat → Int32) → Prop} {n148 : Int} (bT aG bW : Int32) (qG m_x gR pW qR nG oO pJ qO qQ : Nat → Int32) (xJ : 0 ≤ Int32.toInt bT ∧ Int32.toInt bT ≤ 16) (vZ : 0 ≤ Int32.toInt aG ∧ Int32.toInt aG ≤ 8) (zQ : 0 ≤ Int32.toInt bW ∧ Int32.toInt bW ≤ 40) (xU : ∀ k : Nat, k = 17 → -1 ≤ Int32.toInt (qG k) ∧ Int32.toInt (qG k) ≤ SB) (xV : ∀ k : Nat, k = 19 → 0 ≤ Int32.toInt (qG k) ∧ Int32.toInt (qG k) ≤ 9) (aAW : ∀ k : Nat, 0 ≤ Int32.toInt (m_x k) ∧ Int32.toInt (m_x k) ≤ 99) (xK : ∀ k : Nat, 0 ≤ Int32.toInt (gR k) ∧ Int32.toInt (gR k) ≤ 99) (yR : ∀ k : Nat, 0 ≤ Int32.toInt (pW k) ∧ Int32.toInt (pW k) ≤ 9) (zM : ∀ k : Nat, 0 ≤ Int32.toInt (qR k) ∧ Int32.toInt (qR k) ≤ 9) (xT : ∀ k : Nat, 0 ≤ Int32.toInt (nG k) ∧ Int32.toInt (nG k) ≤ 99) (yF : ∀ k : Nat, 0 ≤ Int32.toInt (oO k) ∧ Int32.toInt (oO k) ≤ 99) (yD : ∀ k : Nat, k = 4 → 1 ≤ Int32.toInt (pJ k) ∧ Int32.toInt (pJ k) ≤ 30) (xZ : ∀ k : Nat, k = 3 → 0 ≤ Int32.toInt (pJ k) ∧ Int32.toInt (pJ k) ≤ 9) (zG : ∀ k : Nat, -128 ≤ Int32.toInt (qO k) ∧ Int32.toInt (qO k) ≤ 127) (zI : ∀ k : Nat, -128 ≤ Int32.toInt (qQ k) ∧ Int32.toInt (qQ k) ≤ 127) (hc0 : -1 ≤ SB ∧ SB ≤ 7) (hc1 : (Int32.toInt aG ≤ 0 ∧ SB = 0) ∨ (1 ≤ Int32.toInt aG ∧ SB = Int32.toInt aG - 1)) (hpost : ∀ (r : Int32) (xM : Int32) (xG : Int32) (aAP : Nat) (zS : Int32) (aAz : Int32) (aAm : Int32) (zH : Int32) (aAM : Int32) (zP : Int32) (yO : Int32) (zZ : Int32) (zO : Int32) (aAS : Int32) (aBX : Nat → Int32) (aA5 : Nat → Int32) (aGb : Nat → Int32), (-2147483648 ≤ Int32.toInt r ∧ Int32.toInt r ≤ 1000000) → (0 ≤ Int32.toInt xM ∧ Int32.toInt xM ≤ 16) → (0 ≤ Int32.toInt xG ∧ Int32.toInt xG ≤ 0) → (aAP = 0 ∨ aAP = 1 ∨ aAP = 2) → (0 ≤ Int32.toInt zS ∧ Int32.toInt zS ≤ 80) → (0 ≤ Int32.toInt aAz ∧ Int32.toInt aAz ≤ 80) → (0 ≤ Int32.toInt aAm ∧ Int32.toInt aAm ≤ 80) → (-1 ≤ Int32.toInt zH ∧ Int32.toInt zH ≤ 80) → (0 ≤ Int32.toInt aAM ∧ Int32.toInt aAM ≤ 0) → (0 ≤ Int32.toInt zP ∧ Int32.toInt zP ≤ 15) → (0 ≤ Int32.toInt yO ∧ Int32.toInt yO ≤ 7) → (0 ≤ Int32.toInt zZ ∧ Int32.toInt zZ ≤ 1) → (0 ≤ Int32.toInt zO ∧ Int32.toInt zO ≤ 63) → (0 ≤ Int32.toInt aAS ∧ Int32.toInt aAS ≤ 65535) → (∀ k : Nat, 0 ≤ Int32.toInt (aA5 k) ∧ Int32.toInt (aA5 k) ≤ 65535) → post r xM xG aAP zS aAz aAm zH aAM zP yO zZ zO aAS aBX aA5 aGb) (hK148 : ∀ (x1 : Int32) (x2 : Int32) (x3 : Int32) (x4 : Int32) (x5 : Int32) (bL : Int32) (bY : Int32) (jD : Nat) (m_length : Int32) (oF : Int32) (rP : Int32) (dQ : Int32) (bZ : Int32) (aR : Int32) (aE : Int32) (bI : Int32) (aW : Int32) (dO : Int32) (sW : Nat → Int32) (sH : Nat → Int32) (vK : Nat → Int32), (0 ≤ Int32.toInt x1 ∧ Int32.toInt x1 ≤ 255) → (0 ≤ Int32.toInt x2 ∧ Int32.toInt x2 ≤ 255) → (-2147483648 ≤ Int32.toInt x3 ∧ Int32.toInt x3 ≤ 1000000) → (0 ≤ Int32.toInt x5 ∧ Int32.toInt x5 ≤ 256) → (0 ≤ Int32.toInt bL ∧ Int32.toInt bL ≤ 16) → (0 ≤ Int32.toInt bY ∧ Int32.toInt bY ≤ 0) → (jD = 0 ∨ jD = 1 ∨ jD = 2) → (0 ≤ Int32.toInt m_length ∧ Int32.toInt m_length ≤ 80) → (0 ≤ Int32.toInt oF ∧ Int32.toInt oF ≤ 80) → (0 ≤ Int32.toInt rP ∧ Int32.toInt rP ≤ 80) → (-1 ≤ Int32.toInt dQ ∧ Int32.toInt dQ ≤ 80) → (0 ≤ Int32.toInt bZ ∧ Int32.toInt bZ ≤ 0) → (0 ≤ Int32.toInt aR ∧ Int32.toInt aR ≤ 15) → (0 ≤ Int32.toInt aE ∧ Int32.toInt aE ≤ 7) → (0 ≤ Int32.toInt bI ∧ Int32.toInt bI ≤ 1) → (0 ≤ Int32.toInt aW ∧ Int32.toInt aW ≤ 63) → (0 ≤ Int32.toInt dO ∧ Int32.toInt dO ≤ 65535) → (∀ k : Nat, 0 ≤ Int32.toInt (sH k) ∧ Int32.toInt (sH k) ≤ 65535) → (256 - Int32.toInt x5 < n148) → K148 x1 x2 x3 x4 x5 bL bY jD m_length oF rP dQ bZ aR aE bI aW dO sW sH vK) (x1 x2 x3 x4 x5 bL bY : Int32) (jD : Nat) (m_length oF rP dQ bZ aR aE bI aW dO : Int32) (sW sH vK : Nat → Int32) (aBK : 0 ≤ Int32.toInt x1 ∧ Int32.toInt x1 ≤ 255) (aBN : 0 ≤ Int32.toInt x2 ∧ Int32.toInt x2 ≤ 255) (aCH : -2147483648 ≤ Int32.toInt x3 ∧ Int32.toInt x3 ≤ 1000000) (aF7 : 0 ≤ Int32.toInt x5 ∧ Int32.toInt x5 ≤ 255) (yJ : 0 ≤ Int32.toInt bL ∧ Int32.toInt bL ≤ 16) (yG : 0 ≤ Int32.toInt bY ∧ Int32.toInt bY ≤ 0) (yM : jD = 0 ∨ jD = 1 ∨ jD = 2) (zE : 0 ≤ Int32.toInt m_length ∧ Int32.toInt m_length ≤ 80) (aAR : 0 ≤ Int32.toInt oF ∧ Int32.toInt oF ≤ 80) (aA1 : 0 ≤ Int32.toInt rP ∧ Int32.toInt rP ≤ 80) (aAA : -1 ≤ Int32.toInt dQ ∧ Int32.toInt dQ ≤ 80) (zT : 0 ≤ Int32.toInt bZ ∧ Int32.toInt bZ ≤ 0) (yL : 0 ≤ Int32.toInt aR ∧ Int32.toInt aR ≤ 15) (xQ : 0 ≤ Int32.toInt aE ∧ Int32.toInt aE ≤ 7) (yY : 0 ≤ Int32.toInt bI ∧ Int32.toInt bI ≤ 1) (yK : 0 ≤ Int32.toInt aW ∧ Int32.toInt aW ≤ 63) (aAH : 0 ≤ Int32.toInt dO ∧ Int32.toInt dO ≤ 65535) (zY : ∀ k : Nat, 0 ≤ Int32.toInt (sH k) ∧ Int32.toInt (sH k) ≤ 65535) (hn148 : 256 - Int32.toInt x5 ≤ n148) : ws_X10_share_215 post K148 bT aG bW qG m_x gR pW qR nG oO pJ qO qQ x1 x2 x3 x4 x5 bL bY jD m_length oF rP dQ bZ aR aE bI aW dO sW sH vK := by
  have l0 := aEc
  intro v3 ev3
  have f4 : Int32.toInt (x5 + 1) = Int32.toInt x5 + Int32.toInt (1 : Int32) := aAD _ _ ⟨by omega, by omega⟩
  rw [← ev3] at f4
  have f5 := aAT x3
  have f6 := aAT x4
  exact hK148 x1 x2 x3 x4 v3 bL bY jD m_length oF rP dQ bZ aR aE bI aW dO sW sH vK aBK aBN aCH ⟨by omega, by omega⟩ yJ yG yM zE aAR aA1 aAA zT yL xQ yY yK aAH zY (by omega)
set_option maxHeartbeats 8000000 in
set_option maxRecDepth 200000 in
theorem ts_X10_share_148 {post : Int32 → Int32 → Int32 → Nat → Int32 → Int32 → Int32 → Int32 → Int32 → Int32 → Int32 → Int32 → Int32 → Int32 → (Nat → Int32) → (Nat → Int32) → (Nat → Int32) → Prop} {SB : Int} {next : Int32 → Int32 → Int32 → Int32 → Int32 → Int32 → Int32 → Nat → Int32 → Int32 → Int32 → Int32 → Int32 → Int32 → Int32 → Int32 → Int32 → Int32 → (Nat → Int32) → (Nat → Int32) → (Nat → Int32) → Prop} {n148 : Int} (bT aG bW : Int32) (qG m_x gR pW qR nG oO pJ qO qQ : Nat → Int32) (xJ : 0 ≤ Int32.toInt bT ∧ Int32.toInt bT ≤ 16) (vZ : 0 ≤ Int32.toInt aG ∧ Int32.toInt aG ≤ 8) (zQ : 0 ≤ Int32.toInt bW ∧ Int32.toInt bW ≤ 40) (xU : ∀ k : Nat, k = 17 → -1 ≤ Int32.toInt (qG k) ∧ Int32.toInt (qG k) ≤ SB) (xV : ∀ k : Nat, k = 19 → 0 ≤ Int32.toInt (qG k) ∧ Int32.toInt (qG k) ≤ 9) (aAW : ∀ k : Nat, 0 ≤ Int32.toInt (m_x k) ∧ Int32.toInt (m_x k) ≤ 99) (xK : ∀ k : Nat, 0 ≤ Int32.toInt (gR k) ∧ Int32.toInt (gR k) ≤ 99) (yR : ∀ k : Nat, 0 ≤ Int32.toInt (pW k) ∧ Int32.toInt (pW k) ≤ 9) (zM : ∀ k : Nat, 0 ≤ Int32.toInt (qR k) ∧ Int32.toInt (qR k) ≤ 9) (xT : ∀ k : Nat, 0 ≤ Int32.toInt (nG k) ∧ Int32.toInt (nG k) ≤ 99) (yF : ∀ k : Nat, 0 ≤ Int32.toInt (oO k) ∧ Int32.toInt (oO k) ≤ 99) (yD : ∀ k : Nat, k = 4 → 1 ≤ Int32.toInt (pJ k) ∧ Int32.toInt (pJ k) ≤ 30) (xZ : ∀ k : Nat, k = 3 → 0 ≤ Int32.toInt (pJ k) ∧ Int32.toInt (pJ k) ≤ 9) (zG : ∀ k : Nat, -128 ≤ Int32.toInt (qO k) ∧ Int32.toInt (qO k) ≤ 127) (zI : ∀ k : Nat, -128 ≤ Int32.toInt (qQ k) ∧ Int32.toInt (qQ k) ≤ 127) (hc0 : -1 ≤ SB ∧ SB ≤ 7) (hc1 : (Int32.toInt aG ≤ 0 ∧ SB = 0) ∨ (1 ≤ Int32.toInt aG ∧ SB = Int32.toInt aG - 1)) (hpost : ∀ (r : Int32) (xM : Int32) (xG : Int32) (aAP : Nat) (zS : Int32) (aAz : Int32) (aAm : Int32) (zH : Int32) (aAM : Int32) (zP : Int32) (yO : Int32) (zZ : Int32) (zO : Int32) (aAS : Int32) (aBX : Nat → Int32) (aA5 : Nat → Int32) (aGb : Nat → Int32), (-2147483648 ≤ Int32.toInt r ∧ Int32.toInt r ≤ 1000000) → (0 ≤ Int32.toInt xM ∧ Int32.toInt xM ≤ 16) → (0 ≤ Int32.toInt xG ∧ Int32.toInt xG ≤ 0) → (aAP = 0 ∨ aAP = 1 ∨ aAP = 2) → (0 ≤ Int32.toInt zS ∧ Int32.toInt zS ≤ 80) → (0 ≤ Int32.toInt aAz ∧ Int32.toInt aAz ≤ 80) → (0 ≤ Int32.toInt aAm ∧ Int32.toInt aAm ≤ 80) → (-1 ≤ Int32.toInt zH ∧ Int32.toInt zH ≤ 80) → (0 ≤ Int32.toInt aAM ∧ Int32.toInt aAM ≤ 0) → (0 ≤ Int32.toInt zP ∧ Int32.toInt zP ≤ 15) → (0 ≤ Int32.toInt yO ∧ Int32.toInt yO ≤ 7) → (0 ≤ Int32.toInt zZ ∧ Int32.toInt zZ ≤ 1) → (0 ≤ Int32.toInt zO ∧ Int32.toInt zO ≤ 63) → (0 ≤ Int32.toInt aAS ∧ Int32.toInt aAS ≤ 65535) → (∀ k : Nat, 0 ≤ Int32.toInt (aA5 k) ∧ Int32.toInt (aA5 k) ≤ 65535) → post r xM xG aAP zS aAz aAm zH aAM zP yO zZ zO aAS aBX aA5 aGb) (hKn : ∀ (x1 : Int32) (x2 : Int32) (x3 : Int32) (x4 : Int32) (x5 : Int32) (bL : Int32) (bY : Int32) (jD : Nat) (m_length : Int32) (oF : Int32) (rP : Int32) (dQ : Int32) (bZ : Int32) (aR : Int32) (aE : Int32) (bI : Int32) (aW : Int32) (dO : Int32) (sW : Nat → Int32) (sH : Nat → Int32) (vK : Nat → Int32), (0 ≤ Int32.toInt x1 ∧ Int32.toInt x1 ≤ 255) → (0 ≤ Int32.toInt x2 ∧ Int32.toInt x2 ≤ 255) → (-2147483648 ≤ Int32.toInt x3 ∧ Int32.toInt x3 ≤ 1000000) → (0 ≤ Int32.toInt x5 ∧ Int32.toInt x5 ≤ 256) → (0 ≤ Int32.toInt bL ∧ Int32.toInt bL ≤ 16) → (0 ≤ Int32.toInt bY ∧ Int32.toInt bY ≤ 0) → (jD = 0 ∨ jD = 1 ∨ jD = 2) → (0 ≤ Int32.toInt m_length ∧ Int32.toInt m_length ≤ 80) → (0 ≤ Int32.toInt oF ∧ Int32.toInt oF ≤ 80) → (0 ≤ Int32.toInt rP ∧ Int32.toInt rP ≤ 80) → (-1 ≤ Int32.toInt dQ ∧ Int32.toInt dQ ≤ 80) → (0 ≤ Int32.toInt bZ ∧ Int32.toInt bZ ≤ 0) → (0 ≤ Int32.toInt aR ∧ Int32.toInt aR ≤ 15) → (0 ≤ Int32.toInt aE ∧ Int32.toInt aE ≤ 7) → (0 ≤ Int32.toInt bI ∧ Int32.toInt bI ≤ 1) → (0 ≤ Int32.toInt aW ∧ Int32.toInt aW ≤ 63) → (0 ≤ Int32.toInt dO ∧ Int32.toInt dO ≤ 65535) → (∀ k : Nat, 0 ≤ Int32.toInt (sH k) ∧ Int32.toInt (sH k) ≤ 65535) → (256 - Int32.toInt x5 < n148) → next x1 x2 x3 x4 x5 bL bY jD m_length oF rP dQ bZ aR aE bI aW dO sW sH vK) (x1 x2 x3 x4 x5 bL bY : Int32) (jD : Nat) (m_length oF rP dQ bZ aR aE bI aW dO : Int32) (sW sH vK : Nat → Int32) (aBK : 0 ≤ Int32.toInt x1 ∧ Int32.toInt x1 ≤ 255) (aBN : 0 ≤ Int32.toInt x2 ∧ Int32.toInt x2 ≤ 255) (aCH : -2147483648 ≤ Int32.toInt x3 ∧ Int32.toInt x3 ≤ 1000000) (aF7 : 0 ≤ Int32.toInt x5 ∧ Int32.toInt x5 ≤ 256) (yJ : 0 ≤ Int32.toInt bL ∧ Int32.toInt bL ≤ 16) (yG : 0 ≤ Int32.toInt bY ∧ Int32.toInt bY ≤ 0) (yM : jD = 0 ∨ jD = 1 ∨ jD = 2) (zE : 0 ≤ Int32.toInt m_length ∧ Int32.toInt m_length ≤ 80) (aAR : 0 ≤ Int32.toInt oF ∧ Int32.toInt oF ≤ 80) (aA1 : 0 ≤ Int32.toInt rP ∧ Int32.toInt rP ≤ 80) (aAA : -1 ≤ Int32.toInt dQ ∧ Int32.toInt dQ ≤ 80) (zT : 0 ≤ Int32.toInt bZ ∧ Int32.toInt bZ ≤ 0) (yL : 0 ≤ Int32.toInt aR ∧ Int32.toInt aR ≤ 15) (xQ : 0 ≤ Int32.toInt aE ∧ Int32.toInt aE ≤ 7) (yY : 0 ≤ Int32.toInt bI ∧ Int32.toInt bI ≤ 1) (yK : 0 ≤ Int32.toInt aW ∧ Int32.toInt aW ≤ 63) (aAH : 0 ≤ Int32.toInt dO ∧ Int32.toInt dO ≤ 65535) (zY : ∀ k : Nat, 0 ≤ Int32.toInt (sH k) ∧ Int32.toInt (sH k) ≤ 65535) (hn148 : 256 - Int32.toInt x5 ≤ n148) : ws_X10_share_148 post next bT aG bW qG m_x gR pW qR nG oO pJ qO qQ x1 x2 x3 x4 x5 bL bY jD m_length oF rP dQ bZ aR aE bI aW dO sW sH vK := by
  have l0 := aE0
  have l1 := aEc
  refine And.intro (fun c7 => ?_) (fun c7 => ?_)
  · skip
    have c7 := (aAd _ _).mp c7
    refine And.intro (aBZ ⟨by omega, by omega⟩) ?_
    intro v8 ev8
    have f9 : Int32.toInt (0 + 1) = Int32.toInt (0 : Int32) + Int32.toInt (1 : Int32) := aAD _ _ ⟨by omega, by omega⟩
    rw [← ev8] at f9
    refine And.intro (aBZ ⟨by omega, by omega⟩) ?_
    intro v10 ev10
    have f11 : Int32.toInt (v8 + 1) = Int32.toInt v8 + Int32.toInt (1 : Int32) := aAD _ _ ⟨by omega, by omega⟩
    rw [← ev10] at f11
    have f12 := aAT x3
    exact hpost _ _ _ _ _ _ _ _ _ _ _ _ _ _ _ _ _ aCH ⟨by omega, by omega⟩ yG yM zE aAR aA1 aAA zT yL xQ yY yK aAH zY
  · skip
    have c7 := mt (aAd _ _).mpr c7
    have f15 := aBx x5 (x1 ^^^ (-1)) (by omega)
    refine And.intro (fun c13 => ?_) (fun c13 => ?_)
    · skip
      have c13Z := c13
      have c13 := (zJ _ _).mp c13
      have s16 := ti_subset x5 x1 (c13Z) (by omega)
      refine t_X10_loadOf ⟨by omega, by omega⟩ vZ (fun r17 => ?_)
      intro v18 ev18
      have f20 := aBx x1 (x5 ^^^ (-1)) (by omega)
      have hv18 := congrArg Int32.toInt ev18
      refine t_X10_loadOf ⟨by omega, by omega⟩ vZ (fun r21 => ?_)
      intro v22 ev22
      have f24 := aAT r17
      have f25 := aAT r21
      have f23 := ti_max r17 r21
      have hv22 := congrArg Int32.toInt ev22
      have f27 := aAT v22
      have f28 := aAT x3
      refine And.intro (fun c26 => ?_) (fun c26 => ?_)
      · skip
        have c26 := (aAd _ _).mp c26
        intro v29 ev29
        have hv29 := congrArg Int32.toInt ev29
        have f30 := aAT v29
        exact ts_X10_share_215 bT aG bW qG m_x gR pW qR nG oO pJ qO qQ xJ vZ zQ xU xV aAW xK yR zM xT yF yD xZ zG zI hc0 hc1 hpost hKn x1 x5 v29 r21 x5 bL bY jD m_length oF rP dQ bZ aR aE bI aW dO sW sH vK aBK ⟨by omega, by omega⟩ ⟨by omega, by omega⟩ ⟨by omega, by omega⟩ yJ yG yM zE aAR aA1 aAA zT yL xQ yY yK aAH zY hn148
      · skip
        have c26 := mt (aAd _ _).mpr c26
        have f31 := aAT x4
        exact ts_X10_share_215 bT aG bW qG m_x gR pW qR nG oO pJ qO qQ xJ vZ zQ xU xV aAW xK yR zM xT yF yD xZ zG zI hc0 hc1 hpost hKn x1 x2 x3 x4 x5 bL bY jD m_length oF rP dQ bZ aR aE bI aW dO sW sH vK aBK aBN aCH ⟨by omega, by omega⟩ yJ yG yM zE aAR aA1 aAA zT yL xQ yY yK aAH zY hn148
    · skip
      have c13 := mt (zJ _ _).mpr c13
      have f32 := aAT x3
      have f33 := aAT x4
      exact ts_X10_share_215 bT aG bW qG m_x gR pW qR nG oO pJ qO qQ xJ vZ zQ xU xV aAW xK yR zM xT yF yD xZ zG zI hc0 hc1 hpost hKn x1 x2 x3 x4 x5 bL bY jD m_length oF rP dQ bZ aR aE bI aW dO sW sH vK aBK aBN aCH ⟨by omega, by omega⟩ yJ yG yM zE aAR aA1 aAA zT yL xQ yY yK aAH zY hn148
set_option maxHeartbeats 8000000 in
set_option maxRecDepth 200000 in
theorem tb_X10_share_148 {post : Int32 → Int32 → Int32 → Nat → Int32 → Int32 → Int32 → Int32 → Int32 → Int32 → Int32 → Int32 → Int32 → Int32 → (Nat → Int32) → (Nat → Int32) → (Nat → Int32) → Prop} {SB : Int} (bT aG bW : Int32) (qG m_x gR pW qR nG oO pJ qO qQ : Nat → Int32) (xJ : 0 ≤ Int32.toInt bT ∧ Int32.toInt bT ≤ 16) (vZ : 0 ≤ Int32.toInt aG ∧ Int32.toInt aG ≤ 8) (zQ : 0 ≤ Int32.toInt bW ∧ Int32.toInt bW ≤ 40) (xU : ∀ k : Nat, k = 17 → -1 ≤ Int32.toInt (qG k) ∧ Int32.toInt (qG k) ≤ SB) (xV : ∀ k : Nat, k = 19 → 0 ≤ Int32.toInt (qG k) ∧ Int32.toInt (qG k) ≤ 9) (aAW : ∀ k : Nat, 0 ≤ Int32.toInt (m_x k) ∧ Int32.toInt (m_x k) ≤ 99) (xK : ∀ k : Nat, 0 ≤ Int32.toInt (gR k) ∧ Int32.toInt (gR k) ≤ 99) (yR : ∀ k : Nat, 0 ≤ Int32.toInt (pW k) ∧ Int32.toInt (pW k) ≤ 9) (zM : ∀ k : Nat, 0 ≤ Int32.toInt (qR k) ∧ Int32.toInt (qR k) ≤ 9) (xT : ∀ k : Nat, 0 ≤ Int32.toInt (nG k) ∧ Int32.toInt (nG k) ≤ 99) (yF : ∀ k : Nat, 0 ≤ Int32.toInt (oO k) ∧ Int32.toInt (oO k) ≤ 99) (yD : ∀ k : Nat, k = 4 → 1 ≤ Int32.toInt (pJ k) ∧ Int32.toInt (pJ k) ≤ 30) (xZ : ∀ k : Nat, k = 3 → 0 ≤ Int32.toInt (pJ k) ∧ Int32.toInt (pJ k) ≤ 9) (zG : ∀ k : Nat, -128 ≤ Int32.toInt (qO k) ∧ Int32.toInt (qO k) ≤ 127) (zI : ∀ k : Nat, -128 ≤ Int32.toInt (qQ k) ∧ Int32.toInt (qQ k) ≤ 127) (hc0 : -1 ≤ SB ∧ SB ≤ 7) (hc1 : (Int32.toInt aG ≤ 0 ∧ SB = 0) ∨ (1 ≤ Int32.toInt aG ∧ SB = Int32.toInt aG - 1)) (hpost : ∀ (r : Int32) (xM : Int32) (xG : Int32) (aAP : Nat) (zS : Int32) (aAz : Int32) (aAm : Int32) (zH : Int32) (aAM : Int32) (zP : Int32) (yO : Int32) (zZ : Int32) (zO : Int32) (aAS : Int32) (aBX : Nat → Int32) (aA5 : Nat → Int32) (aGb : Nat → Int32), (-2147483648 ≤ Int32.toInt r ∧ Int32.toInt r ≤ 1000000) → (0 ≤ Int32.toInt xM ∧ Int32.toInt xM ≤ 16) → (0 ≤ Int32.toInt xG ∧ Int32.toInt xG ≤ 0) → (aAP = 0 ∨ aAP = 1 ∨ aAP = 2) → (0 ≤ Int32.toInt zS ∧ Int32.toInt zS ≤ 80) → (0 ≤ Int32.toInt aAz ∧ Int32.toInt aAz ≤ 80) → (0 ≤ Int32.toInt aAm ∧ Int32.toInt aAm ≤ 80) → (-1 ≤ Int32.toInt zH ∧ Int32.toInt zH ≤ 80) → (0 ≤ Int32.toInt aAM ∧ Int32.toInt aAM ≤ 0) → (0 ≤ Int32.toInt zP ∧ Int32.toInt zP ≤ 15) → (0 ≤ Int32.toInt yO ∧ Int32.toInt yO ≤ 7) → (0 ≤ Int32.toInt zZ ∧ Int32.toInt zZ ≤ 1) → (0 ≤ Int32.toInt zO ∧ Int32.toInt zO ≤ 63) → (0 ≤ Int32.toInt aAS ∧ Int32.toInt aAS ≤ 65535) → (∀ k : Nat, 0 ≤ Int32.toInt (aA5 k) ∧ Int32.toInt (aA5 k) ≤ 65535) → post r xM xG aAP zS aAz aAm zH aAM zP yO zZ zO aAS aBX aA5 aGb) : ∀ (n : Nat) (x1 x2 x3 x4 x5 bL bY : Int32) (jD : Nat) (m_length oF rP dQ bZ aR aE bI aW dO : Int32) (sW sH vK : Nat → Int32), (0 ≤ Int32.toInt x1 ∧ Int32.toInt x1 ≤ 255) → (0 ≤ Int32.toInt x2 ∧ Int32.toInt x2 ≤ 255) → (-2147483648 ≤ Int32.toInt x3 ∧ Int32.toInt x3 ≤ 1000000) → (0 ≤ Int32.toInt x5 ∧ Int32.toInt x5 ≤ 256) → (0 ≤ Int32.toInt bL ∧ Int32.toInt bL ≤ 16) → (0 ≤ Int32.toInt bY ∧ Int32.toInt bY ≤ 0) → (jD = 0 ∨ jD = 1 ∨ jD = 2) → (0 ≤ Int32.toInt m_length ∧ Int32.toInt m_length ≤ 80) → (0 ≤ Int32.toInt oF ∧ Int32.toInt oF ≤ 80) → (0 ≤ Int32.toInt rP ∧ Int32.toInt rP ≤ 80) → (-1 ≤ Int32.toInt dQ ∧ Int32.toInt dQ ≤ 80) → (0 ≤ Int32.toInt bZ ∧ Int32.toInt bZ ≤ 0) → (0 ≤ Int32.toInt aR ∧ Int32.toInt aR ≤ 15) → (0 ≤ Int32.toInt aE ∧ Int32.toInt aE ≤ 7) → (0 ≤ Int32.toInt bI ∧ Int32.toInt bI ≤ 1) → (0 ≤ Int32.toInt aW ∧ Int32.toInt aW ≤ 63) → (0 ≤ Int32.toInt dO ∧ Int32.toInt dO ≤ 65535) → (∀ k : Nat, 0 ≤ Int32.toInt (sH k) ∧ Int32.toInt (sH k) ≤ 65535) → (256 - Int32.toInt x5 < (n : Int)) → wb_X10_share_148 post bT aG bW qG m_x gR pW qR nG oO pJ qO qQ n x1 x2 x3 x4 x5 bL bY jD m_length oF rP dQ bZ aR aE bI aW dO sW sH vK := by
  intro n
  induction n with
  | zero =>
    intro x1 x2 x3 x4 x5 bL bY jD m_length oF rP dQ bZ aR aE bI aW dO sW sH vK aBK aBN aCH aF7 yJ yG yM zE aAR aA1 aAA zT yL xQ yY yK aAH zY hm
    exfalso; omega
  | succ n ih =>
    intro x1 x2 x3 x4 x5 bL bY jD m_length oF rP dQ bZ aR aE bI aW dO sW sH vK aBK aBN aCH aF7 yJ yG yM zE aAR aA1 aAA zT yL xQ yY yK aAH zY hm
    exact ts_X10_share_148 bT aG bW qG m_x gR pW qR nG oO pJ qO qQ xJ vZ zQ xU xV aAW xK yR zM xT yF yD xZ zG zI hc0 hc1 hpost ih x1 x2 x3 x4 x5 bL bY jD m_length oF rP dQ bZ aR aE bI aW dO sW sH vK aBK aBN aCH aF7 yJ yG yM zE aAR aA1 aAA zT yL xQ yY yK aAH zY (by omega)
set_option maxHeartbeats 8000000 in
set_option maxRecDepth 200000 in
theorem ts_X10_share_105 {post : Int32 → Int32 → Int32 → Nat → Int32 → Int32 → Int32 → Int32 → Int32 → Int32 → Int32 → Int32 → Int32 → Int32 → (Nat → Int32) → (Nat → Int32) → (Nat → Int32) → Prop} {SB : Int} {K46 : Int32 → Int32 → Int32 → Int32 → Nat → Int32 → Int32 → Int32 → Int32 → Int32 → Int32 → Int32 → Int32 → Int32 → Int32 → (Nat → Int32) → (Nat → Int32) → (Nat → Int32) → Prop} {n46 : Int} (bT aG bW : Int32) (qG m_x gR pW qR nG oO pJ qO qQ : Nat → Int32) (xJ : 0 ≤ Int32.toInt bT ∧ Int32.toInt bT ≤ 16) (vZ : 0 ≤ Int32.toInt aG ∧ Int32.toInt aG ≤ 8) (zQ : 0 ≤ Int32.toInt bW ∧ Int32.toInt bW ≤ 40) (xU : ∀ k : Nat, k = 17 → -1 ≤ Int32.toInt (qG k) ∧ Int32.toInt (qG k) ≤ SB) (xV : ∀ k : Nat, k = 19 → 0 ≤ Int32.toInt (qG k) ∧ Int32.toInt (qG k) ≤ 9) (aAW : ∀ k : Nat, 0 ≤ Int32.toInt (m_x k) ∧ Int32.toInt (m_x k) ≤ 99) (xK : ∀ k : Nat, 0 ≤ Int32.toInt (gR k) ∧ Int32.toInt (gR k) ≤ 99) (yR : ∀ k : Nat, 0 ≤ Int32.toInt (pW k) ∧ Int32.toInt (pW k) ≤ 9) (zM : ∀ k : Nat, 0 ≤ Int32.toInt (qR k) ∧ Int32.toInt (qR k) ≤ 9) (xT : ∀ k : Nat, 0 ≤ Int32.toInt (nG k) ∧ Int32.toInt (nG k) ≤ 99) (yF : ∀ k : Nat, 0 ≤ Int32.toInt (oO k) ∧ Int32.toInt (oO k) ≤ 99) (yD : ∀ k : Nat, k = 4 → 1 ≤ Int32.toInt (pJ k) ∧ Int32.toInt (pJ k) ≤ 30) (xZ : ∀ k : Nat, k = 3 → 0 ≤ Int32.toInt (pJ k) ∧ Int32.toInt (pJ k) ≤ 9) (zG : ∀ k : Nat, -128 ≤ Int32.toInt (qO k) ∧ Int32.toInt (qO k) ≤ 127) (zI : ∀ k : Nat, -128 ≤ Int32.toInt (qQ k) ∧ Int32.toInt (qQ k) ≤ 127) (hc0 : -1 ≤ SB ∧ SB ≤ 7) (hc1 : (Int32.toInt aG ≤ 0 ∧ SB = 0) ∨ (1 ≤ Int32.toInt aG ∧ SB = Int32.toInt aG - 1)) (hpost : ∀ (r : Int32) (xM : Int32) (xG : Int32) (aAP : Nat) (zS : Int32) (aAz : Int32) (aAm : Int32) (zH : Int32) (aAM : Int32) (zP : Int32) (yO : Int32) (zZ : Int32) (zO : Int32) (aAS : Int32) (aBX : Nat → Int32) (aA5 : Nat → Int32) (aGb : Nat → Int32), (-2147483648 ≤ Int32.toInt r ∧ Int32.toInt r ≤ 1000000) → (0 ≤ Int32.toInt xM ∧ Int32.toInt xM ≤ 16) → (0 ≤ Int32.toInt xG ∧ Int32.toInt xG ≤ 0) → (aAP = 0 ∨ aAP = 1 ∨ aAP = 2) → (0 ≤ Int32.toInt zS ∧ Int32.toInt zS ≤ 80) → (0 ≤ Int32.toInt aAz ∧ Int32.toInt aAz ≤ 80) → (0 ≤ Int32.toInt aAm ∧ Int32.toInt aAm ≤ 80) → (-1 ≤ Int32.toInt zH ∧ Int32.toInt zH ≤ 80) → (0 ≤ Int32.toInt aAM ∧ Int32.toInt aAM ≤ 0) → (0 ≤ Int32.toInt zP ∧ Int32.toInt zP ≤ 15) → (0 ≤ Int32.toInt yO ∧ Int32.toInt yO ≤ 7) → (0 ≤ Int32.toInt zZ ∧ Int32.toInt zZ ≤ 1) → (0 ≤ Int32.toInt zO ∧ Int32.toInt zO ≤ 63) → (0 ≤ Int32.toInt aAS ∧ Int32.toInt aAS ≤ 65535) → (∀ k : Nat, 0 ≤ Int32.toInt (aA5 k) ∧ Int32.toInt (aA5 k) ≤ 65535) → post r xM xG aAP zS aAz aAm zH aAM zP yO zZ zO aAS aBX aA5 aGb) (hK46 : ∀ (x1 : Int32) (x2 : Int32) (bL : Int32) (bY : Int32) (jD : Nat) (m_length : Int32) (oF : Int32) (rP : Int32) (dQ : Int32) (bZ : Int32) (aR : Int32) (aE : Int32) (bI : Int32) (aW : Int32) (dO : Int32) (sW : Nat → Int32) (sH : Nat → Int32) (vK : Nat → Int32), (0 ≤ Int32.toInt x1 ∧ Int32.toInt x1 ≤ 255) → (0 ≤ Int32.toInt x2 ∧ Int32.toInt x2 ≤ 16) → (0 ≤ Int32.toInt bL ∧ Int32.toInt bL ≤ 16) → (0 ≤ Int32.toInt bY ∧ Int32.toInt bY ≤ 0) → (jD = 0 ∨ jD = 1 ∨ jD = 2) → (0 ≤ Int32.toInt m_length ∧ Int32.toInt m_length ≤ 80) → (0 ≤ Int32.toInt oF ∧ Int32.toInt oF ≤ 80) → (0 ≤ Int32.toInt rP ∧ Int32.toInt rP ≤ 80) → (-1 ≤ Int32.toInt dQ ∧ Int32.toInt dQ ≤ 80) → (0 ≤ Int32.toInt bZ ∧ Int32.toInt bZ ≤ 0) → (0 ≤ Int32.toInt aR ∧ Int32.toInt aR ≤ 15) → (0 ≤ Int32.toInt aE ∧ Int32.toInt aE ≤ 7) → (0 ≤ Int32.toInt bI ∧ Int32.toInt bI ≤ 1) → (0 ≤ Int32.toInt aW ∧ Int32.toInt aW ≤ 63) → (0 ≤ Int32.toInt dO ∧ Int32.toInt dO ≤ 65535) → (∀ k : Nat, 0 ≤ Int32.toInt (sH k) ∧ Int32.toInt (sH k) ≤ 65535) → (16 - Int32.toInt x2 < n46) → K46 x1 x2 bL bY jD m_length oF rP dQ bZ aR aE bI aW dO sW sH vK) (x1 x2 x3 bL bY : Int32) (jD : Nat) (m_length oF rP dQ bZ aR aE bI aW dO : Int32) (sW sH vK : Nat → Int32) (aBK : 0 ≤ Int32.toInt x1 ∧ Int32.toInt x1 ≤ 255) (aBN : 0 ≤ Int32.toInt x2 ∧ Int32.toInt x2 ≤ 15) (aCH : 0 ≤ Int32.toInt x3 ∧ Int32.toInt x3 ≤ 8) (yJ : 0 ≤ Int32.toInt bL ∧ Int32.toInt bL ≤ 16) (yG : 0 ≤ Int32.toInt bY ∧ Int32.toInt bY ≤ 0) (yM : jD = 0 ∨ jD = 1 ∨ jD = 2) (zE : 0 ≤ Int32.toInt m_length ∧ Int32.toInt m_length ≤ 80) (aAR : 0 ≤ Int32.toInt oF ∧ Int32.toInt oF ≤ 80) (aA1 : 0 ≤ Int32.toInt rP ∧ Int32.toInt rP ≤ 80) (aAA : -1 ≤ Int32.toInt dQ ∧ Int32.toInt dQ ≤ 80) (zT : 0 ≤ Int32.toInt bZ ∧ Int32.toInt bZ ≤ 0) (yL : 0 ≤ Int32.toInt aR ∧ Int32.toInt aR ≤ 15) (xQ : 0 ≤ Int32.toInt aE ∧ Int32.toInt aE ≤ 7) (yY : 0 ≤ Int32.toInt bI ∧ Int32.toInt bI ≤ 1) (yK : 0 ≤ Int32.toInt aW ∧ Int32.toInt aW ≤ 63) (aAH : 0 ≤ Int32.toInt dO ∧ Int32.toInt dO ≤ 65535) (zY : ∀ k : Nat, 0 ≤ Int32.toInt (sH k) ∧ Int32.toInt (sH k) ≤ 65535) (hn46 : 16 - Int32.toInt x2 ≤ n46) : ws_X10_share_105 post K46 bT aG bW qG m_x gR pW qR nG oO pJ qO qQ x1 x2 x3 bL bY jD m_length oF rP dQ bZ aR aE bI aW dO sW sH vK := by
  have l0 := aE0
  refine And.intro (fun c34 => ?_) (fun c34 => ?_)
  · skip
    have c34 := (aAO _ _).mp c34
    exact ts_X10_share_130 bT aG bW qG m_x gR pW qR nG oO pJ qO qQ xJ vZ zQ xU xV aAW xK yR zM xT yF yD xZ zG zI hc0 hc1 hpost hK46 x1 x2 bL bY jD m_length oF rP dQ bZ aR aE bI aW dO sW sH vK aBK aBN yJ yG yM zE aAR aA1 aAA zT yL xQ yY yK aAH zY hn46
  · skip
    have c34 := mt (aAO _ _).mpr c34
    refine And.intro (aBZ ⟨by omega, by omega⟩) ?_
    intro v35 ev35
    have hv35 := congrArg Int32.toInt ev35
    refine t_X10_secondsOf aBN ⟨by omega, by omega⟩ ⟨by omega, by omega⟩ ⟨by omega, by omega⟩ yM zE aAR aA1 aAA zQ zT yL xQ yY yK aAW xK yR xT yF zG zI (fun r47 m_read_37 m_length_38 m_top_39 m_at_40 m_wrong_41 m_isAsked_42 m_askedFruit_43 m_askedStanding_44 m_askedHook_45 m_askedApron_46 h_r47 h_m_read_37 h_m_length_38 h_m_top_39 h_m_at_40 h_m_wrong_41 h_m_isAsked_42 h_m_askedFruit_43 h_m_askedStanding_44 h_m_askedHook_45 h_m_askedApron_46 => ?_)
    intro v48 ev48
    have hv48 := congrArg Int32.toInt ev48
    refine And.intro (aBZ ⟨by omega, by omega⟩) ?_
    exact ts_X10_share_130 bT aG bW qG m_x gR pW qR nG oO pJ qO qQ xJ vZ zQ xU xV aAW xK yR zM xT yF yD xZ zG zI hc0 hc1 hpost hK46 x1 x2 bL bY m_read_37 m_length_38 m_top_39 m_at_40 m_wrong_41 m_isAsked_42 m_askedFruit_43 m_askedStanding_44 m_askedHook_45 m_askedApron_46 dO sW sH (upd vK x3.toNatClampNeg v48) aBK aBN yJ yG h_m_read_37 h_m_length_38 h_m_top_39 h_m_at_40 h_m_wrong_41 h_m_isAsked_42 h_m_askedFruit_43 h_m_askedStanding_44 h_m_askedHook_45 h_m_askedApron_46 aAH zY hn46
set_option maxHeartbeats 8000000 in
set_option maxRecDepth 200000 in
theorem ts_X10_share_99 {post : Int32 → Int32 → Int32 → Nat → Int32 → Int32 → Int32 → Int32 → Int32 → Int32 → Int32 → Int32 → Int32 → Int32 → (Nat → Int32) → (Nat → Int32) → (Nat → Int32) → Prop} {SB : Int} {K46 : Int32 → Int32 → Int32 → Int32 → Nat → Int32 → Int32 → Int32 → Int32 → Int32 → Int32 → Int32 → Int32 → Int32 → Int32 → (Nat → Int32) → (Nat → Int32) → (Nat → Int32) → Prop} {K70 : Int32 → Int32 → Int32 → Int32 → Int32 → Nat → Int32 → Int32 → Int32 → Int32 → Int32 → Int32 → Int32 → Int32 → Int32 → Int32 → (Nat → Int32) → (Nat → Int32) → (Nat → Int32) → Prop} {n46 n70 : Int} (bT aG bW : Int32) (qG m_x gR pW qR nG oO pJ qO qQ : Nat → Int32) (xJ : 0 ≤ Int32.toInt bT ∧ Int32.toInt bT ≤ 16) (vZ : 0 ≤ Int32.toInt aG ∧ Int32.toInt aG ≤ 8) (zQ : 0 ≤ Int32.toInt bW ∧ Int32.toInt bW ≤ 40) (xU : ∀ k : Nat, k = 17 → -1 ≤ Int32.toInt (qG k) ∧ Int32.toInt (qG k) ≤ SB) (xV : ∀ k : Nat, k = 19 → 0 ≤ Int32.toInt (qG k) ∧ Int32.toInt (qG k) ≤ 9) (aAW : ∀ k : Nat, 0 ≤ Int32.toInt (m_x k) ∧ Int32.toInt (m_x k) ≤ 99) (xK : ∀ k : Nat, 0 ≤ Int32.toInt (gR k) ∧ Int32.toInt (gR k) ≤ 99) (yR : ∀ k : Nat, 0 ≤ Int32.toInt (pW k) ∧ Int32.toInt (pW k) ≤ 9) (zM : ∀ k : Nat, 0 ≤ Int32.toInt (qR k) ∧ Int32.toInt (qR k) ≤ 9) (xT : ∀ k : Nat, 0 ≤ Int32.toInt (nG k) ∧ Int32.toInt (nG k) ≤ 99) (yF : ∀ k : Nat, 0 ≤ Int32.toInt (oO k) ∧ Int32.toInt (oO k) ≤ 99) (yD : ∀ k : Nat, k = 4 → 1 ≤ Int32.toInt (pJ k) ∧ Int32.toInt (pJ k) ≤ 30) (xZ : ∀ k : Nat, k = 3 → 0 ≤ Int32.toInt (pJ k) ∧ Int32.toInt (pJ k) ≤ 9) (zG : ∀ k : Nat, -128 ≤ Int32.toInt (qO k) ∧ Int32.toInt (qO k) ≤ 127) (zI : ∀ k : Nat, -128 ≤ Int32.toInt (qQ k) ∧ Int32.toInt (qQ k) ≤ 127) (hc0 : -1 ≤ SB ∧ SB ≤ 7) (hc1 : (Int32.toInt aG ≤ 0 ∧ SB = 0) ∨ (1 ≤ Int32.toInt aG ∧ SB = Int32.toInt aG - 1)) (hpost : ∀ (r : Int32) (xM : Int32) (xG : Int32) (aAP : Nat) (zS : Int32) (aAz : Int32) (aAm : Int32) (zH : Int32) (aAM : Int32) (zP : Int32) (yO : Int32) (zZ : Int32) (zO : Int32) (aAS : Int32) (aBX : Nat → Int32) (aA5 : Nat → Int32) (aGb : Nat → Int32), (-2147483648 ≤ Int32.toInt r ∧ Int32.toInt r ≤ 1000000) → (0 ≤ Int32.toInt xM ∧ Int32.toInt xM ≤ 16) → (0 ≤ Int32.toInt xG ∧ Int32.toInt xG ≤ 0) → (aAP = 0 ∨ aAP = 1 ∨ aAP = 2) → (0 ≤ Int32.toInt zS ∧ Int32.toInt zS ≤ 80) → (0 ≤ Int32.toInt aAz ∧ Int32.toInt aAz ≤ 80) → (0 ≤ Int32.toInt aAm ∧ Int32.toInt aAm ≤ 80) → (-1 ≤ Int32.toInt zH ∧ Int32.toInt zH ≤ 80) → (0 ≤ Int32.toInt aAM ∧ Int32.toInt aAM ≤ 0) → (0 ≤ Int32.toInt zP ∧ Int32.toInt zP ≤ 15) → (0 ≤ Int32.toInt yO ∧ Int32.toInt yO ≤ 7) → (0 ≤ Int32.toInt zZ ∧ Int32.toInt zZ ≤ 1) → (0 ≤ Int32.toInt zO ∧ Int32.toInt zO ≤ 63) → (0 ≤ Int32.toInt aAS ∧ Int32.toInt aAS ≤ 65535) → (∀ k : Nat, 0 ≤ Int32.toInt (aA5 k) ∧ Int32.toInt (aA5 k) ≤ 65535) → post r xM xG aAP zS aAz aAm zH aAM zP yO zZ zO aAS aBX aA5 aGb) (hK46 : ∀ (x1 : Int32) (x2 : Int32) (bL : Int32) (bY : Int32) (jD : Nat) (m_length : Int32) (oF : Int32) (rP : Int32) (dQ : Int32) (bZ : Int32) (aR : Int32) (aE : Int32) (bI : Int32) (aW : Int32) (dO : Int32) (sW : Nat → Int32) (sH : Nat → Int32) (vK : Nat → Int32), (0 ≤ Int32.toInt x1 ∧ Int32.toInt x1 ≤ 255) → (0 ≤ Int32.toInt x2 ∧ Int32.toInt x2 ≤ 16) → (0 ≤ Int32.toInt bL ∧ Int32.toInt bL ≤ 16) → (0 ≤ Int32.toInt bY ∧ Int32.toInt bY ≤ 0) → (jD = 0 ∨ jD = 1 ∨ jD = 2) → (0 ≤ Int32.toInt m_length ∧ Int32.toInt m_length ≤ 80) → (0 ≤ Int32.toInt oF ∧ Int32.toInt oF ≤ 80) → (0 ≤ Int32.toInt rP ∧ Int32.toInt rP ≤ 80) → (-1 ≤ Int32.toInt dQ ∧ Int32.toInt dQ ≤ 80) → (0 ≤ Int32.toInt bZ ∧ Int32.toInt bZ ≤ 0) → (0 ≤ Int32.toInt aR ∧ Int32.toInt aR ≤ 15) → (0 ≤ Int32.toInt aE ∧ Int32.toInt aE ≤ 7) → (0 ≤ Int32.toInt bI ∧ Int32.toInt bI ≤ 1) → (0 ≤ Int32.toInt aW ∧ Int32.toInt aW ≤ 63) → (0 ≤ Int32.toInt dO ∧ Int32.toInt dO ≤ 65535) → (∀ k : Nat, 0 ≤ Int32.toInt (sH k) ∧ Int32.toInt (sH k) ≤ 65535) → (16 - Int32.toInt x2 < n46) → K46 x1 x2 bL bY jD m_length oF rP dQ bZ aR aE bI aW dO sW sH vK) (hK70 : ∀ (x1 : Int32) (x2 : Int32) (x3 : Int32) (bL : Int32) (bY : Int32) (jD : Nat) (m_length : Int32) (oF : Int32) (rP : Int32) (dQ : Int32) (bZ : Int32) (aR : Int32) (aE : Int32) (bI : Int32) (aW : Int32) (dO : Int32) (sW : Nat → Int32) (sH : Nat → Int32) (vK : Nat → Int32), (0 ≤ Int32.toInt x1 ∧ Int32.toInt x1 ≤ 255) → (0 ≤ Int32.toInt x2 ∧ Int32.toInt x2 ≤ 15) → (0 ≤ Int32.toInt x3 ∧ Int32.toInt x3 ≤ 8) → (0 ≤ Int32.toInt bL ∧ Int32.toInt bL ≤ 16) → (0 ≤ Int32.toInt bY ∧ Int32.toInt bY ≤ 0) → (jD = 0 ∨ jD = 1 ∨ jD = 2) → (0 ≤ Int32.toInt m_length ∧ Int32.toInt m_length ≤ 80) → (0 ≤ Int32.toInt oF ∧ Int32.toInt oF ≤ 80) → (0 ≤ Int32.toInt rP ∧ Int32.toInt rP ≤ 80) → (-1 ≤ Int32.toInt dQ ∧ Int32.toInt dQ ≤ 80) → (0 ≤ Int32.toInt bZ ∧ Int32.toInt bZ ≤ 0) → (0 ≤ Int32.toInt aR ∧ Int32.toInt aR ≤ 15) → (0 ≤ Int32.toInt aE ∧ Int32.toInt aE ≤ 7) → (0 ≤ Int32.toInt bI ∧ Int32.toInt bI ≤ 1) → (0 ≤ Int32.toInt aW ∧ Int32.toInt aW ≤ 63) → (0 ≤ Int32.toInt dO ∧ Int32.toInt dO ≤ 65535) → (∀ k : Nat, 0 ≤ Int32.toInt (sH k) ∧ Int32.toInt (sH k) ≤ 65535) → (16 - Int32.toInt x2 ≤ n46) → (8 - Int32.toInt x3 < n70) → K70 x1 x2 x3 bL bY jD m_length oF rP dQ bZ aR aE bI aW dO sW sH vK) (x1 x2 x3 bL bY : Int32) (jD : Nat) (m_length oF rP dQ bZ aR aE bI aW dO : Int32) (sW sH vK : Nat → Int32) (aBK : 0 ≤ Int32.toInt x1 ∧ Int32.toInt x1 ≤ 255) (aBN : 0 ≤ Int32.toInt x2 ∧ Int32.toInt x2 ≤ 15) (aCH : 0 ≤ Int32.toInt x3 ∧ Int32.toInt x3 ≤ 7) (yJ : 0 ≤ Int32.toInt bL ∧ Int32.toInt bL ≤ 16) (yG : 0 ≤ Int32.toInt bY ∧ Int32.toInt bY ≤ 0) (yM : jD = 0 ∨ jD = 1 ∨ jD = 2) (zE : 0 ≤ Int32.toInt m_length ∧ Int32.toInt m_length ≤ 80) (aAR : 0 ≤ Int32.toInt oF ∧ Int32.toInt oF ≤ 80) (aA1 : 0 ≤ Int32.toInt rP ∧ Int32.toInt rP ≤ 80) (aAA : -1 ≤ Int32.toInt dQ ∧ Int32.toInt dQ ≤ 80) (zT : 0 ≤ Int32.toInt bZ ∧ Int32.toInt bZ ≤ 0) (yL : 0 ≤ Int32.toInt aR ∧ Int32.toInt aR ≤ 15) (xQ : 0 ≤ Int32.toInt aE ∧ Int32.toInt aE ≤ 7) (yY : 0 ≤ Int32.toInt bI ∧ Int32.toInt bI ≤ 1) (yK : 0 ≤ Int32.toInt aW ∧ Int32.toInt aW ≤ 63) (aAH : 0 ≤ Int32.toInt dO ∧ Int32.toInt dO ≤ 65535) (zY : ∀ k : Nat, 0 ≤ Int32.toInt (sH k) ∧ Int32.toInt (sH k) ≤ 65535) (hn46 : 16 - Int32.toInt x2 ≤ n46) (hn70 : 8 - Int32.toInt x3 ≤ n70) : ws_X10_share_99 post K46 K70 bT aG bW qG m_x gR pW qR nG oO pJ qO qQ x1 x2 x3 bL bY jD m_length oF rP dQ bZ aR aE bI aW dO sW sH vK := by
  have l0 := aEc
  intro v50 ev50
  have f51 : Int32.toInt (x3 + 1) = Int32.toInt x3 + Int32.toInt (1 : Int32) := aAD _ _ ⟨by omega, by omega⟩
  rw [← ev50] at f51
  exact hK70 x1 x2 v50 bL bY jD m_length oF rP dQ bZ aR aE bI aW dO sW sH vK aBK aBN ⟨by omega, by omega⟩ yJ yG yM zE aAR aA1 aAA zT yL xQ yY yK aAH zY hn46 (by omega)
set_option maxHeartbeats 8000000 in
set_option maxRecDepth 200000 in
theorem ts_X10_share_70 {post : Int32 → Int32 → Int32 → Nat → Int32 → Int32 → Int32 → Int32 → Int32 → Int32 → Int32 → Int32 → Int32 → Int32 → (Nat → Int32) → (Nat → Int32) → (Nat → Int32) → Prop} {SB : Int} {K46 : Int32 → Int32 → Int32 → Int32 → Nat → Int32 → Int32 → Int32 → Int32 → Int32 → Int32 → Int32 → Int32 → Int32 → Int32 → (Nat → Int32) → (Nat → Int32) → (Nat → Int32) → Prop} {next : Int32 → Int32 → Int32 → Int32 → Int32 → Nat → Int32 → Int32 → Int32 → Int32 → Int32 → Int32 → Int32 → Int32 → Int32 → Int32 → (Nat → Int32) → (Nat → Int32) → (Nat → Int32) → Prop} {n70 n46 : Int} (bT aG bW : Int32) (qG m_x gR pW qR nG oO pJ qO qQ : Nat → Int32) (xJ : 0 ≤ Int32.toInt bT ∧ Int32.toInt bT ≤ 16) (vZ : 0 ≤ Int32.toInt aG ∧ Int32.toInt aG ≤ 8) (zQ : 0 ≤ Int32.toInt bW ∧ Int32.toInt bW ≤ 40) (xU : ∀ k : Nat, k = 17 → -1 ≤ Int32.toInt (qG k) ∧ Int32.toInt (qG k) ≤ SB) (xV : ∀ k : Nat, k = 19 → 0 ≤ Int32.toInt (qG k) ∧ Int32.toInt (qG k) ≤ 9) (aAW : ∀ k : Nat, 0 ≤ Int32.toInt (m_x k) ∧ Int32.toInt (m_x k) ≤ 99) (xK : ∀ k : Nat, 0 ≤ Int32.toInt (gR k) ∧ Int32.toInt (gR k) ≤ 99) (yR : ∀ k : Nat, 0 ≤ Int32.toInt (pW k) ∧ Int32.toInt (pW k) ≤ 9) (zM : ∀ k : Nat, 0 ≤ Int32.toInt (qR k) ∧ Int32.toInt (qR k) ≤ 9) (xT : ∀ k : Nat, 0 ≤ Int32.toInt (nG k) ∧ Int32.toInt (nG k) ≤ 99) (yF : ∀ k : Nat, 0 ≤ Int32.toInt (oO k) ∧ Int32.toInt (oO k) ≤ 99) (yD : ∀ k : Nat, k = 4 → 1 ≤ Int32.toInt (pJ k) ∧ Int32.toInt (pJ k) ≤ 30) (xZ : ∀ k : Nat, k = 3 → 0 ≤ Int32.toInt (pJ k) ∧ Int32.toInt (pJ k) ≤ 9) (zG : ∀ k : Nat, -128 ≤ Int32.toInt (qO k) ∧ Int32.toInt (qO k) ≤ 127) (zI : ∀ k : Nat, -128 ≤ Int32.toInt (qQ k) ∧ Int32.toInt (qQ k) ≤ 127) (hc0 : -1 ≤ SB ∧ SB ≤ 7) (hc1 : (Int32.toInt aG ≤ 0 ∧ SB = 0) ∨ (1 ≤ Int32.toInt aG ∧ SB = Int32.toInt aG - 1)) (hpost : ∀ (r : Int32) (xM : Int32) (xG : Int32) (aAP : Nat) (zS : Int32) (aAz : Int32) (aAm : Int32) (zH : Int32) (aAM : Int32) (zP : Int32) (yO : Int32) (zZ : Int32) (zO : Int32) (aAS : Int32) (aBX : Nat → Int32) (aA5 : Nat → Int32) (aGb : Nat → Int32), (-2147483648 ≤ Int32.toInt r ∧ Int32.toInt r ≤ 1000000) → (0 ≤ Int32.toInt xM ∧ Int32.toInt xM ≤ 16) → (0 ≤ Int32.toInt xG ∧ Int32.toInt xG ≤ 0) → (aAP = 0 ∨ aAP = 1 ∨ aAP = 2) → (0 ≤ Int32.toInt zS ∧ Int32.toInt zS ≤ 80) → (0 ≤ Int32.toInt aAz ∧ Int32.toInt aAz ≤ 80) → (0 ≤ Int32.toInt aAm ∧ Int32.toInt aAm ≤ 80) → (-1 ≤ Int32.toInt zH ∧ Int32.toInt zH ≤ 80) → (0 ≤ Int32.toInt aAM ∧ Int32.toInt aAM ≤ 0) → (0 ≤ Int32.toInt zP ∧ Int32.toInt zP ≤ 15) → (0 ≤ Int32.toInt yO ∧ Int32.toInt yO ≤ 7) → (0 ≤ Int32.toInt zZ ∧ Int32.toInt zZ ≤ 1) → (0 ≤ Int32.toInt zO ∧ Int32.toInt zO ≤ 63) → (0 ≤ Int32.toInt aAS ∧ Int32.toInt aAS ≤ 65535) → (∀ k : Nat, 0 ≤ Int32.toInt (aA5 k) ∧ Int32.toInt (aA5 k) ≤ 65535) → post r xM xG aAP zS aAz aAm zH aAM zP yO zZ zO aAS aBX aA5 aGb) (hK46 : ∀ (x1 : Int32) (x2 : Int32) (bL : Int32) (bY : Int32) (jD : Nat) (m_length : Int32) (oF : Int32) (rP : Int32) (dQ : Int32) (bZ : Int32) (aR : Int32) (aE : Int32) (bI : Int32) (aW : Int32) (dO : Int32) (sW : Nat → Int32) (sH : Nat → Int32) (vK : Nat → Int32), (0 ≤ Int32.toInt x1 ∧ Int32.toInt x1 ≤ 255) → (0 ≤ Int32.toInt x2 ∧ Int32.toInt x2 ≤ 16) → (0 ≤ Int32.toInt bL ∧ Int32.toInt bL ≤ 16) → (0 ≤ Int32.toInt bY ∧ Int32.toInt bY ≤ 0) → (jD = 0 ∨ jD = 1 ∨ jD = 2) → (0 ≤ Int32.toInt m_length ∧ Int32.toInt m_length ≤ 80) → (0 ≤ Int32.toInt oF ∧ Int32.toInt oF ≤ 80) → (0 ≤ Int32.toInt rP ∧ Int32.toInt rP ≤ 80) → (-1 ≤ Int32.toInt dQ ∧ Int32.toInt dQ ≤ 80) → (0 ≤ Int32.toInt bZ ∧ Int32.toInt bZ ≤ 0) → (0 ≤ Int32.toInt aR ∧ Int32.toInt aR ≤ 15) → (0 ≤ Int32.toInt aE ∧ Int32.toInt aE ≤ 7) → (0 ≤ Int32.toInt bI ∧ Int32.toInt bI ≤ 1) → (0 ≤ Int32.toInt aW ∧ Int32.toInt aW ≤ 63) → (0 ≤ Int32.toInt dO ∧ Int32.toInt dO ≤ 65535) → (∀ k : Nat, 0 ≤ Int32.toInt (sH k) ∧ Int32.toInt (sH k) ≤ 65535) → (16 - Int32.toInt x2 < n46) → K46 x1 x2 bL bY jD m_length oF rP dQ bZ aR aE bI aW dO sW sH vK) (hKn : ∀ (x1 : Int32) (x2 : Int32) (x3 : Int32) (bL : Int32) (bY : Int32) (jD : Nat) (m_length : Int32) (oF : Int32) (rP : Int32) (dQ : Int32) (bZ : Int32) (aR : Int32) (aE : Int32) (bI : Int32) (aW : Int32) (dO : Int32) (sW : Nat → Int32) (sH : Nat → Int32) (vK : Nat → Int32), (0 ≤ Int32.toInt x1 ∧ Int32.toInt x1 ≤ 255) → (0 ≤ Int32.toInt x2 ∧ Int32.toInt x2 ≤ 15) → (0 ≤ Int32.toInt x3 ∧ Int32.toInt x3 ≤ 8) → (0 ≤ Int32.toInt bL ∧ Int32.toInt bL ≤ 16) → (0 ≤ Int32.toInt bY ∧ Int32.toInt bY ≤ 0) → (jD = 0 ∨ jD = 1 ∨ jD = 2) → (0 ≤ Int32.toInt m_length ∧ Int32.toInt m_length ≤ 80) → (0 ≤ Int32.toInt oF ∧ Int32.toInt oF ≤ 80) → (0 ≤ Int32.toInt rP ∧ Int32.toInt rP ≤ 80) → (-1 ≤ Int32.toInt dQ ∧ Int32.toInt dQ ≤ 80) → (0 ≤ Int32.toInt bZ ∧ Int32.toInt bZ ≤ 0) → (0 ≤ Int32.toInt aR ∧ Int32.toInt aR ≤ 15) → (0 ≤ Int32.toInt aE ∧ Int32.toInt aE ≤ 7) → (0 ≤ Int32.toInt bI ∧ Int32.toInt bI ≤ 1) → (0 ≤ Int32.toInt aW ∧ Int32.toInt aW ≤ 63) → (0 ≤ Int32.toInt dO ∧ Int32.toInt dO ≤ 65535) → (∀ k : Nat, 0 ≤ Int32.toInt (sH k) ∧ Int32.toInt (sH k) ≤ 65535) → (16 - Int32.toInt x2 ≤ n46) → (8 - Int32.toInt x3 < n70) → next x1 x2 x3 bL bY jD m_length oF rP dQ bZ aR aE bI aW dO sW sH vK) (x1 x2 x3 bL bY : Int32) (jD : Nat) (m_length oF rP dQ bZ aR aE bI aW dO : Int32) (sW sH vK : Nat → Int32) (aBK : 0 ≤ Int32.toInt x1 ∧ Int32.toInt x1 ≤ 255) (aBN : 0 ≤ Int32.toInt x2 ∧ Int32.toInt x2 ≤ 15) (aCH : 0 ≤ Int32.toInt x3 ∧ Int32.toInt x3 ≤ 8) (yJ : 0 ≤ Int32.toInt bL ∧ Int32.toInt bL ≤ 16) (yG : 0 ≤ Int32.toInt bY ∧ Int32.toInt bY ≤ 0) (yM : jD = 0 ∨ jD = 1 ∨ jD = 2) (zE : 0 ≤ Int32.toInt m_length ∧ Int32.toInt m_length ≤ 80) (aAR : 0 ≤ Int32.toInt oF ∧ Int32.toInt oF ≤ 80) (aA1 : 0 ≤ Int32.toInt rP ∧ Int32.toInt rP ≤ 80) (aAA : -1 ≤ Int32.toInt dQ ∧ Int32.toInt dQ ≤ 80) (zT : 0 ≤ Int32.toInt bZ ∧ Int32.toInt bZ ≤ 0) (yL : 0 ≤ Int32.toInt aR ∧ Int32.toInt aR ≤ 15) (xQ : 0 ≤ Int32.toInt aE ∧ Int32.toInt aE ≤ 7) (yY : 0 ≤ Int32.toInt bI ∧ Int32.toInt bI ≤ 1) (yK : 0 ≤ Int32.toInt aW ∧ Int32.toInt aW ≤ 63) (aAH : 0 ≤ Int32.toInt dO ∧ Int32.toInt dO ≤ 65535) (zY : ∀ k : Nat, 0 ≤ Int32.toInt (sH k) ∧ Int32.toInt (sH k) ≤ 65535) (hn46 : 16 - Int32.toInt x2 ≤ n46) (hn70 : 8 - Int32.toInt x3 ≤ n70) : ws_X10_share_70 post K46 next bT aG bW qG m_x gR pW qR nG oO pJ qO qQ x1 x2 x3 bL bY jD m_length oF rP dQ bZ aR aE bI aW dO sW sH vK := by
  have l0 := aEc
  refine And.intro (fun c52 => ?_) (fun c52 => ?_)
  · skip
    have c52 := (aAO _ _).mp c52
    exact ts_X10_share_105 bT aG bW qG m_x gR pW qR nG oO pJ qO qQ xJ vZ zQ xU xV aAW xK yR zM xT yF yD xZ zG zI hc0 hc1 hpost hK46 x1 x2 x3 bL bY jD m_length oF rP dQ bZ aR aE bI aW dO sW sH vK aBK aBN aCH yJ yG yM zE aAR aA1 aAA zT yL xQ yY yK aAH zY hn46
  · skip
    have c52 := mt (aAO _ _).mpr c52
    intro v53 ev53
    have f54 := aRJ x1 x3 (by omega)
    have hv53 := congrArg Int32.toInt ev53
    intro v55 ev55
    have f56 := aAQ v53 1 (by omega)
    have f57 := aBx v53 1 (by omega)
    have hv55 := congrArg Int32.toInt ev55
    refine And.intro (fun c58 => ?_) (fun c58 => ?_)
    · skip
      have c58 := mt (zJ _ _).mpr c58
      refine And.intro (fun _ => ?_) (fun h9 => absurd h9 (by decide))
      exact ts_X10_share_99 bT aG bW qG m_x gR pW qR nG oO pJ qO qQ xJ vZ zQ xU xV aAW xK yR zM xT yF yD xZ zG zI hc0 hc1 hpost hK46 hKn x1 x2 x3 bL bY jD m_length oF rP dQ bZ aR aE bI aW dO sW sH vK aBK aBN ⟨by omega, by omega⟩ yJ yG yM zE aAR aA1 aAA zT yL xQ yY yK aAH zY hn46 hn70
    · skip
      have c58 := (zJ _ _).mp c58
      refine And.intro (fun h9 => absurd h9 (by decide)) (fun _ => ?_)
      refine And.intro (aBZ ⟨by omega, by omega⟩) ?_
      intro v59 ev59
      have f60 := zY x3.toNatClampNeg
      have hv59 := congrArg Int32.toInt ev59
      intro v61 ev61
      have f62 := aRJ v59 x2 (by omega)
      have hv61 := congrArg Int32.toInt ev61
      intro v63 ev63
      have f64 := aAQ v61 1 (by omega)
      have f65 := aBx v61 1 (by omega)
      have hv63 := congrArg Int32.toInt ev63
      refine And.intro (fun c66 => ?_) (fun c66 => ?_)
      · skip
        have c66 := mt (zJ _ _).mpr c66
        refine And.intro (fun h9 => absurd h9 (by decide)) (fun _ => ?_)
        exact ts_X10_share_99 bT aG bW qG m_x gR pW qR nG oO pJ qO qQ xJ vZ zQ xU xV aAW xK yR zM xT yF yD xZ zG zI hc0 hc1 hpost hK46 hKn x1 x2 x3 bL bY jD m_length oF rP dQ bZ aR aE bI aW dO sW sH vK aBK aBN ⟨by omega, by omega⟩ yJ yG yM zE aAR aA1 aAA zT yL xQ yY yK aAH zY hn46 hn70
      · skip
        have c66 := (zJ _ _).mp c66
        refine And.intro (fun _ => ?_) (fun h9 => absurd h9 (by decide))
        exact ts_X10_share_105 bT aG bW qG m_x gR pW qR nG oO pJ qO qQ xJ vZ zQ xU xV aAW xK yR zM xT yF yD xZ zG zI hc0 hc1 hpost hK46 x1 x2 x3 bL bY jD m_length oF rP dQ bZ aR aE bI aW dO sW sH vK aBK aBN aCH yJ yG yM zE aAR aA1 aAA zT yL xQ yY yK aAH zY hn46
set_option maxHeartbeats 8000000 in
set_option maxRecDepth 200000 in
theorem tb_X10_share_70 {post : Int32 → Int32 → Int32 → Nat → Int32 → Int32 → Int32 → Int32 → Int32 → Int32 → Int32 → Int32 → Int32 → Int32 → (Nat → Int32) → (Nat → Int32) → (Nat → Int32) → Prop} {SB : Int} {K46 : Int32 → Int32 → Int32 → Int32 → Nat → Int32 → Int32 → Int32 → Int32 → Int32 → Int32 → Int32 → Int32 → Int32 → Int32 → (Nat → Int32) → (Nat → Int32) → (Nat → Int32) → Prop} {n46 : Int} (bT aG bW : Int32) (qG m_x gR pW qR nG oO pJ qO qQ : Nat → Int32) (xJ : 0 ≤ Int32.toInt bT ∧ Int32.toInt bT ≤ 16) (vZ : 0 ≤ Int32.toInt aG ∧ Int32.toInt aG ≤ 8) (zQ : 0 ≤ Int32.toInt bW ∧ Int32.toInt bW ≤ 40) (xU : ∀ k : Nat, k = 17 → -1 ≤ Int32.toInt (qG k) ∧ Int32.toInt (qG k) ≤ SB) (xV : ∀ k : Nat, k = 19 → 0 ≤ Int32.toInt (qG k) ∧ Int32.toInt (qG k) ≤ 9) (aAW : ∀ k : Nat, 0 ≤ Int32.toInt (m_x k) ∧ Int32.toInt (m_x k) ≤ 99) (xK : ∀ k : Nat, 0 ≤ Int32.toInt (gR k) ∧ Int32.toInt (gR k) ≤ 99) (yR : ∀ k : Nat, 0 ≤ Int32.toInt (pW k) ∧ Int32.toInt (pW k) ≤ 9) (zM : ∀ k : Nat, 0 ≤ Int32.toInt (qR k) ∧ Int32.toInt (qR k) ≤ 9) (xT : ∀ k : Nat, 0 ≤ Int32.toInt (nG k) ∧ Int32.toInt (nG k) ≤ 99) (yF : ∀ k : Nat, 0 ≤ Int32.toInt (oO k) ∧ Int32.toInt (oO k) ≤ 99) (yD : ∀ k : Nat, k = 4 → 1 ≤ Int32.toInt (pJ k) ∧ Int32.toInt (pJ k) ≤ 30) (xZ : ∀ k : Nat, k = 3 → 0 ≤ Int32.toInt (pJ k) ∧ Int32.toInt (pJ k) ≤ 9) (zG : ∀ k : Nat, -128 ≤ Int32.toInt (qO k) ∧ Int32.toInt (qO k) ≤ 127) (zI : ∀ k : Nat, -128 ≤ Int32.toInt (qQ k) ∧ Int32.toInt (qQ k) ≤ 127) (hc0 : -1 ≤ SB ∧ SB ≤ 7) (hc1 : (Int32.toInt aG ≤ 0 ∧ SB = 0) ∨ (1 ≤ Int32.toInt aG ∧ SB = Int32.toInt aG - 1)) (hpost : ∀ (r : Int32) (xM : Int32) (xG : Int32) (aAP : Nat) (zS : Int32) (aAz : Int32) (aAm : Int32) (zH : Int32) (aAM : Int32) (zP : Int32) (yO : Int32) (zZ : Int32) (zO : Int32) (aAS : Int32) (aBX : Nat → Int32) (aA5 : Nat → Int32) (aGb : Nat → Int32), (-2147483648 ≤ Int32.toInt r ∧ Int32.toInt r ≤ 1000000) → (0 ≤ Int32.toInt xM ∧ Int32.toInt xM ≤ 16) → (0 ≤ Int32.toInt xG ∧ Int32.toInt xG ≤ 0) → (aAP = 0 ∨ aAP = 1 ∨ aAP = 2) → (0 ≤ Int32.toInt zS ∧ Int32.toInt zS ≤ 80) → (0 ≤ Int32.toInt aAz ∧ Int32.toInt aAz ≤ 80) → (0 ≤ Int32.toInt aAm ∧ Int32.toInt aAm ≤ 80) → (-1 ≤ Int32.toInt zH ∧ Int32.toInt zH ≤ 80) → (0 ≤ Int32.toInt aAM ∧ Int32.toInt aAM ≤ 0) → (0 ≤ Int32.toInt zP ∧ Int32.toInt zP ≤ 15) → (0 ≤ Int32.toInt yO ∧ Int32.toInt yO ≤ 7) → (0 ≤ Int32.toInt zZ ∧ Int32.toInt zZ ≤ 1) → (0 ≤ Int32.toInt zO ∧ Int32.toInt zO ≤ 63) → (0 ≤ Int32.toInt aAS ∧ Int32.toInt aAS ≤ 65535) → (∀ k : Nat, 0 ≤ Int32.toInt (aA5 k) ∧ Int32.toInt (aA5 k) ≤ 65535) → post r xM xG aAP zS aAz aAm zH aAM zP yO zZ zO aAS aBX aA5 aGb) (hK46 : ∀ (x1 : Int32) (x2 : Int32) (bL : Int32) (bY : Int32) (jD : Nat) (m_length : Int32) (oF : Int32) (rP : Int32) (dQ : Int32) (bZ : Int32) (aR : Int32) (aE : Int32) (bI : Int32) (aW : Int32) (dO : Int32) (sW : Nat → Int32) (sH : Nat → Int32) (vK : Nat → Int32), (0 ≤ Int32.toInt x1 ∧ Int32.toInt x1 ≤ 255) → (0 ≤ Int32.toInt x2 ∧ Int32.toInt x2 ≤ 16) → (0 ≤ Int32.toInt bL ∧ Int32.toInt bL ≤ 16) → (0 ≤ Int32.toInt bY ∧ Int32.toInt bY ≤ 0) → (jD = 0 ∨ jD = 1 ∨ jD = 2) → (0 ≤ Int32.toInt m_length ∧ Int32.toInt m_length ≤ 80) → (0 ≤ Int32.toInt oF ∧ Int32.toInt oF ≤ 80) → (0 ≤ Int32.toInt rP ∧ Int32.toInt rP ≤ 80) → (-1 ≤ Int32.toInt dQ ∧ Int32.toInt dQ ≤ 80) → (0 ≤ Int32.toInt bZ ∧ Int32.toInt bZ ≤ 0) → (0 ≤ Int32.toInt aR ∧ Int32.toInt aR ≤ 15) → (0 ≤ Int32.toInt aE ∧ Int32.toInt aE ≤ 7) → (0 ≤ Int32.toInt bI ∧ Int32.toInt bI ≤ 1) → (0 ≤ Int32.toInt aW ∧ Int32.toInt aW ≤ 63) → (0 ≤ Int32.toInt dO ∧ Int32.toInt dO ≤ 65535) → (∀ k : Nat, 0 ≤ Int32.toInt (sH k) ∧ Int32.toInt (sH k) ≤ 65535) → (16 - Int32.toInt x2 < n46) → K46 x1 x2 bL bY jD m_length oF rP dQ bZ aR aE bI aW dO sW sH vK) : ∀ (n : Nat) (x1 x2 x3 bL bY : Int32) (jD : Nat) (m_length oF rP dQ bZ aR aE bI aW dO : Int32) (sW sH vK : Nat → Int32), (0 ≤ Int32.toInt x1 ∧ Int32.toInt x1 ≤ 255) → (0 ≤ Int32.toInt x2 ∧ Int32.toInt x2 ≤ 15) → (0 ≤ Int32.toInt x3 ∧ Int32.toInt x3 ≤ 8) → (0 ≤ Int32.toInt bL ∧ Int32.toInt bL ≤ 16) → (0 ≤ Int32.toInt bY ∧ Int32.toInt bY ≤ 0) → (jD = 0 ∨ jD = 1 ∨ jD = 2) → (0 ≤ Int32.toInt m_length ∧ Int32.toInt m_length ≤ 80) → (0 ≤ Int32.toInt oF ∧ Int32.toInt oF ≤ 80) → (0 ≤ Int32.toInt rP ∧ Int32.toInt rP ≤ 80) → (-1 ≤ Int32.toInt dQ ∧ Int32.toInt dQ ≤ 80) → (0 ≤ Int32.toInt bZ ∧ Int32.toInt bZ ≤ 0) → (0 ≤ Int32.toInt aR ∧ Int32.toInt aR ≤ 15) → (0 ≤ Int32.toInt aE ∧ Int32.toInt aE ≤ 7) → (0 ≤ Int32.toInt bI ∧ Int32.toInt bI ≤ 1) → (0 ≤ Int32.toInt aW ∧ Int32.toInt aW ≤ 63) → (0 ≤ Int32.toInt dO ∧ Int32.toInt dO ≤ 65535) → (∀ k : Nat, 0 ≤ Int32.toInt (sH k) ∧ Int32.toInt (sH k) ≤ 65535) → (16 - Int32.toInt x2 ≤ n46) → (8 - Int32.toInt x3 < (n : Int)) → wb_X10_share_70 post K46 bT aG bW qG m_x gR pW qR nG oO pJ qO qQ n x1 x2 x3 bL bY jD m_length oF rP dQ bZ aR aE bI aW dO sW sH vK := by
  intro n
  induction n with
  | zero =>
    intro x1 x2 x3 bL bY jD m_length oF rP dQ bZ aR aE bI aW dO sW sH vK aBK aBN aCH yJ yG yM zE aAR aA1 aAA zT yL xQ yY yK aAH zY hn46 hm
    exfalso; omega
  | succ n ih =>
    intro x1 x2 x3 bL bY jD m_length oF rP dQ bZ aR aE bI aW dO sW sH vK aBK aBN aCH yJ yG yM zE aAR aA1 aAA zT yL xQ yY yK aAH zY hn46 hm
    exact ts_X10_share_70 bT aG bW qG m_x gR pW qR nG oO pJ qO qQ xJ vZ zQ xU xV aAW xK yR zM xT yF yD xZ zG zI hc0 hc1 hpost hK46 ih x1 x2 x3 bL bY jD m_length oF rP dQ bZ aR aE bI aW dO sW sH vK aBK aBN aCH yJ yG yM zE aAR aA1 aAA zT yL xQ yY yK aAH zY hn46 (by omega)
set_option maxHeartbeats 8000000 in
set_option maxRecDepth 200000 in
theorem ts_X10_share_46 {post : Int32 → Int32 → Int32 → Nat → Int32 → Int32 → Int32 → Int32 → Int32 → Int32 → Int32 → Int32 → Int32 → Int32 → (Nat → Int32) → (Nat → Int32) → (Nat → Int32) → Prop} {SB : Int} {next : Int32 → Int32 → Int32 → Int32 → Nat → Int32 → Int32 → Int32 → Int32 → Int32 → Int32 → Int32 → Int32 → Int32 → Int32 → (Nat → Int32) → (Nat → Int32) → (Nat → Int32) → Prop} {n46 : Int} (bT aG bW : Int32) (qG m_x gR pW qR nG oO pJ qO qQ : Nat → Int32) (xJ : 0 ≤ Int32.toInt bT ∧ Int32.toInt bT ≤ 16) (vZ : 0 ≤ Int32.toInt aG ∧ Int32.toInt aG ≤ 8) (zQ : 0 ≤ Int32.toInt bW ∧ Int32.toInt bW ≤ 40) (xU : ∀ k : Nat, k = 17 → -1 ≤ Int32.toInt (qG k) ∧ Int32.toInt (qG k) ≤ SB) (xV : ∀ k : Nat, k = 19 → 0 ≤ Int32.toInt (qG k) ∧ Int32.toInt (qG k) ≤ 9) (aAW : ∀ k : Nat, 0 ≤ Int32.toInt (m_x k) ∧ Int32.toInt (m_x k) ≤ 99) (xK : ∀ k : Nat, 0 ≤ Int32.toInt (gR k) ∧ Int32.toInt (gR k) ≤ 99) (yR : ∀ k : Nat, 0 ≤ Int32.toInt (pW k) ∧ Int32.toInt (pW k) ≤ 9) (zM : ∀ k : Nat, 0 ≤ Int32.toInt (qR k) ∧ Int32.toInt (qR k) ≤ 9) (xT : ∀ k : Nat, 0 ≤ Int32.toInt (nG k) ∧ Int32.toInt (nG k) ≤ 99) (yF : ∀ k : Nat, 0 ≤ Int32.toInt (oO k) ∧ Int32.toInt (oO k) ≤ 99) (yD : ∀ k : Nat, k = 4 → 1 ≤ Int32.toInt (pJ k) ∧ Int32.toInt (pJ k) ≤ 30) (xZ : ∀ k : Nat, k = 3 → 0 ≤ Int32.toInt (pJ k) ∧ Int32.toInt (pJ k) ≤ 9) (zG : ∀ k : Nat, -128 ≤ Int32.toInt (qO k) ∧ Int32.toInt (qO k) ≤ 127) (zI : ∀ k : Nat, -128 ≤ Int32.toInt (qQ k) ∧ Int32.toInt (qQ k) ≤ 127) (hc0 : -1 ≤ SB ∧ SB ≤ 7) (hc1 : (Int32.toInt aG ≤ 0 ∧ SB = 0) ∨ (1 ≤ Int32.toInt aG ∧ SB = Int32.toInt aG - 1)) (hpost : ∀ (r : Int32) (xM : Int32) (xG : Int32) (aAP : Nat) (zS : Int32) (aAz : Int32) (aAm : Int32) (zH : Int32) (aAM : Int32) (zP : Int32) (yO : Int32) (zZ : Int32) (zO : Int32) (aAS : Int32) (aBX : Nat → Int32) (aA5 : Nat → Int32) (aGb : Nat → Int32), (-2147483648 ≤ Int32.toInt r ∧ Int32.toInt r ≤ 1000000) → (0 ≤ Int32.toInt xM ∧ Int32.toInt xM ≤ 16) → (0 ≤ Int32.toInt xG ∧ Int32.toInt xG ≤ 0) → (aAP = 0 ∨ aAP = 1 ∨ aAP = 2) → (0 ≤ Int32.toInt zS ∧ Int32.toInt zS ≤ 80) → (0 ≤ Int32.toInt aAz ∧ Int32.toInt aAz ≤ 80) → (0 ≤ Int32.toInt aAm ∧ Int32.toInt aAm ≤ 80) → (-1 ≤ Int32.toInt zH ∧ Int32.toInt zH ≤ 80) → (0 ≤ Int32.toInt aAM ∧ Int32.toInt aAM ≤ 0) → (0 ≤ Int32.toInt zP ∧ Int32.toInt zP ≤ 15) → (0 ≤ Int32.toInt yO ∧ Int32.toInt yO ≤ 7) → (0 ≤ Int32.toInt zZ ∧ Int32.toInt zZ ≤ 1) → (0 ≤ Int32.toInt zO ∧ Int32.toInt zO ≤ 63) → (0 ≤ Int32.toInt aAS ∧ Int32.toInt aAS ≤ 65535) → (∀ k : Nat, 0 ≤ Int32.toInt (aA5 k) ∧ Int32.toInt (aA5 k) ≤ 65535) → post r xM xG aAP zS aAz aAm zH aAM zP yO zZ zO aAS aBX aA5 aGb) (hKn : ∀ (x1 : Int32) (x2 : Int32) (bL : Int32) (bY : Int32) (jD : Nat) (m_length : Int32) (oF : Int32) (rP : Int32) (dQ : Int32) (bZ : Int32) (aR : Int32) (aE : Int32) (bI : Int32) (aW : Int32) (dO : Int32) (sW : Nat → Int32) (sH : Nat → Int32) (vK : Nat → Int32), (0 ≤ Int32.toInt x1 ∧ Int32.toInt x1 ≤ 255) → (0 ≤ Int32.toInt x2 ∧ Int32.toInt x2 ≤ 16) → (0 ≤ Int32.toInt bL ∧ Int32.toInt bL ≤ 16) → (0 ≤ Int32.toInt bY ∧ Int32.toInt bY ≤ 0) → (jD = 0 ∨ jD = 1 ∨ jD = 2) → (0 ≤ Int32.toInt m_length ∧ Int32.toInt m_length ≤ 80) → (0 ≤ Int32.toInt oF ∧ Int32.toInt oF ≤ 80) → (0 ≤ Int32.toInt rP ∧ Int32.toInt rP ≤ 80) → (-1 ≤ Int32.toInt dQ ∧ Int32.toInt dQ ≤ 80) → (0 ≤ Int32.toInt bZ ∧ Int32.toInt bZ ≤ 0) → (0 ≤ Int32.toInt aR ∧ Int32.toInt aR ≤ 15) → (0 ≤ Int32.toInt aE ∧ Int32.toInt aE ≤ 7) → (0 ≤ Int32.toInt bI ∧ Int32.toInt bI ≤ 1) → (0 ≤ Int32.toInt aW ∧ Int32.toInt aW ≤ 63) → (0 ≤ Int32.toInt dO ∧ Int32.toInt dO ≤ 65535) → (∀ k : Nat, 0 ≤ Int32.toInt (sH k) ∧ Int32.toInt (sH k) ≤ 65535) → (16 - Int32.toInt x2 < n46) → next x1 x2 bL bY jD m_length oF rP dQ bZ aR aE bI aW dO sW sH vK) (x1 x2 bL bY : Int32) (jD : Nat) (m_length oF rP dQ bZ aR aE bI aW dO : Int32) (sW sH vK : Nat → Int32) (aBK : 0 ≤ Int32.toInt x1 ∧ Int32.toInt x1 ≤ 255) (aBN : 0 ≤ Int32.toInt x2 ∧ Int32.toInt x2 ≤ 16) (yJ : 0 ≤ Int32.toInt bL ∧ Int32.toInt bL ≤ 16) (yG : 0 ≤ Int32.toInt bY ∧ Int32.toInt bY ≤ 0) (yM : jD = 0 ∨ jD = 1 ∨ jD = 2) (zE : 0 ≤ Int32.toInt m_length ∧ Int32.toInt m_length ≤ 80) (aAR : 0 ≤ Int32.toInt oF ∧ Int32.toInt oF ≤ 80) (aA1 : 0 ≤ Int32.toInt rP ∧ Int32.toInt rP ≤ 80) (aAA : -1 ≤ Int32.toInt dQ ∧ Int32.toInt dQ ≤ 80) (zT : 0 ≤ Int32.toInt bZ ∧ Int32.toInt bZ ≤ 0) (yL : 0 ≤ Int32.toInt aR ∧ Int32.toInt aR ≤ 15) (xQ : 0 ≤ Int32.toInt aE ∧ Int32.toInt aE ≤ 7) (yY : 0 ≤ Int32.toInt bI ∧ Int32.toInt bI ≤ 1) (yK : 0 ≤ Int32.toInt aW ∧ Int32.toInt aW ≤ 63) (aAH : 0 ≤ Int32.toInt dO ∧ Int32.toInt dO ≤ 65535) (zY : ∀ k : Nat, 0 ≤ Int32.toInt (sH k) ∧ Int32.toInt (sH k) ≤ 65535) (hn46 : 16 - Int32.toInt x2 ≤ n46) : ws_X10_share_46 post next bT aG bW qG m_x gR pW qR nG oO pJ qO qQ x1 x2 bL bY jD m_length oF rP dQ bZ aR aE bI aW dO sW sH vK := by
  have l0 := aE0
  have l1 := aEc
  have l2 := li_1000000
  refine And.intro (fun c67 => ?_) (fun c67 => ?_)
  · skip
    have c67 := (aAO _ _).mp c67
    exact ⟨258, tb_X10_share_148 bT aG bW qG m_x gR pW qR nG oO pJ qO qQ xJ vZ zQ xU xV aAW xK yR zM xT yF yD xZ zG zI hc0 hc1 hpost _ x1 0 1000000 0 0 bL bY jD m_length oF rP dQ bZ aR aE bI aW dO sW sH vK aBK ⟨by omega, by omega⟩ ⟨by omega, by omega⟩ ⟨by omega, by omega⟩ yJ yG yM zE aAR aA1 aAA zT yL xQ yY yK aAH zY (by omega)⟩
  · skip
    have c67 := mt (aAO _ _).mpr c67
    intro v68 ev68
    have f69 := aRJ dO x2 (by omega)
    have hv68 := congrArg Int32.toInt ev68
    intro v70 ev70
    have f71 := aAQ v68 1 (by omega)
    have f72 := aBx v68 1 (by omega)
    have hv70 := congrArg Int32.toInt ev70
    refine And.intro (fun c73 => ?_) (fun c73 => ?_)
    · skip
      have c73 := mt (zJ _ _).mpr c73
      refine And.intro (fun h9 => absurd h9 (by decide)) (fun _ => ?_)
      exact ts_X10_share_130 bT aG bW qG m_x gR pW qR nG oO pJ qO qQ xJ vZ zQ xU xV aAW xK yR zM xT yF yD xZ zG zI hc0 hc1 hpost hKn x1 x2 bL bY jD m_length oF rP dQ bZ aR aE bI aW dO sW sH vK aBK ⟨by omega, by omega⟩ yJ yG yM zE aAR aA1 aAA zT yL xQ yY yK aAH zY hn46
    · skip
      have c73 := (zJ _ _).mp c73
      refine And.intro (fun _ => ?_) (fun h9 => absurd h9 (by decide))
      exact ⟨10, tb_X10_share_70 bT aG bW qG m_x gR pW qR nG oO pJ qO qQ xJ vZ zQ xU xV aAW xK yR zM xT yF yD xZ zG zI hc0 hc1 hpost hKn _ x1 x2 0 bL bY jD m_length oF rP dQ bZ aR aE bI aW dO sW sH vK aBK ⟨by omega, by omega⟩ ⟨by omega, by omega⟩ yJ yG yM zE aAR aA1 aAA zT yL xQ yY yK aAH zY hn46 (by omega)⟩
set_option maxHeartbeats 8000000 in
set_option maxRecDepth 200000 in
theorem tb_X10_share_46 {post : Int32 → Int32 → Int32 → Nat → Int32 → Int32 → Int32 → Int32 → Int32 → Int32 → Int32 → Int32 → Int32 → Int32 → (Nat → Int32) → (Nat → Int32) → (Nat → Int32) → Prop} {SB : Int} (bT aG bW : Int32) (qG m_x gR pW qR nG oO pJ qO qQ : Nat → Int32) (xJ : 0 ≤ Int32.toInt bT ∧ Int32.toInt bT ≤ 16) (vZ : 0 ≤ Int32.toInt aG ∧ Int32.toInt aG ≤ 8) (zQ : 0 ≤ Int32.toInt bW ∧ Int32.toInt bW ≤ 40) (xU : ∀ k : Nat, k = 17 → -1 ≤ Int32.toInt (qG k) ∧ Int32.toInt (qG k) ≤ SB) (xV : ∀ k : Nat, k = 19 → 0 ≤ Int32.toInt (qG k) ∧ Int32.toInt (qG k) ≤ 9) (aAW : ∀ k : Nat, 0 ≤ Int32.toInt (m_x k) ∧ Int32.toInt (m_x k) ≤ 99) (xK : ∀ k : Nat, 0 ≤ Int32.toInt (gR k) ∧ Int32.toInt (gR k) ≤ 99) (yR : ∀ k : Nat, 0 ≤ Int32.toInt (pW k) ∧ Int32.toInt (pW k) ≤ 9) (zM : ∀ k : Nat, 0 ≤ Int32.toInt (qR k) ∧ Int32.toInt (qR k) ≤ 9) (xT : ∀ k : Nat, 0 ≤ Int32.toInt (nG k) ∧ Int32.toInt (nG k) ≤ 99) (yF : ∀ k : Nat, 0 ≤ Int32.toInt (oO k) ∧ Int32.toInt (oO k) ≤ 99) (yD : ∀ k : Nat, k = 4 → 1 ≤ Int32.toInt (pJ k) ∧ Int32.toInt (pJ k) ≤ 30) (xZ : ∀ k : Nat, k = 3 → 0 ≤ Int32.toInt (pJ k) ∧ Int32.toInt (pJ k) ≤ 9) (zG : ∀ k : Nat, -128 ≤ Int32.toInt (qO k) ∧ Int32.toInt (qO k) ≤ 127) (zI : ∀ k : Nat, -128 ≤ Int32.toInt (qQ k) ∧ Int32.toInt (qQ k) ≤ 127) (hc0 : -1 ≤ SB ∧ SB ≤ 7) (hc1 : (Int32.toInt aG ≤ 0 ∧ SB = 0) ∨ (1 ≤ Int32.toInt aG ∧ SB = Int32.toInt aG - 1)) (hpost : ∀ (r : Int32) (xM : Int32) (xG : Int32) (aAP : Nat) (zS : Int32) (aAz : Int32) (aAm : Int32) (zH : Int32) (aAM : Int32) (zP : Int32) (yO : Int32) (zZ : Int32) (zO : Int32) (aAS : Int32) (aBX : Nat → Int32) (aA5 : Nat → Int32) (aGb : Nat → Int32), (-2147483648 ≤ Int32.toInt r ∧ Int32.toInt r ≤ 1000000) → (0 ≤ Int32.toInt xM ∧ Int32.toInt xM ≤ 16) → (0 ≤ Int32.toInt xG ∧ Int32.toInt xG ≤ 0) → (aAP = 0 ∨ aAP = 1 ∨ aAP = 2) → (0 ≤ Int32.toInt zS ∧ Int32.toInt zS ≤ 80) → (0 ≤ Int32.toInt aAz ∧ Int32.toInt aAz ≤ 80) → (0 ≤ Int32.toInt aAm ∧ Int32.toInt aAm ≤ 80) → (-1 ≤ Int32.toInt zH ∧ Int32.toInt zH ≤ 80) → (0 ≤ Int32.toInt aAM ∧ Int32.toInt aAM ≤ 0) → (0 ≤ Int32.toInt zP ∧ Int32.toInt zP ≤ 15) → (0 ≤ Int32.toInt yO ∧ Int32.toInt yO ≤ 7) → (0 ≤ Int32.toInt zZ ∧ Int32.toInt zZ ≤ 1) → (0 ≤ Int32.toInt zO ∧ Int32.toInt zO ≤ 63) → (0 ≤ Int32.toInt aAS ∧ Int32.toInt aAS ≤ 65535) → (∀ k : Nat, 0 ≤ Int32.toInt (aA5 k) ∧ Int32.toInt (aA5 k) ≤ 65535) → post r xM xG aAP zS aAz aAm zH aAM zP yO zZ zO aAS aBX aA5 aGb) : ∀ (n : Nat) (x1 x2 bL bY : Int32) (jD : Nat) (m_length oF rP dQ bZ aR aE bI aW dO : Int32) (sW sH vK : Nat → Int32), (0 ≤ Int32.toInt x1 ∧ Int32.toInt x1 ≤ 255) → (0 ≤ Int32.toInt x2 ∧ Int32.toInt x2 ≤ 16) → (0 ≤ Int32.toInt bL ∧ Int32.toInt bL ≤ 16) → (0 ≤ Int32.toInt bY ∧ Int32.toInt bY ≤ 0) → (jD = 0 ∨ jD = 1 ∨ jD = 2) → (0 ≤ Int32.toInt m_length ∧ Int32.toInt m_length ≤ 80) → (0 ≤ Int32.toInt oF ∧ Int32.toInt oF ≤ 80) → (0 ≤ Int32.toInt rP ∧ Int32.toInt rP ≤ 80) → (-1 ≤ Int32.toInt dQ ∧ Int32.toInt dQ ≤ 80) → (0 ≤ Int32.toInt bZ ∧ Int32.toInt bZ ≤ 0) → (0 ≤ Int32.toInt aR ∧ Int32.toInt aR ≤ 15) → (0 ≤ Int32.toInt aE ∧ Int32.toInt aE ≤ 7) → (0 ≤ Int32.toInt bI ∧ Int32.toInt bI ≤ 1) → (0 ≤ Int32.toInt aW ∧ Int32.toInt aW ≤ 63) → (0 ≤ Int32.toInt dO ∧ Int32.toInt dO ≤ 65535) → (∀ k : Nat, 0 ≤ Int32.toInt (sH k) ∧ Int32.toInt (sH k) ≤ 65535) → (16 - Int32.toInt x2 < (n : Int)) → wb_X10_share_46 post bT aG bW qG m_x gR pW qR nG oO pJ qO qQ n x1 x2 bL bY jD m_length oF rP dQ bZ aR aE bI aW dO sW sH vK := by
  intro n
  induction n with
  | zero =>
    intro x1 x2 bL bY jD m_length oF rP dQ bZ aR aE bI aW dO sW sH vK aBK aBN yJ yG yM zE aAR aA1 aAA zT yL xQ yY yK aAH zY hm
    exfalso; omega
  | succ n ih =>
    intro x1 x2 bL bY jD m_length oF rP dQ bZ aR aE bI aW dO sW sH vK aBK aBN yJ yG yM zE aAR aA1 aAA zT yL xQ yY yK aAH zY hm
    exact ts_X10_share_46 bT aG bW qG m_x gR pW qR nG oO pJ qO qQ xJ vZ zQ xU xV aAW xK yR zM xT yF yD xZ zG zI hc0 hc1 hpost ih x1 x2 bL bY jD m_length oF rP dQ bZ aR aE bI aW dO sW sH vK aBK aBN yJ yG yM zE aAR aA1 aAA zT yL xQ yY yK aAH zY (by omega)
set_option maxHeartbeats 8000000 in
set_option maxRecDepth 200000 in
theorem ts_X10_share_25 {post : Int32 → Int32 → Int32 → Nat → Int32 → Int32 → Int32 → Int32 → Int32 → Int32 → Int32 → Int32 → Int32 → Int32 → (Nat → Int32) → (Nat → Int32) → (Nat → Int32) → Prop} {SB : Int} {next : Int32 → Int32 → Int32 → Int32 → Nat → Int32 → Int32 → Int32 → Int32 → Int32 → Int32 → Int32 → Int32 → Int32 → Int32 → (Nat → Int32) → (Nat → Int32) → (Nat → Int32) → Prop} {n25 : Int} (bT aG bW : Int32) (qG m_x gR pW qR nG oO pJ qO qQ : Nat → Int32) (xJ : 0 ≤ Int32.toInt bT ∧ Int32.toInt bT ≤ 16) (vZ : 0 ≤ Int32.toInt aG ∧ Int32.toInt aG ≤ 8) (zQ : 0 ≤ Int32.toInt bW ∧ Int32.toInt bW ≤ 40) (xU : ∀ k : Nat, k = 17 → -1 ≤ Int32.toInt (qG k) ∧ Int32.toInt (qG k) ≤ SB) (xV : ∀ k : Nat, k = 19 → 0 ≤ Int32.toInt (qG k) ∧ Int32.toInt (qG k) ≤ 9) (aAW : ∀ k : Nat, 0 ≤ Int32.toInt (m_x k) ∧ Int32.toInt (m_x k) ≤ 99) (xK : ∀ k : Nat, 0 ≤ Int32.toInt (gR k) ∧ Int32.toInt (gR k) ≤ 99) (yR : ∀ k : Nat, 0 ≤ Int32.toInt (pW k) ∧ Int32.toInt (pW k) ≤ 9) (zM : ∀ k : Nat, 0 ≤ Int32.toInt (qR k) ∧ Int32.toInt (qR k) ≤ 9) (xT : ∀ k : Nat, 0 ≤ Int32.toInt (nG k) ∧ Int32.toInt (nG k) ≤ 99) (yF : ∀ k : Nat, 0 ≤ Int32.toInt (oO k) ∧ Int32.toInt (oO k) ≤ 99) (yD : ∀ k : Nat, k = 4 → 1 ≤ Int32.toInt (pJ k) ∧ Int32.toInt (pJ k) ≤ 30) (xZ : ∀ k : Nat, k = 3 → 0 ≤ Int32.toInt (pJ k) ∧ Int32.toInt (pJ k) ≤ 9) (zG : ∀ k : Nat, -128 ≤ Int32.toInt (qO k) ∧ Int32.toInt (qO k) ≤ 127) (zI : ∀ k : Nat, -128 ≤ Int32.toInt (qQ k) ∧ Int32.toInt (qQ k) ≤ 127) (hc0 : -1 ≤ SB ∧ SB ≤ 7) (hc1 : (Int32.toInt aG ≤ 0 ∧ SB = 0) ∨ (1 ≤ Int32.toInt aG ∧ SB = Int32.toInt aG - 1)) (hpost : ∀ (r : Int32) (xM : Int32) (xG : Int32) (aAP : Nat) (zS : Int32) (aAz : Int32) (aAm : Int32) (zH : Int32) (aAM : Int32) (zP : Int32) (yO : Int32) (zZ : Int32) (zO : Int32) (aAS : Int32) (aBX : Nat → Int32) (aA5 : Nat → Int32) (aGb : Nat → Int32), (-2147483648 ≤ Int32.toInt r ∧ Int32.toInt r ≤ 1000000) → (0 ≤ Int32.toInt xM ∧ Int32.toInt xM ≤ 16) → (0 ≤ Int32.toInt xG ∧ Int32.toInt xG ≤ 0) → (aAP = 0 ∨ aAP = 1 ∨ aAP = 2) → (0 ≤ Int32.toInt zS ∧ Int32.toInt zS ≤ 80) → (0 ≤ Int32.toInt aAz ∧ Int32.toInt aAz ≤ 80) → (0 ≤ Int32.toInt aAm ∧ Int32.toInt aAm ≤ 80) → (-1 ≤ Int32.toInt zH ∧ Int32.toInt zH ≤ 80) → (0 ≤ Int32.toInt aAM ∧ Int32.toInt aAM ≤ 0) → (0 ≤ Int32.toInt zP ∧ Int32.toInt zP ≤ 15) → (0 ≤ Int32.toInt yO ∧ Int32.toInt yO ≤ 7) → (0 ≤ Int32.toInt zZ ∧ Int32.toInt zZ ≤ 1) → (0 ≤ Int32.toInt zO ∧ Int32.toInt zO ≤ 63) → (0 ≤ Int32.toInt aAS ∧ Int32.toInt aAS ≤ 65535) → (∀ k : Nat, 0 ≤ Int32.toInt (aA5 k) ∧ Int32.toInt (aA5 k) ≤ 65535) → post r xM xG aAP zS aAz aAm zH aAM zP yO zZ zO aAS aBX aA5 aGb) (hKn : ∀ (x1 : Int32) (x2 : Int32) (bL : Int32) (bY : Int32) (jD : Nat) (m_length : Int32) (oF : Int32) (rP : Int32) (dQ : Int32) (bZ : Int32) (aR : Int32) (aE : Int32) (bI : Int32) (aW : Int32) (dO : Int32) (sW : Nat → Int32) (sH : Nat → Int32) (vK : Nat → Int32), (0 ≤ Int32.toInt x1 ∧ Int32.toInt x1 ≤ 255) → (0 ≤ Int32.toInt x2 ∧ Int32.toInt x2 ≤ 8) → (0 ≤ Int32.toInt bL ∧ Int32.toInt bL ≤ 16) → (0 ≤ Int32.toInt bY ∧ Int32.toInt bY ≤ 0) → (jD = 0 ∨ jD = 1 ∨ jD = 2) → (0 ≤ Int32.toInt m_length ∧ Int32.toInt m_length ≤ 80) → (0 ≤ Int32.toInt oF ∧ Int32.toInt oF ≤ 80) → (0 ≤ Int32.toInt rP ∧ Int32.toInt rP ≤ 80) → (-1 ≤ Int32.toInt dQ ∧ Int32.toInt dQ ≤ 80) → (0 ≤ Int32.toInt bZ ∧ Int32.toInt bZ ≤ 0) → (0 ≤ Int32.toInt aR ∧ Int32.toInt aR ≤ 15) → (0 ≤ Int32.toInt aE ∧ Int32.toInt aE ≤ 7) → (0 ≤ Int32.toInt bI ∧ Int32.toInt bI ≤ 1) → (0 ≤ Int32.toInt aW ∧ Int32.toInt aW ≤ 63) → (0 ≤ Int32.toInt dO ∧ Int32.toInt dO ≤ 65535) → (∀ k : Nat, 0 ≤ Int32.toInt (sH k) ∧ Int32.toInt (sH k) ≤ 65535) → (8 - Int32.toInt x2 < n25) → next x1 x2 bL bY jD m_length oF rP dQ bZ aR aE bI aW dO sW sH vK) (x1 x2 bL bY : Int32) (jD : Nat) (m_length oF rP dQ bZ aR aE bI aW dO : Int32) (sW sH vK : Nat → Int32) (aBK : 0 ≤ Int32.toInt x1 ∧ Int32.toInt x1 ≤ 255) (aBN : 0 ≤ Int32.toInt x2 ∧ Int32.toInt x2 ≤ 8) (yJ : 0 ≤ Int32.toInt bL ∧ Int32.toInt bL ≤ 16) (yG : 0 ≤ Int32.toInt bY ∧ Int32.toInt bY ≤ 0) (yM : jD = 0 ∨ jD = 1 ∨ jD = 2) (zE : 0 ≤ Int32.toInt m_length ∧ Int32.toInt m_length ≤ 80) (aAR : 0 ≤ Int32.toInt oF ∧ Int32.toInt oF ≤ 80) (aA1 : 0 ≤ Int32.toInt rP ∧ Int32.toInt rP ≤ 80) (aAA : -1 ≤ Int32.toInt dQ ∧ Int32.toInt dQ ≤ 80) (zT : 0 ≤ Int32.toInt bZ ∧ Int32.toInt bZ ≤ 0) (yL : 0 ≤ Int32.toInt aR ∧ Int32.toInt aR ≤ 15) (xQ : 0 ≤ Int32.toInt aE ∧ Int32.toInt aE ≤ 7) (yY : 0 ≤ Int32.toInt bI ∧ Int32.toInt bI ≤ 1) (yK : 0 ≤ Int32.toInt aW ∧ Int32.toInt aW ≤ 63) (aAH : 0 ≤ Int32.toInt dO ∧ Int32.toInt dO ≤ 65535) (zY : ∀ k : Nat, 0 ≤ Int32.toInt (sH k) ∧ Int32.toInt (sH k) ≤ 65535) (hn25 : 8 - Int32.toInt x2 ≤ n25) : ws_X10_share_25 post next bT aG bW qG m_x gR pW qR nG oO pJ qO qQ x1 x2 bL bY jD m_length oF rP dQ bZ aR aE bI aW dO sW sH vK := by
  have l0 := aE0
  have l1 := aEc
  have l2 := li_8
  refine And.intro (fun c74 => ?_) (fun c74 => ?_)
  · skip
    have c74 := (aAO _ _).mp c74
    exact ⟨18, tb_X10_share_46 bT aG bW qG m_x gR pW qR nG oO pJ qO qQ xJ vZ zQ xU xV aAW xK yR zM xT yF yD xZ zG zI hc0 hc1 hpost _ x1 0 bL bY jD m_length oF rP dQ bZ aR aE bI aW dO sW sH vK aBK ⟨by omega, by omega⟩ yJ yG yM zE aAR aA1 aAA zT yL xQ yY yK aAH zY (by omega)⟩
  · skip
    have c74 := mt (aAO _ _).mpr c74
    refine And.intro (aBZ ⟨by omega, by omega⟩) ?_
    intro v75 ev75
    have f76 : Int32.toInt (x2 + 1) = Int32.toInt x2 + Int32.toInt (1 : Int32) := aAD _ _ ⟨by omega, by omega⟩
    rw [← ev75] at f76
    exact hKn x1 v75 bL bY jD m_length oF rP dQ bZ aR aE bI aW dO sW sH (upd vK x2.toNatClampNeg 0) aBK ⟨by omega, by omega⟩ yJ yG yM zE aAR aA1 aAA zT yL xQ yY yK aAH zY (by omega)
set_option maxHeartbeats 8000000 in
set_option maxRecDepth 200000 in
theorem tb_X10_share_25 {post : Int32 → Int32 → Int32 → Nat → Int32 → Int32 → Int32 → Int32 → Int32 → Int32 → Int32 → Int32 → Int32 → Int32 → (Nat → Int32) → (Nat → Int32) → (Nat → Int32) → Prop} {SB : Int} (bT aG bW : Int32) (qG m_x gR pW qR nG oO pJ qO qQ : Nat → Int32) (xJ : 0 ≤ Int32.toInt bT ∧ Int32.toInt bT ≤ 16) (vZ : 0 ≤ Int32.toInt aG ∧ Int32.toInt aG ≤ 8) (zQ : 0 ≤ Int32.toInt bW ∧ Int32.toInt bW ≤ 40) (xU : ∀ k : Nat, k = 17 → -1 ≤ Int32.toInt (qG k) ∧ Int32.toInt (qG k) ≤ SB) (xV : ∀ k : Nat, k = 19 → 0 ≤ Int32.toInt (qG k) ∧ Int32.toInt (qG k) ≤ 9) (aAW : ∀ k : Nat, 0 ≤ Int32.toInt (m_x k) ∧ Int32.toInt (m_x k) ≤ 99) (xK : ∀ k : Nat, 0 ≤ Int32.toInt (gR k) ∧ Int32.toInt (gR k) ≤ 99) (yR : ∀ k : Nat, 0 ≤ Int32.toInt (pW k) ∧ Int32.toInt (pW k) ≤ 9) (zM : ∀ k : Nat, 0 ≤ Int32.toInt (qR k) ∧ Int32.toInt (qR k) ≤ 9) (xT : ∀ k : Nat, 0 ≤ Int32.toInt (nG k) ∧ Int32.toInt (nG k) ≤ 99) (yF : ∀ k : Nat, 0 ≤ Int32.toInt (oO k) ∧ Int32.toInt (oO k) ≤ 99) (yD : ∀ k : Nat, k = 4 → 1 ≤ Int32.toInt (pJ k) ∧ Int32.toInt (pJ k) ≤ 30) (xZ : ∀ k : Nat, k = 3 → 0 ≤ Int32.toInt (pJ k) ∧ Int32.toInt (pJ k) ≤ 9) (zG : ∀ k : Nat, -128 ≤ Int32.toInt (qO k) ∧ Int32.toInt (qO k) ≤ 127) (zI : ∀ k : Nat, -128 ≤ Int32.toInt (qQ k) ∧ Int32.toInt (qQ k) ≤ 127) (hc0 : -1 ≤ SB ∧ SB ≤ 7) (hc1 : (Int32.toInt aG ≤ 0 ∧ SB = 0) ∨ (1 ≤ Int32.toInt aG ∧ SB = Int32.toInt aG - 1)) (hpost : ∀ (r : Int32) (xM : Int32) (xG : Int32) (aAP : Nat) (zS : Int32) (aAz : Int32) (aAm : Int32) (zH : Int32) (aAM : Int32) (zP : Int32) (yO : Int32) (zZ : Int32) (zO : Int32) (aAS : Int32) (aBX : Nat → Int32) (aA5 : Nat → Int32) (aGb : Nat → Int32), (-2147483648 ≤ Int32.toInt r ∧ Int32.toInt r ≤ 1000000) → (0 ≤ Int32.toInt xM ∧ Int32.toInt xM ≤ 16) → (0 ≤ Int32.toInt xG ∧ Int32.toInt xG ≤ 0) → (aAP = 0 ∨ aAP = 1 ∨ aAP = 2) → (0 ≤ Int32.toInt zS ∧ Int32.toInt zS ≤ 80) → (0 ≤ Int32.toInt aAz ∧ Int32.toInt aAz ≤ 80) → (0 ≤ Int32.toInt aAm ∧ Int32.toInt aAm ≤ 80) → (-1 ≤ Int32.toInt zH ∧ Int32.toInt zH ≤ 80) → (0 ≤ Int32.toInt aAM ∧ Int32.toInt aAM ≤ 0) → (0 ≤ Int32.toInt zP ∧ Int32.toInt zP ≤ 15) → (0 ≤ Int32.toInt yO ∧ Int32.toInt yO ≤ 7) → (0 ≤ Int32.toInt zZ ∧ Int32.toInt zZ ≤ 1) → (0 ≤ Int32.toInt zO ∧ Int32.toInt zO ≤ 63) → (0 ≤ Int32.toInt aAS ∧ Int32.toInt aAS ≤ 65535) → (∀ k : Nat, 0 ≤ Int32.toInt (aA5 k) ∧ Int32.toInt (aA5 k) ≤ 65535) → post r xM xG aAP zS aAz aAm zH aAM zP yO zZ zO aAS aBX aA5 aGb) : ∀ (n : Nat) (x1 x2 bL bY : Int32) (jD : Nat) (m_length oF rP dQ bZ aR aE bI aW dO : Int32) (sW sH vK : Nat → Int32), (0 ≤ Int32.toInt x1 ∧ Int32.toInt x1 ≤ 255) → (0 ≤ Int32.toInt x2 ∧ Int32.toInt x2 ≤ 8) → (0 ≤ Int32.toInt bL ∧ Int32.toInt bL ≤ 16) → (0 ≤ Int32.toInt bY ∧ Int32.toInt bY ≤ 0) → (jD = 0 ∨ jD = 1 ∨ jD = 2) → (0 ≤ Int32.toInt m_length ∧ Int32.toInt m_length ≤ 80) → (0 ≤ Int32.toInt oF ∧ Int32.toInt oF ≤ 80) → (0 ≤ Int32.toInt rP ∧ Int32.toInt rP ≤ 80) → (-1 ≤ Int32.toInt dQ ∧ Int32.toInt dQ ≤ 80) → (0 ≤ Int32.toInt bZ ∧ Int32.toInt bZ ≤ 0) → (0 ≤ Int32.toInt aR ∧ Int32.toInt aR ≤ 15) → (0 ≤ Int32.toInt aE ∧ Int32.toInt aE ≤ 7) → (0 ≤ Int32.toInt bI ∧ Int32.toInt bI ≤ 1) → (0 ≤ Int32.toInt aW ∧ Int32.toInt aW ≤ 63) → (0 ≤ Int32.toInt dO ∧ Int32.toInt dO ≤ 65535) → (∀ k : Nat, 0 ≤ Int32.toInt (sH k) ∧ Int32.toInt (sH k) ≤ 65535) → (8 - Int32.toInt x2 < (n : Int)) → wb_X10_share_25 post bT aG bW qG m_x gR pW qR nG oO pJ qO qQ n x1 x2 bL bY jD m_length oF rP dQ bZ aR aE bI aW dO sW sH vK := by
  intro n
  induction n with
  | zero =>
    intro x1 x2 bL bY jD m_length oF rP dQ bZ aR aE bI aW dO sW sH vK aBK aBN yJ yG yM zE aAR aA1 aAA zT yL xQ yY yK aAH zY hm
    exfalso; omega
  | succ n ih =>
    intro x1 x2 bL bY jD m_length oF rP dQ bZ aR aE bI aW dO sW sH vK aBK aBN yJ yG yM zE aAR aA1 aAA zT yL xQ yY yK aAH zY hm
    exact ts_X10_share_25 bT aG bW qG m_x gR pW qR nG oO pJ qO qQ xJ vZ zQ xU xV aAW xK yR zM xT yF yD xZ zG zI hc0 hc1 hpost ih x1 x2 bL bY jD m_length oF rP dQ bZ aR aE bI aW dO sW sH vK aBK aBN yJ yG yM zE aAR aA1 aAA zT yL xQ yY yK aAH zY (by omega)
set_option maxHeartbeats 8000000 in
set_option maxRecDepth 200000 in
theorem t_X10_share {post : Int32 → Int32 → Int32 → Nat → Int32 → Int32 → Int32 → Int32 → Int32 → Int32 → Int32 → Int32 → Int32 → Int32 → (Nat → Int32) → (Nat → Int32) → (Nat → Int32) → Prop} {SB : Int} {p0 bT aG bL bY : Int32} {jD : Nat} {m_length oF rP dQ bW bZ aR aE bI aW dO : Int32} {qG m_x gR pW qR nG oO pJ qO sW qQ sH vK : Nat → Int32} (xJ : 0 ≤ Int32.toInt bT ∧ Int32.toInt bT ≤ 16) (vZ : 0 ≤ Int32.toInt aG ∧ Int32.toInt aG ≤ 8) (yJ : 0 ≤ Int32.toInt bL ∧ Int32.toInt bL ≤ 16) (yG : 0 ≤ Int32.toInt bY ∧ Int32.toInt bY ≤ 1) (yM : jD = 0 ∨ jD = 1 ∨ jD = 2) (zE : 0 ≤ Int32.toInt m_length ∧ Int32.toInt m_length ≤ 80) (aAR : 0 ≤ Int32.toInt oF ∧ Int32.toInt oF ≤ 80) (aA1 : 0 ≤ Int32.toInt rP ∧ Int32.toInt rP ≤ 80) (aAA : -1 ≤ Int32.toInt dQ ∧ Int32.toInt dQ ≤ 80) (zQ : 0 ≤ Int32.toInt bW ∧ Int32.toInt bW ≤ 40) (zT : 0 ≤ Int32.toInt bZ ∧ Int32.toInt bZ ≤ 0) (yL : 0 ≤ Int32.toInt aR ∧ Int32.toInt aR ≤ 15) (xQ : 0 ≤ Int32.toInt aE ∧ Int32.toInt aE ≤ 7) (yY : 0 ≤ Int32.toInt bI ∧ Int32.toInt bI ≤ 1) (yK : 0 ≤ Int32.toInt aW ∧ Int32.toInt aW ≤ 63) (aAH : 0 ≤ Int32.toInt dO ∧ Int32.toInt dO ≤ 65535) (xU : ∀ k : Nat, k = 17 → -1 ≤ Int32.toInt (qG k) ∧ Int32.toInt (qG k) ≤ SB) (xV : ∀ k : Nat, k = 19 → 0 ≤ Int32.toInt (qG k) ∧ Int32.toInt (qG k) ≤ 9) (aAW : ∀ k : Nat, 0 ≤ Int32.toInt (m_x k) ∧ Int32.toInt (m_x k) ≤ 99) (xK : ∀ k : Nat, 0 ≤ Int32.toInt (gR k) ∧ Int32.toInt (gR k) ≤ 99) (yR : ∀ k : Nat, 0 ≤ Int32.toInt (pW k) ∧ Int32.toInt (pW k) ≤ 9) (zM : ∀ k : Nat, 0 ≤ Int32.toInt (qR k) ∧ Int32.toInt (qR k) ≤ 9) (xT : ∀ k : Nat, 0 ≤ Int32.toInt (nG k) ∧ Int32.toInt (nG k) ≤ 99) (yF : ∀ k : Nat, 0 ≤ Int32.toInt (oO k) ∧ Int32.toInt (oO k) ≤ 99) (yD : ∀ k : Nat, k = 4 → 1 ≤ Int32.toInt (pJ k) ∧ Int32.toInt (pJ k) ≤ 30) (xZ : ∀ k : Nat, k = 3 → 0 ≤ Int32.toInt (pJ k) ∧ Int32.toInt (pJ k) ≤ 9) (zG : ∀ k : Nat, -128 ≤ Int32.toInt (qO k) ∧ Int32.toInt (qO k) ≤ 127) (zI : ∀ k : Nat, -128 ≤ Int32.toInt (qQ k) ∧ Int32.toInt (qQ k) ≤ 127) (zY : ∀ k : Nat, 0 ≤ Int32.toInt (sH k) ∧ Int32.toInt (sH k) ≤ 65535) (hc0 : -1 ≤ SB ∧ SB ≤ 7) (hc1 : (Int32.toInt aG ≤ 0 ∧ SB = 0) ∨ (1 ≤ Int32.toInt aG ∧ SB = Int32.toInt aG - 1)) (hpost : ∀ (r : Int32) (xM : Int32) (xG : Int32) (aAP : Nat) (zS : Int32) (aAz : Int32) (aAm : Int32) (zH : Int32) (aAM : Int32) (zP : Int32) (yO : Int32) (zZ : Int32) (zO : Int32) (aAS : Int32) (aBX : Nat → Int32) (aA5 : Nat → Int32) (aGb : Nat → Int32), (-2147483648 ≤ Int32.toInt r ∧ Int32.toInt r ≤ 1000000) → (0 ≤ Int32.toInt xM ∧ Int32.toInt xM ≤ 16) → (0 ≤ Int32.toInt xG ∧ Int32.toInt xG ≤ 0) → (aAP = 0 ∨ aAP = 1 ∨ aAP = 2) → (0 ≤ Int32.toInt zS ∧ Int32.toInt zS ≤ 80) → (0 ≤ Int32.toInt aAz ∧ Int32.toInt aAz ≤ 80) → (0 ≤ Int32.toInt aAm ∧ Int32.toInt aAm ≤ 80) → (-1 ≤ Int32.toInt zH ∧ Int32.toInt zH ≤ 80) → (0 ≤ Int32.toInt aAM ∧ Int32.toInt aAM ≤ 0) → (0 ≤ Int32.toInt zP ∧ Int32.toInt zP ≤ 15) → (0 ≤ Int32.toInt yO ∧ Int32.toInt yO ≤ 7) → (0 ≤ Int32.toInt zZ ∧ Int32.toInt zZ ≤ 1) → (0 ≤ Int32.toInt zO ∧ Int32.toInt zO ≤ 63) → (0 ≤ Int32.toInt aAS ∧ Int32.toInt aAS ≤ 65535) → (∀ k : Nat, 0 ≤ Int32.toInt (aA5 k) ∧ Int32.toInt (aA5 k) ≤ 65535) → post r xM xG aAP zS aAz aAm zH aAM zP yO zZ zO aAS aBX aA5 aGb) : wp_X10_share post p0 bT aG bL bY jD m_length oF rP dQ bW bZ aR aE bI aW dO qG m_x gR pW qR nG oO pJ qO sW qQ sH vK := by
  have l0 := aI2
  have l1 := aE0
  have l2 := aEc
  have l3 := li_18
  intro v77 ev77
  have f78 := aDv 8 256 aG (by decide) ⟨by omega, by omega⟩
  have hv77 := congrArg Int32.toInt ev77
  have f80 := aAT p0
  refine And.intro (fun c79 => ?_) (fun c79 => ?_)
  · skip
    have c79 := (aAd _ _).mp c79
    refine And.intro (fun h9 => absurd h9 (by decide)) (fun _ => ?_)
    exact hpost _ _ _ _ _ _ _ _ _ _ _ _ _ _ _ _ _ ⟨by omega, by omega⟩ yJ ⟨by omega, by omega⟩ yM zE aAR aA1 aAA zT yL xQ yY yK aAH zY
  · skip
    have c79 := mt (aAd _ _).mpr c79
    have f82 : Int32.toInt (v77 - 1) = Int32.toInt v77 - Int32.toInt (1 : Int32) := aCA _ _ ⟨by omega, by omega⟩
    refine And.intro (fun c81 => ?_) (fun c81 => ?_)
    · skip
      have c81 := (aAd _ _).mp c81
      refine And.intro (fun h9 => absurd h9 (by decide)) (fun _ => ?_)
      exact hpost _ _ _ _ _ _ _ _ _ _ _ _ _ _ _ _ _ ⟨by omega, by omega⟩ yJ ⟨by omega, by omega⟩ yM zE aAR aA1 aAA zT yL xQ yY yK aAH zY
    · skip
      have c81 := mt (aAd _ _).mpr c81
      refine And.intro (fun _ => ?_) (fun h9 => absurd h9 (by decide))
      intro v83 ev83
      have hv83 := congrArg Int32.toInt ev83
      refine aLb xJ vZ aAH xU xV aAW xK zM xT yF yD xZ zY (by omega) (by omega) (fun m_wanted_85 m_hand_86 h_m_wanted_85 h_m_hand_86 => ?_)
      exact ⟨10, tb_X10_share_25 bT aG bW qG m_x gR pW qR nG oO pJ qO qQ xJ vZ zQ xU xV aAW xK yR zM xT yF yD xZ zG zI hc0 hc1 hpost _ p0 0 bL 0 jD m_length oF rP dQ bZ aR aE bI aW m_wanted_85 sW m_hand_86 vK ⟨by omega, by omega⟩ ⟨by omega, by omega⟩ yJ ⟨by omega, by omega⟩ yM zE aAR aA1 aAA zT yL xQ yY yK h_m_wanted_85 h_m_hand_86 (by omega)⟩
set_option maxHeartbeats 8000000 in
set_option maxRecDepth 200000 in
theorem ts_X10_ripens_57 {post : Int32 → Int32 → Int32 → Int32 → (Nat → Int32) → (Nat → Int32) → Prop} {SB : Int} {K27 : Int32 → Int32 → Int32 → Int32 → Int32 → Int32 → (Nat → Int32) → (Nat → Int32) → Prop} {n27 : Int} (bT aG : Int32) (qG m_x gR qR nG oO pJ : Nat → Int32) (xJ : 0 ≤ Int32.toInt bT ∧ Int32.toInt bT ≤ 16) (vZ : 0 ≤ Int32.toInt aG ∧ Int32.toInt aG ≤ 8) (xU : ∀ k : Nat, k = 17 → -1 ≤ Int32.toInt (qG k) ∧ Int32.toInt (qG k) ≤ SB) (xV : ∀ k : Nat, k = 19 → 0 ≤ Int32.toInt (qG k) ∧ Int32.toInt (qG k) ≤ 9) (aAW : ∀ k : Nat, 0 ≤ Int32.toInt (m_x k) ∧ Int32.toInt (m_x k) ≤ 99) (xK : ∀ k : Nat, 0 ≤ Int32.toInt (gR k) ∧ Int32.toInt (gR k) ≤ 99) (zM : ∀ k : Nat, 0 ≤ Int32.toInt (qR k) ∧ Int32.toInt (qR k) ≤ 9) (xT : ∀ k : Nat, 0 ≤ Int32.toInt (nG k) ∧ Int32.toInt (nG k) ≤ 99) (yF : ∀ k : Nat, 0 ≤ Int32.toInt (oO k) ∧ Int32.toInt (oO k) ≤ 99) (yD : ∀ k : Nat, k = 4 → 1 ≤ Int32.toInt (pJ k) ∧ Int32.toInt (pJ k) ≤ 30) (xZ : ∀ k : Nat, k = 3 → 0 ≤ Int32.toInt (pJ k) ∧ Int32.toInt (pJ k) ≤ 9) (hc0 : -1 ≤ SB ∧ SB ≤ 7) (hc1 : (Int32.toInt aG ≤ 0 ∧ SB = 0) ∨ (1 ≤ Int32.toInt aG ∧ SB = Int32.toInt aG - 1)) (hpost : ∀ (r : Int32) (xM : Int32) (xG : Int32) (aAS : Int32) (aBX : Nat → Int32) (aA5 : Nat → Int32), (-1 ≤ Int32.toInt r ∧ Int32.toInt r ≤ 63) → (2 ≤ Int32.toInt xM ∧ Int32.toInt xM ≤ 2) → (0 ≤ Int32.toInt xG ∧ Int32.toInt xG ≤ 0) → (0 ≤ Int32.toInt aAS ∧ Int32.toInt aAS ≤ 65535) → (∀ k : Nat, 0 ≤ Int32.toInt (aA5 k) ∧ Int32.toInt (aA5 k) ≤ 65535) → post r xM xG aAS aBX aA5) (hK27 : ∀ (x1 : Int32) (x2 : Int32) (x3 : Int32) (bL : Int32) (bY : Int32) (dO : Int32) (sW : Nat → Int32) (sH : Nat → Int32), (-1 ≤ Int32.toInt x1 ∧ Int32.toInt x1 ≤ 63) → (0 ≤ Int32.toInt x2 ∧ Int32.toInt x2 ≤ 9) → (0 ≤ Int32.toInt x3 ∧ Int32.toInt x3 ≤ 10) → (0 ≤ Int32.toInt bL ∧ Int32.toInt bL ≤ 16) → (0 ≤ Int32.toInt bY ∧ Int32.toInt bY ≤ 0) → (0 ≤ Int32.toInt dO ∧ Int32.toInt dO ≤ 65535) → (∀ k : Nat, 0 ≤ Int32.toInt (sH k) ∧ Int32.toInt (sH k) ≤ 65535) → (10 - Int32.toInt x3 < n27) → K27 x1 x2 x3 bL bY dO sW sH) (x1 x2 x3 bL bY dO : Int32) (sW sH : Nat → Int32) (aBK : 0 ≤ Int32.toInt x1 ∧ Int32.toInt x1 ≤ 63) (aBN : 0 ≤ Int32.toInt x2 ∧ Int32.toInt x2 ≤ 9) (aCH : 0 ≤ Int32.toInt x3 ∧ Int32.toInt x3 ≤ 9) (yJ : 0 ≤ Int32.toInt bL ∧ Int32.toInt bL ≤ 16) (yG : 0 ≤ Int32.toInt bY ∧ Int32.toInt bY ≤ 0) (aAH : 0 ≤ Int32.toInt dO ∧ Int32.toInt dO ≤ 65535) (zY : ∀ k : Nat, 0 ≤ Int32.toInt (sH k) ∧ Int32.toInt (sH k) ≤ 65535) (hn27 : 10 - Int32.toInt x3 ≤ n27) : ws_X10_ripens_57 post K27 bT aG qG m_x gR qR nG oO pJ x1 x2 x3 bL bY dO sW sH := by
  have l0 := aEc
  intro v1 ev1
  have f2 : Int32.toInt (x3 + 1) = Int32.toInt x3 + Int32.toInt (1 : Int32) := aAD _ _ ⟨by omega, by omega⟩
  rw [← ev1] at f2
  exact hK27 x1 x2 v1 bL bY dO sW sH ⟨by omega, by omega⟩ aBN ⟨by omega, by omega⟩ yJ yG aAH zY (by omega)
set_option maxHeartbeats 8000000 in
set_option maxRecDepth 200000 in
theorem ts_X10_ripens_27 {post : Int32 → Int32 → Int32 → Int32 → (Nat → Int32) → (Nat → Int32) → Prop} {SB : Int} {next : Int32 → Int32 → Int32 → Int32 → Int32 → Int32 → (Nat → Int32) → (Nat → Int32) → Prop} {n27 : Int} (bT aG : Int32) (qG m_x gR qR nG oO pJ : Nat → Int32) (xJ : 0 ≤ Int32.toInt bT ∧ Int32.toInt bT ≤ 16) (vZ : 0 ≤ Int32.toInt aG ∧ Int32.toInt aG ≤ 8) (xU : ∀ k : Nat, k = 17 → -1 ≤ Int32.toInt (qG k) ∧ Int32.toInt (qG k) ≤ SB) (xV : ∀ k : Nat, k = 19 → 0 ≤ Int32.toInt (qG k) ∧ Int32.toInt (qG k) ≤ 9) (aAW : ∀ k : Nat, 0 ≤ Int32.toInt (m_x k) ∧ Int32.toInt (m_x k) ≤ 99) (xK : ∀ k : Nat, 0 ≤ Int32.toInt (gR k) ∧ Int32.toInt (gR k) ≤ 99) (zM : ∀ k : Nat, 0 ≤ Int32.toInt (qR k) ∧ Int32.toInt (qR k) ≤ 9) (xT : ∀ k : Nat, 0 ≤ Int32.toInt (nG k) ∧ Int32.toInt (nG k) ≤ 99) (yF : ∀ k : Nat, 0 ≤ Int32.toInt (oO k) ∧ Int32.toInt (oO k) ≤ 99) (yD : ∀ k : Nat, k = 4 → 1 ≤ Int32.toInt (pJ k) ∧ Int32.toInt (pJ k) ≤ 30) (xZ : ∀ k : Nat, k = 3 → 0 ≤ Int32.toInt (pJ k) ∧ Int32.toInt (pJ k) ≤ 9) (hc0 : -1 ≤ SB ∧ SB ≤ 7) (hc1 : (Int32.toInt aG ≤ 0 ∧ SB = 0) ∨ (1 ≤ Int32.toInt aG ∧ SB = Int32.toInt aG - 1)) (hpost : ∀ (r : Int32) (xM : Int32) (xG : Int32) (aAS : Int32) (aBX : Nat → Int32) (aA5 : Nat → Int32), (-1 ≤ Int32.toInt r ∧ Int32.toInt r ≤ 63) → (2 ≤ Int32.toInt xM ∧ Int32.toInt xM ≤ 2) → (0 ≤ Int32.toInt xG ∧ Int32.toInt xG ≤ 0) → (0 ≤ Int32.toInt aAS ∧ Int32.toInt aAS ≤ 65535) → (∀ k : Nat, 0 ≤ Int32.toInt (aA5 k) ∧ Int32.toInt (aA5 k) ≤ 65535) → post r xM xG aAS aBX aA5) (hKn : ∀ (x1 : Int32) (x2 : Int32) (x3 : Int32) (bL : Int32) (bY : Int32) (dO : Int32) (sW : Nat → Int32) (sH : Nat → Int32), (-1 ≤ Int32.toInt x1 ∧ Int32.toInt x1 ≤ 63) → (0 ≤ Int32.toInt x2 ∧ Int32.toInt x2 ≤ 9) → (0 ≤ Int32.toInt x3 ∧ Int32.toInt x3 ≤ 10) → (0 ≤ Int32.toInt bL ∧ Int32.toInt bL ≤ 16) → (0 ≤ Int32.toInt bY ∧ Int32.toInt bY ≤ 0) → (0 ≤ Int32.toInt dO ∧ Int32.toInt dO ≤ 65535) → (∀ k : Nat, 0 ≤ Int32.toInt (sH k) ∧ Int32.toInt (sH k) ≤ 65535) → (10 - Int32.toInt x3 < n27) → next x1 x2 x3 bL bY dO sW sH) (x1 x2 x3 bL bY dO : Int32) (sW sH : Nat → Int32) (aBK : -1 ≤ Int32.toInt x1 ∧ Int32.toInt x1 ≤ 63) (aBN : 0 ≤ Int32.toInt x2 ∧ Int32.toInt x2 ≤ 9) (aCH : 0 ≤ Int32.toInt x3 ∧ Int32.toInt x3 ≤ 10) (yJ : 0 ≤ Int32.toInt bL ∧ Int32.toInt bL ≤ 16) (yG : 0 ≤ Int32.toInt bY ∧ Int32.toInt bY ≤ 0) (aAH : 0 ≤ Int32.toInt dO ∧ Int32.toInt dO ≤ 65535) (zY : ∀ k : Nat, 0 ≤ Int32.toInt (sH k) ∧ Int32.toInt (sH k) ≤ 65535) (hn27 : 10 - Int32.toInt x3 ≤ n27) : ws_X10_ripens_27 post next bT aG qG m_x gR qR nG oO pJ x1 x2 x3 bL bY dO sW sH := by
  have l0 := aE0
  have l1 := aEc
  have l2 := aKH
  have l3 := li_19
  have l4 := aJ8
  have l5 := li_63
  have l6 := aJ9
  have l7 := li_9
  refine And.intro (fun c3 => ?_) (fun c3 => ?_)
  · skip
    have c3 := (aAd _ _).mp c3
    refine aKO ⟨by omega, by omega⟩ xJ xU xV (by omega) (fun r4 h_r4 ox5 => ?_)
    intro v6 ev6
    have f7 := aDv 8 256 aG (by decide) ⟨by omega, by omega⟩
    have hv6 := congrArg Int32.toInt ev6
    have f9 : Int32.toInt (v6 - 1) = Int32.toInt v6 - Int32.toInt (1 : Int32) := aCA _ _ ⟨by omega, by omega⟩
    refine aSL ⟨by omega, by omega⟩ vZ zY (fun r8 h_r8 => ?_)
    intro v10 ev10
    have f11 := aAQ r4 r8 (by omega)
    have f12 := aBx r4 r8 (by omega)
    have hv10 := congrArg Int32.toInt ev10
    refine t_X10_cover ⟨by omega, by omega⟩ vZ zY (fun r13 h_r13 => ?_)
    refine And.intro (aBZ ⟨by omega, by omega⟩) ?_
    intro v14 ev14
    have f15 : Int32.toInt (0 + 1) = Int32.toInt (0 : Int32) + Int32.toInt (1 : Int32) := aAD _ _ ⟨by omega, by omega⟩
    rw [← ev14] at f15
    intro v16 ev16
    intro v17 ev17
    have f19 := aAQ v16 1431655765 (by omega)
    have f18 : Int32.toInt (r13 - (v16 &&& 1431655765)) = Int32.toInt r13 - Int32.toInt (v16 &&& 1431655765) := aCA _ _ ⟨by omega, by omega⟩
    rw [← ev17] at f18
    intro v20 ev20
    have f21 := aAQ v17 858993459 (by omega)
    have hv20 := congrArg Int32.toInt ev20
    intro v22 ev22
    intro v23 ev23
    have f25 := aAQ v22 858993459 (by omega)
    have f24 : Int32.toInt (v20 + (v22 &&& 858993459)) = Int32.toInt v20 + Int32.toInt (v22 &&& 858993459) := aAD _ _ ⟨by omega, by omega⟩
    rw [← ev23] at f24
    intro v26 ev26
    have hv26 := congrArg Int32.toInt ev26
    intro v28 ev28
    have f29 := aAQ v26 252645135 (by omega)
    have hv28 := congrArg Int32.toInt ev28
    intro v30 ev30
    have hv30 := congrArg Int32.toInt ev30
    intro v32 ev32
    have hv32 := congrArg Int32.toInt ev32
    refine And.intro (aBZ ⟨by omega, by omega⟩) ?_
    intro v34 ev34
    have f35 : Int32.toInt (v14 + 1) = Int32.toInt v14 + Int32.toInt (1 : Int32) := aAD _ _ ⟨by omega, by omega⟩
    rw [← ev34] at f35
    exact hpost _ _ _ _ _ _ aBK ⟨by omega, by omega⟩ yG aAH zY
  · skip
    have c3 := mt (aAd _ _).mpr c3
    refine aKO ⟨by omega, by omega⟩ xJ xU xV (by omega) (fun r36 h_r36 ox37 => ?_)
    refine aXh ⟨by omega, by omega⟩ xJ zM (fun r38 h_r38 ox39 => ?_)
    intro v40 ev40
    have f41 := aAQ r36 r38 (by omega)
    have f42 := aBx r36 r38 (by omega)
    have hv40 := congrArg Int32.toInt ev40
    have q43 := xV (19 : Int32).toNatClampNeg (by have e9 : (19 : Int32).toNatClampNeg = (Int32.toInt (19 : Int32)).toNat := rfl; omega)
    refine And.intro (fun c44 => ?_) (fun c44 => ?_)
    · skip
      have c44 := mt (zJ _ _).mpr c44
      intro v46 ev46
      have f47 : Int32.toInt (x3 - 1) = Int32.toInt x3 - Int32.toInt (1 : Int32) := aCA _ _ ⟨by omega, by omega⟩
      rw [← ev46] at f47
      refine aXh ⟨by omega, by omega⟩ xJ zM (fun r48 h_r48 ox49 => ?_)
      intro v50 ev50
      intro v51 ev51
      have f54 := aBx v40 (r48 ^^^ (-1)) (by omega)
      have f55 := aAQ v50 1431655765 (by omega)
      have f52 : Int32.toInt ((v40 &&& (r48 ^^^ (-1))) - (v50 &&& 1431655765)) = Int32.toInt (v40 &&& (r48 ^^^ (-1))) - Int32.toInt (v50 &&& 1431655765) := aCA _ _ ⟨by omega, by omega⟩
      rw [← ev51] at f52
      intro v56 ev56
      have f57 := aAQ v51 858993459 (by omega)
      have hv56 := congrArg Int32.toInt ev56
      intro v58 ev58
      intro v59 ev59
      have f61 := aAQ v58 858993459 (by omega)
      have f60 : Int32.toInt (v56 + (v58 &&& 858993459)) = Int32.toInt v56 + Int32.toInt (v58 &&& 858993459) := aAD _ _ ⟨by omega, by omega⟩
      rw [← ev59] at f60
      intro v62 ev62
      have hv62 := congrArg Int32.toInt ev62
      intro v64 ev64
      have f65 := aAQ v62 252645135 (by omega)
      have hv64 := congrArg Int32.toInt ev64
      intro v66 ev66
      have hv66 := congrArg Int32.toInt ev66
      intro v68 ev68
      have hv68 := congrArg Int32.toInt ev68
      have f71 := aAQ v68 63 (by omega)
      refine And.intro (fun c70 => ?_) (fun c70 => ?_)
      · skip
        have c70 := (aAd _ _).mp c70
        exact ts_X10_ripens_57 bT aG qG m_x gR qR nG oO pJ xJ vZ xU xV aAW xK zM xT yF yD xZ hc0 hc1 hpost hKn (v68 &&& 63) x3 x3 bL bY dO sW sH ⟨by omega, by omega⟩ ⟨by omega, by omega⟩ ⟨by omega, by omega⟩ yJ yG aAH zY hn27
      · skip
        have c70 := mt (aAd _ _).mpr c70
        exact ts_X10_ripens_57 bT aG qG m_x gR qR nG oO pJ xJ vZ xU xV aAW xK zM xT yF yD xZ hc0 hc1 hpost hKn x1 x2 x3 bL bY dO sW sH ⟨by omega, by omega⟩ aBN ⟨by omega, by omega⟩ yJ yG aAH zY hn27
    · skip
      have c44 := (zJ _ _).mp c44
      intro v72 ev72
      intro v73 ev73
      have f75 := aAQ v72 1431655765 (by omega)
      have f74 : Int32.toInt (v40 - (v72 &&& 1431655765)) = Int32.toInt v40 - Int32.toInt (v72 &&& 1431655765) := aCA _ _ ⟨by omega, by omega⟩
      rw [← ev73] at f74
      intro v76 ev76
      have f77 := aAQ v73 858993459 (by omega)
      have hv76 := congrArg Int32.toInt ev76
      intro v78 ev78
      intro v79 ev79
      have f81 := aAQ v78 858993459 (by omega)
      have f80 : Int32.toInt (v76 + (v78 &&& 858993459)) = Int32.toInt v76 + Int32.toInt (v78 &&& 858993459) := aAD _ _ ⟨by omega, by omega⟩
      rw [← ev79] at f80
      intro v82 ev82
      have hv82 := congrArg Int32.toInt ev82
      intro v84 ev84
      have f85 := aAQ v82 252645135 (by omega)
      have hv84 := congrArg Int32.toInt ev84
      intro v86 ev86
      have hv86 := congrArg Int32.toInt ev86
      intro v88 ev88
      have hv88 := congrArg Int32.toInt ev88
      have f91 := aAQ v88 63 (by omega)
      refine And.intro (fun c90 => ?_) (fun c90 => ?_)
      · skip
        have c90 := (aAd _ _).mp c90
        exact ts_X10_ripens_57 bT aG qG m_x gR qR nG oO pJ xJ vZ xU xV aAW xK zM xT yF yD xZ hc0 hc1 hpost hKn (v88 &&& 63) x3 x3 bL bY dO sW sH ⟨by omega, by omega⟩ ⟨by omega, by omega⟩ ⟨by omega, by omega⟩ yJ yG aAH zY hn27
      · skip
        have c90 := mt (aAd _ _).mpr c90
        exact ts_X10_ripens_57 bT aG qG m_x gR qR nG oO pJ xJ vZ xU xV aAW xK zM xT yF yD xZ hc0 hc1 hpost hKn x1 x2 x3 bL bY dO sW sH ⟨by omega, by omega⟩ aBN ⟨by omega, by omega⟩ yJ yG aAH zY hn27
set_option maxHeartbeats 8000000 in
set_option maxRecDepth 200000 in
theorem tb_X10_ripens_27 {post : Int32 → Int32 → Int32 → Int32 → (Nat → Int32) → (Nat → Int32) → Prop} {SB : Int} (bT aG : Int32) (qG m_x gR qR nG oO pJ : Nat → Int32) (xJ : 0 ≤ Int32.toInt bT ∧ Int32.toInt bT ≤ 16) (vZ : 0 ≤ Int32.toInt aG ∧ Int32.toInt aG ≤ 8) (xU : ∀ k : Nat, k = 17 → -1 ≤ Int32.toInt (qG k) ∧ Int32.toInt (qG k) ≤ SB) (xV : ∀ k : Nat, k = 19 → 0 ≤ Int32.toInt (qG k) ∧ Int32.toInt (qG k) ≤ 9) (aAW : ∀ k : Nat, 0 ≤ Int32.toInt (m_x k) ∧ Int32.toInt (m_x k) ≤ 99) (xK : ∀ k : Nat, 0 ≤ Int32.toInt (gR k) ∧ Int32.toInt (gR k) ≤ 99) (zM : ∀ k : Nat, 0 ≤ Int32.toInt (qR k) ∧ Int32.toInt (qR k) ≤ 9) (xT : ∀ k : Nat, 0 ≤ Int32.toInt (nG k) ∧ Int32.toInt (nG k) ≤ 99) (yF : ∀ k : Nat, 0 ≤ Int32.toInt (oO k) ∧ Int32.toInt (oO k) ≤ 99) (yD : ∀ k : Nat, k = 4 → 1 ≤ Int32.toInt (pJ k) ∧ Int32.toInt (pJ k) ≤ 30) (xZ : ∀ k : Nat, k = 3 → 0 ≤ Int32.toInt (pJ k) ∧ Int32.toInt (pJ k) ≤ 9) (hc0 : -1 ≤ SB ∧ SB ≤ 7) (hc1 : (Int32.toInt aG ≤ 0 ∧ SB = 0) ∨ (1 ≤ Int32.toInt aG ∧ SB = Int32.toInt aG - 1)) (hpost : ∀ (r : Int32) (xM : Int32) (xG : Int32) (aAS : Int32) (aBX : Nat → Int32) (aA5 : Nat → Int32), (-1 ≤ Int32.toInt r ∧ Int32.toInt r ≤ 63) → (2 ≤ Int32.toInt xM ∧ Int32.toInt xM ≤ 2) → (0 ≤ Int32.toInt xG ∧ Int32.toInt xG ≤ 0) → (0 ≤ Int32.toInt aAS ∧ Int32.toInt aAS ≤ 65535) → (∀ k : Nat, 0 ≤ Int32.toInt (aA5 k) ∧ Int32.toInt (aA5 k) ≤ 65535) → post r xM xG aAS aBX aA5) : ∀ (n : Nat) (x1 x2 x3 bL bY dO : Int32) (sW sH : Nat → Int32), (-1 ≤ Int32.toInt x1 ∧ Int32.toInt x1 ≤ 63) → (0 ≤ Int32.toInt x2 ∧ Int32.toInt x2 ≤ 9) → (0 ≤ Int32.toInt x3 ∧ Int32.toInt x3 ≤ 10) → (0 ≤ Int32.toInt bL ∧ Int32.toInt bL ≤ 16) → (0 ≤ Int32.toInt bY ∧ Int32.toInt bY ≤ 0) → (0 ≤ Int32.toInt dO ∧ Int32.toInt dO ≤ 65535) → (∀ k : Nat, 0 ≤ Int32.toInt (sH k) ∧ Int32.toInt (sH k) ≤ 65535) → (10 - Int32.toInt x3 < (n : Int)) → wb_X10_ripens_27 post bT aG qG m_x gR qR nG oO pJ n x1 x2 x3 bL bY dO sW sH := by
  intro n
  induction n with
  | zero =>
    intro x1 x2 x3 bL bY dO sW sH aBK aBN aCH yJ yG aAH zY hm
    exfalso; omega
  | succ n ih =>
    intro x1 x2 x3 bL bY dO sW sH aBK aBN aCH yJ yG aAH zY hm
    exact ts_X10_ripens_27 bT aG qG m_x gR qR nG oO pJ xJ vZ xU xV aAW xK zM xT yF yD xZ hc0 hc1 hpost ih x1 x2 x3 bL bY dO sW sH aBK aBN aCH yJ yG aAH zY (by omega)
set_option maxHeartbeats 8000000 in
set_option maxRecDepth 200000 in
theorem t_X10_ripens {post : Int32 → Int32 → Int32 → Int32 → (Nat → Int32) → (Nat → Int32) → Prop} {SB : Int} {bT aG bL bY dO : Int32} {qG m_x gR qR nG oO pJ sW sH : Nat → Int32} (xJ : 0 ≤ Int32.toInt bT ∧ Int32.toInt bT ≤ 16) (vZ : 0 ≤ Int32.toInt aG ∧ Int32.toInt aG ≤ 8) (yJ : 0 ≤ Int32.toInt bL ∧ Int32.toInt bL ≤ 16) (yG : 0 ≤ Int32.toInt bY ∧ Int32.toInt bY ≤ 1) (aAH : 0 ≤ Int32.toInt dO ∧ Int32.toInt dO ≤ 65535) (xU : ∀ k : Nat, k = 17 → -1 ≤ Int32.toInt (qG k) ∧ Int32.toInt (qG k) ≤ SB) (xV : ∀ k : Nat, k = 19 → 0 ≤ Int32.toInt (qG k) ∧ Int32.toInt (qG k) ≤ 9) (aAW : ∀ k : Nat, 0 ≤ Int32.toInt (m_x k) ∧ Int32.toInt (m_x k) ≤ 99) (xK : ∀ k : Nat, 0 ≤ Int32.toInt (gR k) ∧ Int32.toInt (gR k) ≤ 99) (zM : ∀ k : Nat, 0 ≤ Int32.toInt (qR k) ∧ Int32.toInt (qR k) ≤ 9) (xT : ∀ k : Nat, 0 ≤ Int32.toInt (nG k) ∧ Int32.toInt (nG k) ≤ 99) (yF : ∀ k : Nat, 0 ≤ Int32.toInt (oO k) ∧ Int32.toInt (oO k) ≤ 99) (yD : ∀ k : Nat, k = 4 → 1 ≤ Int32.toInt (pJ k) ∧ Int32.toInt (pJ k) ≤ 30) (xZ : ∀ k : Nat, k = 3 → 0 ≤ Int32.toInt (pJ k) ∧ Int32.toInt (pJ k) ≤ 9) (zY : ∀ k : Nat, 0 ≤ Int32.toInt (sH k) ∧ Int32.toInt (sH k) ≤ 65535) (hc0 : -1 ≤ SB ∧ SB ≤ 7) (hc1 : (Int32.toInt aG ≤ 0 ∧ SB = 0) ∨ (1 ≤ Int32.toInt aG ∧ SB = Int32.toInt aG - 1)) (hpost : ∀ (r : Int32) (xM : Int32) (xG : Int32) (aAS : Int32) (aBX : Nat → Int32) (aA5 : Nat → Int32), (-1 ≤ Int32.toInt r ∧ Int32.toInt r ≤ 63) → (2 ≤ Int32.toInt xM ∧ Int32.toInt xM ≤ 2) → (0 ≤ Int32.toInt xG ∧ Int32.toInt xG ≤ 0) → (0 ≤ Int32.toInt aAS ∧ Int32.toInt aAS ≤ 65535) → (∀ k : Nat, 0 ≤ Int32.toInt (aA5 k) ∧ Int32.toInt (aA5 k) ≤ 65535) → post r xM xG aAS aBX aA5) : wp_X10_ripens post bT aG bL bY dO qG m_x gR qR nG oO pJ sW sH := by
  have l0 := aI2
  have l1 := aE0
  have l2 := li_18
  have l3 := li_19
  intro v92 ev92
  have hv92 := congrArg Int32.toInt ev92
  refine aLb xJ vZ aAH xU xV aAW xK zM xT yF yD xZ zY (by omega) (by omega) (fun m_wanted_94 m_hand_95 h_m_wanted_94 h_m_hand_95 => ?_)
  have q96 := xV (19 : Int32).toNatClampNeg (by have e9 : (19 : Int32).toNatClampNeg = (Int32.toInt (19 : Int32)).toNat := rfl; omega)
  intro v97 ev97
  have hv97 := congrArg Int32.toInt ev97
  have q99 := xV (19 : Int32).toNatClampNeg (by have e9 : (19 : Int32).toNatClampNeg = (Int32.toInt (19 : Int32)).toNat := rfl; omega)
  intro v100 ev100
  have hv100 := congrArg Int32.toInt ev100
  exact ⟨12, tb_X10_ripens_27 bT aG qG m_x gR qR nG oO pJ xJ vZ xU xV aAW xK zM xT yF yD xZ hc0 hc1 hpost _ (-1) v97 v100 bL 0 m_wanted_94 sW m_hand_95 ⟨by omega, by omega⟩ ⟨by omega, by omega⟩ ⟨by omega, by omega⟩ yJ ⟨by omega, by omega⟩ h_m_wanted_94 h_m_hand_95 (by omega)⟩
set_option maxHeartbeats 8000000 in
set_option maxRecDepth 200000 in
theorem t_X10_ondays {post : Int32 → Int32 → Int32 → Int32 → (Nat → Int32) → (Nat → Int32) → Prop} {SB : Int} {p0 bT aG bL bY dO : Int32} {qG m_x gR qR nG oO pJ sW sH : Nat → Int32} (xJ : 0 ≤ Int32.toInt bT ∧ Int32.toInt bT ≤ 16) (vZ : 0 ≤ Int32.toInt aG ∧ Int32.toInt aG ≤ 8) (yJ : 0 ≤ Int32.toInt bL ∧ Int32.toInt bL ≤ 16) (yG : 0 ≤ Int32.toInt bY ∧ Int32.toInt bY ≤ 1) (aAH : 0 ≤ Int32.toInt dO ∧ Int32.toInt dO ≤ 65535) (xU : ∀ k : Nat, k = 17 → -1 ≤ Int32.toInt (qG k) ∧ Int32.toInt (qG k) ≤ SB) (xV : ∀ k : Nat, k = 19 → 0 ≤ Int32.toInt (qG k) ∧ Int32.toInt (qG k) ≤ 9) (aAW : ∀ k : Nat, 0 ≤ Int32.toInt (m_x k) ∧ Int32.toInt (m_x k) ≤ 99) (xK : ∀ k : Nat, 0 ≤ Int32.toInt (gR k) ∧ Int32.toInt (gR k) ≤ 99) (zM : ∀ k : Nat, 0 ≤ Int32.toInt (qR k) ∧ Int32.toInt (qR k) ≤ 9) (xT : ∀ k : Nat, 0 ≤ Int32.toInt (nG k) ∧ Int32.toInt (nG k) ≤ 99) (yF : ∀ k : Nat, 0 ≤ Int32.toInt (oO k) ∧ Int32.toInt (oO k) ≤ 99) (yD : ∀ k : Nat, k = 4 → 1 ≤ Int32.toInt (pJ k) ∧ Int32.toInt (pJ k) ≤ 30) (xZ : ∀ k : Nat, k = 3 → 0 ≤ Int32.toInt (pJ k) ∧ Int32.toInt (pJ k) ≤ 9) (zY : ∀ k : Nat, 0 ≤ Int32.toInt (sH k) ∧ Int32.toInt (sH k) ≤ 65535) (hc0 : -1 ≤ SB ∧ SB ≤ 7) (hc1 : (Int32.toInt aG ≤ 0 ∧ SB = 0) ∨ (1 ≤ Int32.toInt aG ∧ SB = Int32.toInt aG - 1)) (hpost : ∀ (r : Int32) (xM : Int32) (xG : Int32) (aAS : Int32) (aBX : Nat → Int32) (aA5 : Nat → Int32), (-1 ≤ Int32.toInt r ∧ Int32.toInt r ≤ 63) → (0 ≤ Int32.toInt xM ∧ Int32.toInt xM ≤ 16) → (0 ≤ Int32.toInt xG ∧ Int32.toInt xG ≤ 0) → (0 ≤ Int32.toInt aAS ∧ Int32.toInt aAS ≤ 65535) → (∀ k : Nat, 0 ≤ Int32.toInt (aA5 k) ∧ Int32.toInt (aA5 k) ≤ 65535) → post r xM xG aAS aBX aA5) : wp_X10_ondays post p0 bT aG bL bY dO qG m_x gR qR nG oO pJ sW sH := by
  have l0 := aI2
  have l1 := aE0
  have l2 := aEc
  have l3 := li_18
  have l4 := li_19
  have l5 := li_9
  have q1 := xV (19 : Int32).toNatClampNeg (by have e9 : (19 : Int32).toNatClampNeg = (Int32.toInt (19 : Int32)).toNat := rfl; omega)
  intro v2 ev2
  have hv2 := congrArg Int32.toInt ev2
  have f5 := aAT p0
  refine And.intro (fun c4 => ?_) (fun c4 => ?_)
  · skip
    have c4 := (aAd _ _).mp c4
    refine And.intro (fun h9 => absurd h9 (by decide)) (fun _ => ?_)
    exact hpost _ _ _ _ _ _ ⟨by omega, by omega⟩ yJ ⟨by omega, by omega⟩ aAH zY
  · skip
    have c4 := mt (aAd _ _).mpr c4
    refine And.intro (fun c6 => ?_) (fun c6 => ?_)
    · skip
      have c6 := (aAd _ _).mp c6
      refine And.intro (fun h9 => absurd h9 (by decide)) (fun _ => ?_)
      exact hpost _ _ _ _ _ _ ⟨by omega, by omega⟩ yJ ⟨by omega, by omega⟩ aAH zY
    · skip
      have c6 := mt (aAd _ _).mpr c6
      refine And.intro (fun _ => ?_) (fun h9 => absurd h9 (by decide))
      intro v7 ev7
      have hv7 := congrArg Int32.toInt ev7
      refine aLb xJ vZ aAH xU xV aAW xK zM xT yF yD xZ zY (by omega) (by omega) (fun m_wanted_9 m_hand_10 h_m_wanted_9 h_m_hand_10 => ?_)
      refine aKO ⟨by omega, by omega⟩ xJ xU xV (by omega) (fun r11 h_r11 ox12 => ?_)
      refine aXh ⟨by omega, by omega⟩ xJ zM (fun r13 h_r13 ox14 => ?_)
      intro v15 ev15
      have f16 := aAQ r11 r13 (by omega)
      have f17 := aBx r11 r13 (by omega)
      have hv15 := congrArg Int32.toInt ev15
      have q18 := xV (19 : Int32).toNatClampNeg (by have e9 : (19 : Int32).toNatClampNeg = (Int32.toInt (19 : Int32)).toNat := rfl; omega)
      refine And.intro (fun c19 => ?_) (fun c19 => ?_)
      · skip
        have c19 := mt (zJ _ _).mpr c19
        intro v20 ev20
        have f21 : Int32.toInt (p0 - 1) = Int32.toInt p0 - Int32.toInt (1 : Int32) := aCA _ _ ⟨by omega, by omega⟩
        rw [← ev20] at f21
        refine aXh ⟨by omega, by omega⟩ xJ zM (fun r22 h_r22 ox23 => ?_)
        intro v24 ev24
        have f25 := aDv 8 256 aG (by decide) ⟨by omega, by omega⟩
        have hv24 := congrArg Int32.toInt ev24
        have f27 : Int32.toInt (v24 - 1) = Int32.toInt v24 - Int32.toInt (1 : Int32) := aCA _ _ ⟨by omega, by omega⟩
        refine aSL ⟨by omega, by omega⟩ vZ h_m_hand_10 (fun r26 h_r26 => ?_)
        intro v28 ev28
        have f29 := aAQ (v15 &&& (r22 ^^^ (-1))) r26 (by omega)
        have f31 := aBx v15 (r22 ^^^ (-1)) (by omega)
        have f32 := aBx (v15 &&& (r22 ^^^ (-1))) r26 (by omega)
        have hv28 := congrArg Int32.toInt ev28
        refine t_X10_tellCover ⟨by omega, by omega⟩ vZ yJ h_m_hand_10 (fun r35 m_rowMany_33 m_row_34 h_r35 h_m_rowMany_33 => ?_)
        exact hpost _ _ _ _ _ _ ⟨by omega, by omega⟩ h_m_rowMany_33 ⟨by omega, by omega⟩ h_m_wanted_9 h_m_hand_10
      · skip
        have c19 := (zJ _ _).mp c19
        intro v36 ev36
        have f37 := aDv 8 256 aG (by decide) ⟨by omega, by omega⟩
        have hv36 := congrArg Int32.toInt ev36
        have f39 : Int32.toInt (v36 - 1) = Int32.toInt v36 - Int32.toInt (1 : Int32) := aCA _ _ ⟨by omega, by omega⟩
        refine aSL ⟨by omega, by omega⟩ vZ h_m_hand_10 (fun r38 h_r38 => ?_)
        intro v40 ev40
        have f41 := aAQ v15 r38 (by omega)
        have f42 := aBx v15 r38 (by omega)
        have hv40 := congrArg Int32.toInt ev40
        refine t_X10_tellCover ⟨by omega, by omega⟩ vZ yJ h_m_hand_10 (fun r45 m_rowMany_43 m_row_44 h_r45 h_m_rowMany_43 => ?_)
        exact hpost _ _ _ _ _ _ ⟨by omega, by omega⟩ h_m_rowMany_43 ⟨by omega, by omega⟩ h_m_wanted_9 h_m_hand_10
set_option maxHeartbeats 8000000 in
set_option maxRecDepth 200000 in
theorem ts_X10_allripe_39 {post : Int32 → Int32 → Int32 → (Nat → Int32) → Prop} {SB : Int} {next : Int32 → Int32 → Int32 → Int32 → Int32 → (Nat → Int32) → Prop} {n39 : Int} (bT : Int32) (qG pW qR : Nat → Int32) (xJ : 0 ≤ Int32.toInt bT ∧ Int32.toInt bT ≤ 16) (xU : ∀ k : Nat, k = 17 → -1 ≤ Int32.toInt (qG k) ∧ Int32.toInt (qG k) ≤ SB) (xV : ∀ k : Nat, k = 19 → 0 ≤ Int32.toInt (qG k) ∧ Int32.toInt (qG k) ≤ 9) (yR : ∀ k : Nat, 0 ≤ Int32.toInt (pW k) ∧ Int32.toInt (pW k) ≤ 9) (zM : ∀ k : Nat, 0 ≤ Int32.toInt (qR k) ∧ Int32.toInt (qR k) ≤ 9) (hc0 : -1 ≤ SB ∧ SB ≤ 7) (hpost : ∀ (r : Int32) (xM : Int32) (xG : Int32) (aBX : Nat → Int32), (0 ≤ Int32.toInt r ∧ Int32.toInt r ≤ 9) → (2 ≤ Int32.toInt xM ∧ Int32.toInt xM ≤ 2) → (0 ≤ Int32.toInt xG ∧ Int32.toInt xG ≤ 0) → post r xM xG aBX) (hKn : ∀ (x1 : Int32) (x2 : Int32) (x3 : Int32) (bL : Int32) (bY : Int32) (sW : Nat → Int32), (0 ≤ Int32.toInt x1 ∧ Int32.toInt x1 ≤ 65535) → (0 ≤ Int32.toInt x2 ∧ Int32.toInt x2 ≤ 65535) → (0 ≤ Int32.toInt x3 ∧ Int32.toInt x3 ≤ 9) → (0 ≤ Int32.toInt bL ∧ Int32.toInt bL ≤ 16) → (0 ≤ Int32.toInt bY ∧ Int32.toInt bY ≤ 0) → (x1 = (bsf (Int32.toInt bT).toNat (fun k => decide (qG k = 0)))) → (9 - Int32.toInt x3 < n39) → next x1 x2 x3 bL bY sW) (x1 x2 x3 bL bY : Int32) (sW : Nat → Int32) (aBK : 0 ≤ Int32.toInt x1 ∧ Int32.toInt x1 ≤ 65535) (aBN : 0 ≤ Int32.toInt x2 ∧ Int32.toInt x2 ≤ 65535) (aCH : 0 ≤ Int32.toInt x3 ∧ Int32.toInt x3 ≤ 9) (yJ : 0 ≤ Int32.toInt bL ∧ Int32.toInt bL ≤ 16) (yG : 0 ≤ Int32.toInt bY ∧ Int32.toInt bY ≤ 0) (hx0 : x1 = (bsf (Int32.toInt bT).toNat (fun k => decide (qG k = 0)))) (hn39 : 9 - Int32.toInt x3 ≤ n39) : ws_X10_allripe_39 post next bT qG pW qR x1 x2 x3 bL bY sW := by
  have l0 := aE0
  have l1 := aEc
  have l2 := aKH
  have l3 := li_16
  have l4 := aJ8
  have l5 := aJ9
  refine aXh ⟨by omega, by omega⟩ xJ zM (fun r1 h_r1 ox2 => ?_)
  have f5 := aBx x1 (r1 ^^^ (-1)) (by omega)
  refine And.intro (fun c3 => ?_) (fun c3 => ?_)
  · skip
    have c3Z := c3
    have c3 := (zJ _ _).mp c3
    have s6 := ti_subset x1 r1 (c3Z) (by omega)
    intro v7 ev7
    intro v8 ev8
    have f10 := aAQ v7 1431655765 (by omega)
    have f9 : Int32.toInt (x2 - (v7 &&& 1431655765)) = Int32.toInt x2 - Int32.toInt (v7 &&& 1431655765) := aCA _ _ ⟨by omega, by omega⟩
    rw [← ev8] at f9
    intro v11 ev11
    have f12 := aAQ v8 858993459 (by omega)
    have hv11 := congrArg Int32.toInt ev11
    intro v13 ev13
    intro v14 ev14
    have f16 := aAQ v13 858993459 (by omega)
    have f15 : Int32.toInt (v11 + (v13 &&& 858993459)) = Int32.toInt v11 + Int32.toInt (v13 &&& 858993459) := aAD _ _ ⟨by omega, by omega⟩
    rw [← ev14] at f15
    intro v17 ev17
    have hv17 := congrArg Int32.toInt ev17
    intro v19 ev19
    have f20 := aAQ v17 252645135 (by omega)
    have hv19 := congrArg Int32.toInt ev19
    intro v21 ev21
    have hv21 := congrArg Int32.toInt ev21
    intro v23 ev23
    have hv23 := congrArg Int32.toInt ev23
    refine And.intro (aBZ ⟨by omega, by omega⟩) ?_
    intro v25 ev25
    have f26 : Int32.toInt (0 + 1) = Int32.toInt (0 : Int32) + Int32.toInt (1 : Int32) := aAD _ _ ⟨by omega, by omega⟩
    rw [← ev25] at f26
    intro v27 ev27
    have hv27 := congrArg Int32.toInt ev27
    refine aNU aBN xJ yR (fun r29 => ?_)
    refine And.intro (aBZ ⟨by omega, by omega⟩) ?_
    intro v30 ev30
    have f31 : Int32.toInt (v25 + 1) = Int32.toInt v25 + Int32.toInt (1 : Int32) := aAD _ _ ⟨by omega, by omega⟩
    rw [← ev30] at f31
    exact hpost _ _ _ _ aCH ⟨by omega, by omega⟩ yG
  · skip
    have c3 := mt (zJ _ _).mpr c3
    have j32 := ar_lt (x1 := x1) (d := x3) (by assumption) (by assumption) zM (by assumption) (by omega)
    intro v33 ev33
    have f34 : Int32.toInt (x3 + 1) = Int32.toInt x3 + Int32.toInt (1 : Int32) := aAD _ _ ⟨by omega, by omega⟩
    rw [← ev33] at f34
    exact hKn x1 x2 v33 bL bY sW aBK aBN ⟨by omega, by omega⟩ yJ yG (by assumption) (by omega)
set_option maxHeartbeats 8000000 in
set_option maxRecDepth 200000 in
theorem tb_X10_allripe_39 {post : Int32 → Int32 → Int32 → (Nat → Int32) → Prop} {SB : Int} (bT : Int32) (qG pW qR : Nat → Int32) (xJ : 0 ≤ Int32.toInt bT ∧ Int32.toInt bT ≤ 16) (xU : ∀ k : Nat, k = 17 → -1 ≤ Int32.toInt (qG k) ∧ Int32.toInt (qG k) ≤ SB) (xV : ∀ k : Nat, k = 19 → 0 ≤ Int32.toInt (qG k) ∧ Int32.toInt (qG k) ≤ 9) (yR : ∀ k : Nat, 0 ≤ Int32.toInt (pW k) ∧ Int32.toInt (pW k) ≤ 9) (zM : ∀ k : Nat, 0 ≤ Int32.toInt (qR k) ∧ Int32.toInt (qR k) ≤ 9) (hc0 : -1 ≤ SB ∧ SB ≤ 7) (hpost : ∀ (r : Int32) (xM : Int32) (xG : Int32) (aBX : Nat → Int32), (0 ≤ Int32.toInt r ∧ Int32.toInt r ≤ 9) → (2 ≤ Int32.toInt xM ∧ Int32.toInt xM ≤ 2) → (0 ≤ Int32.toInt xG ∧ Int32.toInt xG ≤ 0) → post r xM xG aBX) : ∀ (n : Nat) (x1 x2 x3 bL bY : Int32) (sW : Nat → Int32), (0 ≤ Int32.toInt x1 ∧ Int32.toInt x1 ≤ 65535) → (0 ≤ Int32.toInt x2 ∧ Int32.toInt x2 ≤ 65535) → (0 ≤ Int32.toInt x3 ∧ Int32.toInt x3 ≤ 9) → (0 ≤ Int32.toInt bL ∧ Int32.toInt bL ≤ 16) → (0 ≤ Int32.toInt bY ∧ Int32.toInt bY ≤ 0) → (x1 = (bsf (Int32.toInt bT).toNat (fun k => decide (qG k = 0)))) → (9 - Int32.toInt x3 < (n : Int)) → wb_X10_allripe_39 post bT qG pW qR n x1 x2 x3 bL bY sW := by
  intro n
  induction n with
  | zero =>
    intro x1 x2 x3 bL bY sW aBK aBN aCH yJ yG hx0 hm
    exfalso; omega
  | succ n ih =>
    intro x1 x2 x3 bL bY sW aBK aBN aCH yJ yG hx0 hm
    exact ts_X10_allripe_39 bT qG pW qR xJ xU xV yR zM hc0 hpost ih x1 x2 x3 bL bY sW aBK aBN aCH yJ yG hx0 (by omega)
set_option maxHeartbeats 8000000 in
set_option maxRecDepth 200000 in
theorem t_X10_allripe {post : Int32 → Int32 → Int32 → (Nat → Int32) → Prop} {SB : Int} {bT bL bY : Int32} {qG pW qR sW : Nat → Int32} (xJ : 0 ≤ Int32.toInt bT ∧ Int32.toInt bT ≤ 16) (yJ : 0 ≤ Int32.toInt bL ∧ Int32.toInt bL ≤ 16) (yG : 0 ≤ Int32.toInt bY ∧ Int32.toInt bY ≤ 1) (xU : ∀ k : Nat, k = 17 → -1 ≤ Int32.toInt (qG k) ∧ Int32.toInt (qG k) ≤ SB) (xV : ∀ k : Nat, k = 19 → 0 ≤ Int32.toInt (qG k) ∧ Int32.toInt (qG k) ≤ 9) (yR : ∀ k : Nat, 0 ≤ Int32.toInt (pW k) ∧ Int32.toInt (pW k) ≤ 9) (zM : ∀ k : Nat, 0 ≤ Int32.toInt (qR k) ∧ Int32.toInt (qR k) ≤ 9) (hc0 : -1 ≤ SB ∧ SB ≤ 7) (hpost : ∀ (r : Int32) (xM : Int32) (xG : Int32) (aBX : Nat → Int32), (0 ≤ Int32.toInt r ∧ Int32.toInt r ≤ 9) → (2 ≤ Int32.toInt xM ∧ Int32.toInt xM ≤ 2) → (0 ≤ Int32.toInt xG ∧ Int32.toInt xG ≤ 0) → post r xM xG aBX) : wp_X10_allripe post bT bL bY qG pW qR sW := by
  have l0 := aE0
  have l1 := li_19
  refine aKO ⟨by omega, by omega⟩ xJ xU xV (by omega) (fun r35 h_r35 ox36 => ?_)
  have q37 := xV (19 : Int32).toNatClampNeg (by have e9 : (19 : Int32).toNatClampNeg = (Int32.toInt (19 : Int32)).toNat := rfl; omega)
  intro v38 ev38
  have hv38 := congrArg Int32.toInt ev38
  refine aXh ⟨by omega, by omega⟩ xJ zM (fun r40 h_r40 ox41 => ?_)
  intro v42 ev42
  have f44 := aBx r35 (r40 ^^^ (-1)) (by omega)
  have hv42 := congrArg Int32.toInt ev42
  have q45 := xV (19 : Int32).toNatClampNeg (by have e9 : (19 : Int32).toNatClampNeg = (Int32.toInt (19 : Int32)).toNat := rfl; omega)
  intro v46 ev46
  have hv46 := congrArg Int32.toInt ev46
  exact ⟨11, tb_X10_allripe_39 bT qG pW qR xJ xU xV yR zM hc0 hpost _ r35 v42 v46 bL 0 sW h_r35 ⟨by omega, by omega⟩ ⟨by omega, by omega⟩ yJ ⟨by omega, by omega⟩ (by assumption) (by omega)⟩
set_option maxHeartbeats 8000000 in
set_option maxRecDepth 200000 in
theorem ts_X10_grass_80 {post : Int32 → Int32 → Int32 → Int32 → Nat → Int32 → Int32 → Int32 → Int32 → (Nat → Int32) → (Nat → Int32) → (Nat → Int32) → Prop} {K41 : Int32 → Int32 → Int32 → Int32 → Int32 → Int32 → Nat → Int32 → Int32 → Int32 → Int32 → (Nat → Int32) → (Nat → Int32) → (Nat → Int32) → Prop} {n41 : Int} (aG : Int32) (nG qO qQ : Nat → Int32) (vZ : 0 ≤ Int32.toInt aG ∧ Int32.toInt aG ≤ 8) (xT : ∀ k : Nat, 0 ≤ Int32.toInt (nG k) ∧ Int32.toInt (nG k) ≤ 99) (zG : ∀ k : Nat, -128 ≤ Int32.toInt (qO k) ∧ Int32.toInt (qO k) ≤ 127) (zI : ∀ k : Nat, -128 ≤ Int32.toInt (qQ k) ∧ Int32.toInt (qQ k) ≤ 127) (hpost : ∀ (r : Int32) (aBT : Int32) (xM : Int32) (xG : Int32) (aAP : Nat) (zS : Int32) (aAz : Int32) (aAm : Int32) (zH : Int32) (aBX : Nat → Int32) (aDo : Nat → Int32) (aOe : Nat → Int32), (0 ≤ Int32.toInt aBT ∧ Int32.toInt aBT ≤ 0) → (0 ≤ Int32.toInt xM ∧ Int32.toInt xM ≤ 16) → (0 ≤ Int32.toInt xG ∧ Int32.toInt xG ≤ 0) → (aAP = 1) → (0 ≤ Int32.toInt zS ∧ Int32.toInt zS ≤ 80) → (80 ≤ Int32.toInt aAz ∧ Int32.toInt aAz ≤ 80) → (0 ≤ Int32.toInt aAm ∧ Int32.toInt aAm ≤ 80) → (-1 ≤ Int32.toInt zH ∧ Int32.toInt zH ≤ 80) → (∀ k : Nat, 0 ≤ Int32.toInt (aDo k) ∧ Int32.toInt (aDo k) ≤ 99) → post r aBT xM xG aAP zS aAz aAm zH aBX aDo aOe) (hK41 : ∀ (x1 : Int32) (x2 : Int32) (x3 : Int32) (jC : Int32) (bL : Int32) (bY : Int32) (jD : Nat) (m_length : Int32) (oF : Int32) (rP : Int32) (dQ : Int32) (sW : Nat → Int32) (uZ : Nat → Int32) (vY : Nat → Int32), (0 ≤ Int32.toInt x1 ∧ Int32.toInt x1 ≤ 99) → (0 ≤ Int32.toInt x2 ∧ Int32.toInt x2 ≤ 7) → (0 ≤ Int32.toInt x3 ∧ Int32.toInt x3 ≤ 1) → (0 ≤ Int32.toInt jC ∧ Int32.toInt jC ≤ 0) → (0 ≤ Int32.toInt bL ∧ Int32.toInt bL ≤ 16) → (0 ≤ Int32.toInt bY ∧ Int32.toInt bY ≤ 0) → (jD = 1) → (0 ≤ Int32.toInt m_length ∧ Int32.toInt m_length ≤ 80) → (80 ≤ Int32.toInt oF ∧ Int32.toInt oF ≤ 80) → (0 ≤ Int32.toInt rP ∧ Int32.toInt rP ≤ 80) → (-1 ≤ Int32.toInt dQ ∧ Int32.toInt dQ ≤ 80) → (∀ k : Nat, 0 ≤ Int32.toInt (uZ k) ∧ Int32.toInt (uZ k) ≤ 99) → (Int32.toInt x2 ≤ 6 ∨ Int32.toInt dQ ≠ -1) → (7 - Int32.toInt x2 < n41) → K41 x1 x2 x3 jC bL bY jD m_length oF rP dQ sW uZ vY) (x1 x2 jC bL bY : Int32) (jD : Nat) (m_length oF rP dQ : Int32) (sW uZ vY : Nat → Int32) (aBK : 0 ≤ Int32.toInt x1 ∧ Int32.toInt x1 ≤ 99) (aBN : 0 ≤ Int32.toInt x2 ∧ Int32.toInt x2 ≤ 6) (aA4 : 0 ≤ Int32.toInt jC ∧ Int32.toInt jC ≤ 0) (yJ : 0 ≤ Int32.toInt bL ∧ Int32.toInt bL ≤ 16) (yG : 0 ≤ Int32.toInt bY ∧ Int32.toInt bY ≤ 0) (yM : jD = 1) (zE : 0 ≤ Int32.toInt m_length ∧ Int32.toInt m_length ≤ 80) (aAR : 80 ≤ Int32.toInt oF ∧ Int32.toInt oF ≤ 80) (aA1 : 0 ≤ Int32.toInt rP ∧ Int32.toInt rP ≤ 80) (aAA : -1 ≤ Int32.toInt dQ ∧ Int32.toInt dQ ≤ 80) (aBW : ∀ k : Nat, 0 ≤ Int32.toInt (uZ k) ∧ Int32.toInt (uZ k) ≤ 99) (hx0 : Int32.toInt x2 ≤ 5 ∨ Int32.toInt dQ ≠ -1) (hn41 : 7 - Int32.toInt x2 ≤ n41) : ws_X10_grass_80 post K41 aG nG qO qQ x1 x2 jC bL bY jD m_length oF rP dQ sW uZ vY := by
  have l0 := aI2
  have l1 := aE0
  have l2 := aEc
  have l3 := li_44
  intro v1 ev1
  have f2 : Int32.toInt (x2 + 1) = Int32.toInt x2 + Int32.toInt (1 : Int32) := aAD _ _ ⟨by omega, by omega⟩
  rw [← ev1] at f2
  refine And.intro (fun c3 => ?_) (fun c3 => ?_)
  · skip
    have c3 := mt (zJ _ _).mpr c3
    refine And.intro (fun _ => ?_) (fun h9 => absurd h9 (by decide))
    exact hK41 x1 v1 0 jC bL bY jD m_length oF rP dQ sW uZ vY aBK ⟨by omega, by omega⟩ ⟨by omega, by omega⟩ aA4 yJ yG yM zE aAR aA1 aAA aBW (by omega) (by omega)
  · skip
    have c3 := (zJ _ _).mp c3
    refine And.intro (fun h9 => absurd h9 (by decide)) (fun _ => ?_)
    refine aOq (by first | exact yM | exact Or.inl rfl | exact Or.inr rfl | omega) zE ⟨by omega, by omega⟩ aA1 zG zI (by omega) (fun r4 h_r4 ox5 ox6 => ?_)
    refine And.intro (fun c7 => ?_) (fun c7 => ?_)
    · skip
      have c7 := (zJ _ _).mp c7
      intro v8 ev8
      have f9 : Int32.toInt (rP + 1) = Int32.toInt rP + Int32.toInt (1 : Int32) := aAD _ _ ⟨by omega, by omega⟩
      rw [← ev8] at f9
      exact hK41 x1 v1 1 jC bL bY jD m_length oF v8 dQ sW uZ vY aBK ⟨by omega, by omega⟩ ⟨by omega, by omega⟩ aA4 yJ yG yM zE aAR ⟨by omega, by omega⟩ aAA aBW (by omega) (by omega)
    · skip
      have c7 := mt (zJ _ _).mpr c7
      exact hK41 x1 v1 0 jC bL bY jD m_length oF rP dQ sW uZ vY aBK ⟨by omega, by omega⟩ ⟨by omega, by omega⟩ aA4 yJ yG yM zE aAR aA1 aAA aBW (by omega) (by omega)
set_option maxHeartbeats 8000000 in
set_option maxRecDepth 200000 in
theorem ts_X10_grass_337 {post : Int32 → Int32 → Int32 → Int32 → Nat → Int32 → Int32 → Int32 → Int32 → (Nat → Int32) → (Nat → Int32) → (Nat → Int32) → Prop} {K300 : Int32 → Int32 → Int32 → Int32 → Int32 → Int32 → Int32 → Nat → Int32 → Int32 → Int32 → Int32 → (Nat → Int32) → (Nat → Int32) → (Nat → Int32) → Prop} {K314 : Int32 → Int32 → Int32 → Int32 → Int32 → Int32 → Int32 → Int32 → Nat → Int32 → Int32 → Int32 → Int32 → (Nat → Int32) → (Nat → Int32) → (Nat → Int32) → Prop} {n300 n314 : Int} (aG : Int32) (nG qO qQ : Nat → Int32) (vZ : 0 ≤ Int32.toInt aG ∧ Int32.toInt aG ≤ 8) (xT : ∀ k : Nat, 0 ≤ Int32.toInt (nG k) ∧ Int32.toInt (nG k) ≤ 99) (zG : ∀ k : Nat, -128 ≤ Int32.toInt (qO k) ∧ Int32.toInt (qO k) ≤ 127) (zI : ∀ k : Nat, -128 ≤ Int32.toInt (qQ k) ∧ Int32.toInt (qQ k) ≤ 127) (hpost : ∀ (r : Int32) (aBT : Int32) (xM : Int32) (xG : Int32) (aAP : Nat) (zS : Int32) (aAz : Int32) (aAm : Int32) (zH : Int32) (aBX : Nat → Int32) (aDo : Nat → Int32) (aOe : Nat → Int32), (0 ≤ Int32.toInt aBT ∧ Int32.toInt aBT ≤ 0) → (0 ≤ Int32.toInt xM ∧ Int32.toInt xM ≤ 16) → (0 ≤ Int32.toInt xG ∧ Int32.toInt xG ≤ 0) → (aAP = 1) → (0 ≤ Int32.toInt zS ∧ Int32.toInt zS ≤ 80) → (80 ≤ Int32.toInt aAz ∧ Int32.toInt aAz ≤ 80) → (0 ≤ Int32.toInt aAm ∧ Int32.toInt aAm ≤ 80) → (-1 ≤ Int32.toInt zH ∧ Int32.toInt zH ≤ 80) → (∀ k : Nat, 0 ≤ Int32.toInt (aDo k) ∧ Int32.toInt (aDo k) ≤ 99) → post r aBT xM xG aAP zS aAz aAm zH aBX aDo aOe) (hK300 : ∀ (x2 : Int32) (x4 : Int32) (x5 : Int32) (x6 : Int32) (jC : Int32) (bL : Int32) (bY : Int32) (jD : Nat) (m_length : Int32) (oF : Int32) (rP : Int32) (dQ : Int32) (sW : Nat → Int32) (uZ : Nat → Int32) (vY : Nat → Int32), (0 ≤ Int32.toInt x2 ∧ Int32.toInt x2 ≤ 7) → (-1 ≤ Int32.toInt x5 ∧ Int32.toInt x5 ≤ 7) → (0 ≤ Int32.toInt x6 ∧ Int32.toInt x6 ≤ 6) → (0 ≤ Int32.toInt jC ∧ Int32.toInt jC ≤ 0) → (0 ≤ Int32.toInt bL ∧ Int32.toInt bL ≤ 16) → (0 ≤ Int32.toInt bY ∧ Int32.toInt bY ≤ 0) → (jD = 1) → (0 ≤ Int32.toInt m_length ∧ Int32.toInt m_length ≤ 80) → (80 ≤ Int32.toInt oF ∧ Int32.toInt oF ≤ 80) → (0 ≤ Int32.toInt rP ∧ Int32.toInt rP ≤ 80) → (-1 ≤ Int32.toInt dQ ∧ Int32.toInt dQ ≤ -1) → (∀ k : Nat, 0 ≤ Int32.toInt (uZ k) ∧ Int32.toInt (uZ k) ≤ 99) → (GD vY x2 aG (-1) 0) → (NX vY x2 aG x6 x5 x4) → (Int32.toInt bL ≤ Int32.toInt x6) → (Int32.toInt x6 ≤ Int32.toInt x2 ∨ Int32.toInt x6 = 0) → (Int32.toInt x2 ≤ 6) → (6 - Int32.toInt x6 < n300) → K300 x2 x4 x5 x6 jC bL bY jD m_length oF rP dQ sW uZ vY) (hK314 : ∀ (x2 : Int32) (x4 : Int32) (x5 : Int32) (x6 : Int32) (x7 : Int32) (jC : Int32) (bL : Int32) (bY : Int32) (jD : Nat) (m_length : Int32) (oF : Int32) (rP : Int32) (dQ : Int32) (sW : Nat → Int32) (uZ : Nat → Int32) (vY : Nat → Int32), (1 ≤ Int32.toInt x2 ∧ Int32.toInt x2 ≤ 7) → (1 ≤ Int32.toInt x4 ∧ Int32.toInt x4 ≤ 2147483647) → (-1 ≤ Int32.toInt x5 ∧ Int32.toInt x5 ≤ 7) → (0 ≤ Int32.toInt x6 ∧ Int32.toInt x6 ≤ 6) → (0 ≤ Int32.toInt x7 ∧ Int32.toInt x7 ≤ 7) → (0 ≤ Int32.toInt jC ∧ Int32.toInt jC ≤ 0) → (0 ≤ Int32.toInt bL ∧ Int32.toInt bL ≤ 16) → (0 ≤ Int32.toInt bY ∧ Int32.toInt bY ≤ 0) → (jD = 1) → (0 ≤ Int32.toInt m_length ∧ Int32.toInt m_length ≤ 80) → (80 ≤ Int32.toInt oF ∧ Int32.toInt oF ≤ 80) → (0 ≤ Int32.toInt rP ∧ Int32.toInt rP ≤ 80) → (-1 ≤ Int32.toInt dQ ∧ Int32.toInt dQ ≤ -1) → (∀ k : Nat, 0 ≤ Int32.toInt (uZ k) ∧ Int32.toInt (uZ k) ≤ 99) → (GD vY x2 aG (-1) 0) → (Int32.toInt bL ≤ Int32.toInt x6) → (Int32.toInt x6 < Int32.toInt x2) → (Int32.toInt x2 ≤ 6) → (0 < Int32.toInt x4) → (EX vY aG x6 x5 x7) → (6 - Int32.toInt x6 ≤ n300) → (7 - Int32.toInt x7 < n314) → K314 x2 x4 x5 x6 x7 jC bL bY jD m_length oF rP dQ sW uZ vY) (x2 x4 x5 x6 x7 jC bL bY : Int32) (jD : Nat) (m_length oF rP dQ : Int32) (sW uZ vY : Nat → Int32) (aBN : 1 ≤ Int32.toInt x2 ∧ Int32.toInt x2 ≤ 7) (aDO : 1 ≤ Int32.toInt x4 ∧ Int32.toInt x4 ≤ 2147483647) (aF7 : -1 ≤ Int32.toInt x5 ∧ Int32.toInt x5 ≤ 7) (h_x6 : 0 ≤ Int32.toInt x6 ∧ Int32.toInt x6 ≤ 6) (h_x7 : 0 ≤ Int32.toInt x7 ∧ Int32.toInt x7 ≤ 7) (aA4 : 0 ≤ Int32.toInt jC ∧ Int32.toInt jC ≤ 0) (yJ : 0 ≤ Int32.toInt bL ∧ Int32.toInt bL ≤ 16) (yG : 0 ≤ Int32.toInt bY ∧ Int32.toInt bY ≤ 0) (yM : jD = 1) (zE : 0 ≤ Int32.toInt m_length ∧ Int32.toInt m_length ≤ 80) (aAR : 80 ≤ Int32.toInt oF ∧ Int32.toInt oF ≤ 80) (aA1 : 0 ≤ Int32.toInt rP ∧ Int32.toInt rP ≤ 80) (aAA : -1 ≤ Int32.toInt dQ ∧ Int32.toInt dQ ≤ -1) (aBW : ∀ k : Nat, 0 ≤ Int32.toInt (uZ k) ∧ Int32.toInt (uZ k) ≤ 99) (hx0 : GD vY x2 aG (-1) 0) (hx1 : Int32.toInt bL ≤ Int32.toInt x6) (hx2 : Int32.toInt x6 < Int32.toInt x2) (hx3 : Int32.toInt x2 ≤ 6) (hx4 : 0 < Int32.toInt x4) (hx5 : EX1 vY aG x6 x5 x7) (hn300 : 6 - Int32.toInt x6 ≤ n300) (hn314 : 7 - Int32.toInt x7 ≤ n314) : ws_X10_grass_337 post K300 K314 aG nG qO qQ x2 x4 x5 x6 x7 jC bL bY jD m_length oF rP dQ sW uZ vY := by
  have l0 := aEc
  have j10 := EX1_le (x := x7) (by assumption) (by omega)
  intro v11 ev11
  have f12 : Int32.toInt (x7 + 1) = Int32.toInt x7 + Int32.toInt (1 : Int32) := aAD _ _ ⟨by omega, by omega⟩
  rw [← ev11] at f12
  have f13 := aAT x4
  exact hK314 x2 x4 x5 x6 v11 jC bL bY jD m_length oF rP dQ sW uZ vY aBN aDO aF7 h_x6 ⟨by omega, by omega⟩ aA4 yJ yG yM zE aAR aA1 aAA aBW (by first | assumption | exact GD_init (by omega) | exact GD_dn (by assumption) (by omega) (by omega) | exact GD_s (by assumption) (by omega) | exact GD_eq (by assumption) (by omega)) hx1 hx2 hx3 hx4 (by first | assumption | exact EX_0 (by assumption) (by omega) (by omega) | exact EX_s (by assumption) (by omega)) hn300 (by omega)
set_option maxHeartbeats 8000000 in
set_option maxRecDepth 200000 in
theorem ts_X10_grass_314 {post : Int32 → Int32 → Int32 → Int32 → Nat → Int32 → Int32 → Int32 → Int32 → (Nat → Int32) → (Nat → Int32) → (Nat → Int32) → Prop} {K300 : Int32 → Int32 → Int32 → Int32 → Int32 → Int32 → Int32 → Nat → Int32 → Int32 → Int32 → Int32 → (Nat → Int32) → (Nat → Int32) → (Nat → Int32) → Prop} {next : Int32 → Int32 → Int32 → Int32 → Int32 → Int32 → Int32 → Int32 → Nat → Int32 → Int32 → Int32 → Int32 → (Nat → Int32) → (Nat → Int32) → (Nat → Int32) → Prop} {n314 n300 : Int} (aG : Int32) (nG qO qQ : Nat → Int32) (vZ : 0 ≤ Int32.toInt aG ∧ Int32.toInt aG ≤ 8) (xT : ∀ k : Nat, 0 ≤ Int32.toInt (nG k) ∧ Int32.toInt (nG k) ≤ 99) (zG : ∀ k : Nat, -128 ≤ Int32.toInt (qO k) ∧ Int32.toInt (qO k) ≤ 127) (zI : ∀ k : Nat, -128 ≤ Int32.toInt (qQ k) ∧ Int32.toInt (qQ k) ≤ 127) (hpost : ∀ (r : Int32) (aBT : Int32) (xM : Int32) (xG : Int32) (aAP : Nat) (zS : Int32) (aAz : Int32) (aAm : Int32) (zH : Int32) (aBX : Nat → Int32) (aDo : Nat → Int32) (aOe : Nat → Int32), (0 ≤ Int32.toInt aBT ∧ Int32.toInt aBT ≤ 0) → (0 ≤ Int32.toInt xM ∧ Int32.toInt xM ≤ 16) → (0 ≤ Int32.toInt xG ∧ Int32.toInt xG ≤ 0) → (aAP = 1) → (0 ≤ Int32.toInt zS ∧ Int32.toInt zS ≤ 80) → (80 ≤ Int32.toInt aAz ∧ Int32.toInt aAz ≤ 80) → (0 ≤ Int32.toInt aAm ∧ Int32.toInt aAm ≤ 80) → (-1 ≤ Int32.toInt zH ∧ Int32.toInt zH ≤ 80) → (∀ k : Nat, 0 ≤ Int32.toInt (aDo k) ∧ Int32.toInt (aDo k) ≤ 99) → post r aBT xM xG aAP zS aAz aAm zH aBX aDo aOe) (hK300 : ∀ (x2 : Int32) (x4 : Int32) (x5 : Int32) (x6 : Int32) (jC : Int32) (bL : Int32) (bY : Int32) (jD : Nat) (m_length : Int32) (oF : Int32) (rP : Int32) (dQ : Int32) (sW : Nat → Int32) (uZ : Nat → Int32) (vY : Nat → Int32), (0 ≤ Int32.toInt x2 ∧ Int32.toInt x2 ≤ 7) → (-1 ≤ Int32.toInt x5 ∧ Int32.toInt x5 ≤ 7) → (0 ≤ Int32.toInt x6 ∧ Int32.toInt x6 ≤ 6) → (0 ≤ Int32.toInt jC ∧ Int32.toInt jC ≤ 0) → (0 ≤ Int32.toInt bL ∧ Int32.toInt bL ≤ 16) → (0 ≤ Int32.toInt bY ∧ Int32.toInt bY ≤ 0) → (jD = 1) → (0 ≤ Int32.toInt m_length ∧ Int32.toInt m_length ≤ 80) → (80 ≤ Int32.toInt oF ∧ Int32.toInt oF ≤ 80) → (0 ≤ Int32.toInt rP ∧ Int32.toInt rP ≤ 80) → (-1 ≤ Int32.toInt dQ ∧ Int32.toInt dQ ≤ -1) → (∀ k : Nat, 0 ≤ Int32.toInt (uZ k) ∧ Int32.toInt (uZ k) ≤ 99) → (GD vY x2 aG (-1) 0) → (NX vY x2 aG x6 x5 x4) → (Int32.toInt bL ≤ Int32.toInt x6) → (Int32.toInt x6 ≤ Int32.toInt x2 ∨ Int32.toInt x6 = 0) → (Int32.toInt x2 ≤ 6) → (6 - Int32.toInt x6 < n300) → K300 x2 x4 x5 x6 jC bL bY jD m_length oF rP dQ sW uZ vY) (hKn : ∀ (x2 : Int32) (x4 : Int32) (x5 : Int32) (x6 : Int32) (x7 : Int32) (jC : Int32) (bL : Int32) (bY : Int32) (jD : Nat) (m_length : Int32) (oF : Int32) (rP : Int32) (dQ : Int32) (sW : Nat → Int32) (uZ : Nat → Int32) (vY : Nat → Int32), (1 ≤ Int32.toInt x2 ∧ Int32.toInt x2 ≤ 7) → (1 ≤ Int32.toInt x4 ∧ Int32.toInt x4 ≤ 2147483647) → (-1 ≤ Int32.toInt x5 ∧ Int32.toInt x5 ≤ 7) → (0 ≤ Int32.toInt x6 ∧ Int32.toInt x6 ≤ 6) → (0 ≤ Int32.toInt x7 ∧ Int32.toInt x7 ≤ 7) → (0 ≤ Int32.toInt jC ∧ Int32.toInt jC ≤ 0) → (0 ≤ Int32.toInt bL ∧ Int32.toInt bL ≤ 16) → (0 ≤ Int32.toInt bY ∧ Int32.toInt bY ≤ 0) → (jD = 1) → (0 ≤ Int32.toInt m_length ∧ Int32.toInt m_length ≤ 80) → (80 ≤ Int32.toInt oF ∧ Int32.toInt oF ≤ 80) → (0 ≤ Int32.toInt rP ∧ Int32.toInt rP ≤ 80) → (-1 ≤ Int32.toInt dQ ∧ Int32.toInt dQ ≤ -1) → (∀ k : Nat, 0 ≤ Int32.toInt (uZ k) ∧ Int32.toInt (uZ k) ≤ 99) → (GD vY x2 aG (-1) 0) → (Int32.toInt bL ≤ Int32.toInt x6) → (Int32.toInt x6 < Int32.toInt x2) → (Int32.toInt x2 ≤ 6) → (0 < Int32.toInt x4) → (EX vY aG x6 x5 x7) → (6 - Int32.toInt x6 ≤ n300) → (7 - Int32.toInt x7 < n314) → next x2 x4 x5 x6 x7 jC bL bY jD m_length oF rP dQ sW uZ vY) (x2 x4 x5 x6 x7 jC bL bY : Int32) (jD : Nat) (m_length oF rP dQ : Int32) (sW uZ vY : Nat → Int32) (aBN : 1 ≤ Int32.toInt x2 ∧ Int32.toInt x2 ≤ 7) (aDO : 1 ≤ Int32.toInt x4 ∧ Int32.toInt x4 ≤ 2147483647) (aF7 : -1 ≤ Int32.toInt x5 ∧ Int32.toInt x5 ≤ 7) (h_x6 : 0 ≤ Int32.toInt x6 ∧ Int32.toInt x6 ≤ 6) (h_x7 : 0 ≤ Int32.toInt x7 ∧ Int32.toInt x7 ≤ 7) (aA4 : 0 ≤ Int32.toInt jC ∧ Int32.toInt jC ≤ 0) (yJ : 0 ≤ Int32.toInt bL ∧ Int32.toInt bL ≤ 16) (yG : 0 ≤ Int32.toInt bY ∧ Int32.toInt bY ≤ 0) (yM : jD = 1) (zE : 0 ≤ Int32.toInt m_length ∧ Int32.toInt m_length ≤ 80) (aAR : 80 ≤ Int32.toInt oF ∧ Int32.toInt oF ≤ 80) (aA1 : 0 ≤ Int32.toInt rP ∧ Int32.toInt rP ≤ 80) (aAA : -1 ≤ Int32.toInt dQ ∧ Int32.toInt dQ ≤ -1) (aBW : ∀ k : Nat, 0 ≤ Int32.toInt (uZ k) ∧ Int32.toInt (uZ k) ≤ 99) (hx0 : GD vY x2 aG (-1) 0) (hx1 : Int32.toInt bL ≤ Int32.toInt x6) (hx2 : Int32.toInt x6 < Int32.toInt x2) (hx3 : Int32.toInt x2 ≤ 6) (hx4 : 0 < Int32.toInt x4) (hx5 : EX vY aG x6 x5 x7) (hn300 : 6 - Int32.toInt x6 ≤ n300) (hn314 : 7 - Int32.toInt x7 ≤ n314) : ws_X10_grass_314 post K300 next aG nG qO qQ x2 x4 x5 x6 x7 jC bL bY jD m_length oF rP dQ sW uZ vY := by
  have l0 := aE0
  have l1 := aEc
  have l2 := li_8
  refine And.intro (fun c14 => ?_) (fun c14 => ?_)
  · skip
    have c14 := (zJ _ _).mp c14
    have f15 := aAT x4
    exact ts_X10_grass_337 aG nG qO qQ vZ xT zG zI hpost hK300 hKn x2 x4 x5 x6 x7 jC bL bY jD m_length oF rP dQ sW uZ vY aBN aDO aF7 h_x6 h_x7 aA4 yJ yG yM zE aAR aA1 aAA aBW (by first | assumption | exact GD_init (by omega) | exact GD_dn (by assumption) (by omega) (by omega) | exact GD_s (by assumption) (by omega) | exact GD_eq (by assumption) (by omega)) hx1 hx2 hx3 hx4 (by first | assumption | exact EX_l (by assumption) (by omega) | exact EX_r (by assumption) (by assumption) (by omega) (by omega) (by omega)) hn300 hn314
  · skip
    have c14 := mt (zJ _ _).mpr c14
    intro v16 ev16
    have f17 : Int32.toInt (8 * x6) = Int32.toInt x6 * 8 := ta_cmul _ _ (by decide) ⟨by omega, by omega⟩
    rw [← ev16] at f17
    intro v18 ev18
    have f19 : Int32.toInt (v16 + x7) = Int32.toInt v16 + Int32.toInt x7 := aAD _ _ ⟨by omega, by omega⟩
    rw [← ev18] at f19
    refine And.intro (aBZ ⟨by omega, by omega⟩) ?_
    refine And.intro (fun c20 => ?_) (fun c20 => ?_)
    · skip
      have c20 := mt (zJ _ _).mpr c20
      have j22 := EX_le (x := x7) (by assumption) (by omega)
      refine And.intro (aBZ ⟨by omega, by omega⟩) ?_
      intro v23 ev23
      have f24 : Int32.toInt (bL + 1) = Int32.toInt bL + Int32.toInt (1 : Int32) := aAD _ _ ⟨by omega, by omega⟩
      rw [← ev23] at f24
      intro v25 ev25
      have f26 : Int32.toInt (x6 + 1) = Int32.toInt x6 + Int32.toInt (1 : Int32) := aAD _ _ ⟨by omega, by omega⟩
      rw [← ev25] at f26
      have f27 := aAT x4
      exact hK300 x2 x4 x7 v25 jC v23 bY jD m_length oF rP dQ (upd sW bL.toNatClampNeg x7) uZ vY ⟨by omega, by omega⟩ ⟨by omega, by omega⟩ ⟨by omega, by omega⟩ aA4 ⟨by omega, by omega⟩ yG yM zE aAR aA1 aAA aBW (by first | assumption | exact GD_init (by omega) | exact GD_dn (by assumption) (by omega) (by omega) | exact GD_s (by assumption) (by omega) | exact GD_eq (by assumption) (by omega)) (by first | assumption | exact NX_0 (by assumption) | exact NX_s (k := x6) (by assumption) (by assumption) (by omega) (by omega) (by omega) (by omega)) (by omega) (by omega) hx3 (by omega)
    · skip
      have c20 := (zJ _ _).mp c20
      have f28 := aAT x4
      exact ts_X10_grass_337 aG nG qO qQ vZ xT zG zI hpost hK300 hKn x2 x4 x5 x6 x7 jC bL bY jD m_length oF rP dQ sW uZ vY aBN aDO aF7 h_x6 h_x7 aA4 yJ yG yM zE aAR aA1 aAA aBW (by first | assumption | exact GD_init (by omega) | exact GD_dn (by assumption) (by omega) (by omega) | exact GD_s (by assumption) (by omega) | exact GD_eq (by assumption) (by omega)) hx1 hx2 hx3 hx4 (by first | assumption | exact EX_l (by assumption) (by omega) | exact EX_r (by assumption) (by assumption) (by omega) (by omega) (by omega)) hn300 hn314
set_option maxHeartbeats 8000000 in
set_option maxRecDepth 200000 in
theorem tb_X10_grass_314 {post : Int32 → Int32 → Int32 → Int32 → Nat → Int32 → Int32 → Int32 → Int32 → (Nat → Int32) → (Nat → Int32) → (Nat → Int32) → Prop} {K300 : Int32 → Int32 → Int32 → Int32 → Int32 → Int32 → Int32 → Nat → Int32 → Int32 → Int32 → Int32 → (Nat → Int32) → (Nat → Int32) → (Nat → Int32) → Prop} {n300 : Int} (aG : Int32) (nG qO qQ : Nat → Int32) (vZ : 0 ≤ Int32.toInt aG ∧ Int32.toInt aG ≤ 8) (xT : ∀ k : Nat, 0 ≤ Int32.toInt (nG k) ∧ Int32.toInt (nG k) ≤ 99) (zG : ∀ k : Nat, -128 ≤ Int32.toInt (qO k) ∧ Int32.toInt (qO k) ≤ 127) (zI : ∀ k : Nat, -128 ≤ Int32.toInt (qQ k) ∧ Int32.toInt (qQ k) ≤ 127) (hpost : ∀ (r : Int32) (aBT : Int32) (xM : Int32) (xG : Int32) (aAP : Nat) (zS : Int32) (aAz : Int32) (aAm : Int32) (zH : Int32) (aBX : Nat → Int32) (aDo : Nat → Int32) (aOe : Nat → Int32), (0 ≤ Int32.toInt aBT ∧ Int32.toInt aBT ≤ 0) → (0 ≤ Int32.toInt xM ∧ Int32.toInt xM ≤ 16) → (0 ≤ Int32.toInt xG ∧ Int32.toInt xG ≤ 0) → (aAP = 1) → (0 ≤ Int32.toInt zS ∧ Int32.toInt zS ≤ 80) → (80 ≤ Int32.toInt aAz ∧ Int32.toInt aAz ≤ 80) → (0 ≤ Int32.toInt aAm ∧ Int32.toInt aAm ≤ 80) → (-1 ≤ Int32.toInt zH ∧ Int32.toInt zH ≤ 80) → (∀ k : Nat, 0 ≤ Int32.toInt (aDo k) ∧ Int32.toInt (aDo k) ≤ 99) → post r aBT xM xG aAP zS aAz aAm zH aBX aDo aOe) (hK300 : ∀ (x2 : Int32) (x4 : Int32) (x5 : Int32) (x6 : Int32) (jC : Int32) (bL : Int32) (bY : Int32) (jD : Nat) (m_length : Int32) (oF : Int32) (rP : Int32) (dQ : Int32) (sW : Nat → Int32) (uZ : Nat → Int32) (vY : Nat → Int32), (0 ≤ Int32.toInt x2 ∧ Int32.toInt x2 ≤ 7) → (-1 ≤ Int32.toInt x5 ∧ Int32.toInt x5 ≤ 7) → (0 ≤ Int32.toInt x6 ∧ Int32.toInt x6 ≤ 6) → (0 ≤ Int32.toInt jC ∧ Int32.toInt jC ≤ 0) → (0 ≤ Int32.toInt bL ∧ Int32.toInt bL ≤ 16) → (0 ≤ Int32.toInt bY ∧ Int32.toInt bY ≤ 0) → (jD = 1) → (0 ≤ Int32.toInt m_length ∧ Int32.toInt m_length ≤ 80) → (80 ≤ Int32.toInt oF ∧ Int32.toInt oF ≤ 80) → (0 ≤ Int32.toInt rP ∧ Int32.toInt rP ≤ 80) → (-1 ≤ Int32.toInt dQ ∧ Int32.toInt dQ ≤ -1) → (∀ k : Nat, 0 ≤ Int32.toInt (uZ k) ∧ Int32.toInt (uZ k) ≤ 99) → (GD vY x2 aG (-1) 0) → (NX vY x2 aG x6 x5 x4) → (Int32.toInt bL ≤ Int32.toInt x6) → (Int32.toInt x6 ≤ Int32.toInt x2 ∨ Int32.toInt x6 = 0) → (Int32.toInt x2 ≤ 6) → (6 - Int32.toInt x6 < n300) → K300 x2 x4 x5 x6 jC bL bY jD m_length oF rP dQ sW uZ vY) : ∀ (n : Nat) (x2 x4 x5 x6 x7 jC bL bY : Int32) (jD : Nat) (m_length oF rP dQ : Int32) (sW uZ vY : Nat → Int32), (1 ≤ Int32.toInt x2 ∧ Int32.toInt x2 ≤ 7) → (1 ≤ Int32.toInt x4 ∧ Int32.toInt x4 ≤ 2147483647) → (-1 ≤ Int32.toInt x5 ∧ Int32.toInt x5 ≤ 7) → (0 ≤ Int32.toInt x6 ∧ Int32.toInt x6 ≤ 6) → (0 ≤ Int32.toInt x7 ∧ Int32.toInt x7 ≤ 7) → (0 ≤ Int32.toInt jC ∧ Int32.toInt jC ≤ 0) → (0 ≤ Int32.toInt bL ∧ Int32.toInt bL ≤ 16) → (0 ≤ Int32.toInt bY ∧ Int32.toInt bY ≤ 0) → (jD = 1) → (0 ≤ Int32.toInt m_length ∧ Int32.toInt m_length ≤ 80) → (80 ≤ Int32.toInt oF ∧ Int32.toInt oF ≤ 80) → (0 ≤ Int32.toInt rP ∧ Int32.toInt rP ≤ 80) → (-1 ≤ Int32.toInt dQ ∧ Int32.toInt dQ ≤ -1) → (∀ k : Nat, 0 ≤ Int32.toInt (uZ k) ∧ Int32.toInt (uZ k) ≤ 99) → (GD vY x2 aG (-1) 0) → (Int32.toInt bL ≤ Int32.toInt x6) → (Int32.toInt x6 < Int32.toInt x2) → (Int32.toInt x2 ≤ 6) → (0 < Int32.toInt x4) → (EX vY aG x6 x5 x7) → (6 - Int32.toInt x6 ≤ n300) → (7 - Int32.toInt x7 < (n : Int)) → wb_X10_grass_314 post K300 aG nG qO qQ n x2 x4 x5 x6 x7 jC bL bY jD m_length oF rP dQ sW uZ vY := by
  intro n
  induction n with
  | zero =>
    intro x2 x4 x5 x6 x7 jC bL bY jD m_length oF rP dQ sW uZ vY aBN aDO aF7 h_x6 h_x7 aA4 yJ yG yM zE aAR aA1 aAA aBW hx0 hx1 hx2 hx3 hx4 hx5 hn300 hm
    exfalso; omega
  | succ n ih =>
    intro x2 x4 x5 x6 x7 jC bL bY jD m_length oF rP dQ sW uZ vY aBN aDO aF7 h_x6 h_x7 aA4 yJ yG yM zE aAR aA1 aAA aBW hx0 hx1 hx2 hx3 hx4 hx5 hn300 hm
    exact ts_X10_grass_314 aG nG qO qQ vZ xT zG zI hpost hK300 ih x2 x4 x5 x6 x7 jC bL bY jD m_length oF rP dQ sW uZ vY aBN aDO aF7 h_x6 h_x7 aA4 yJ yG yM zE aAR aA1 aAA aBW hx0 hx1 hx2 hx3 hx4 hx5 hn300 (by omega)
set_option maxHeartbeats 8000000 in
set_option maxRecDepth 200000 in
theorem ts_X10_grass_300 {post : Int32 → Int32 → Int32 → Int32 → Nat → Int32 → Int32 → Int32 → Int32 → (Nat → Int32) → (Nat → Int32) → (Nat → Int32) → Prop} {next : Int32 → Int32 → Int32 → Int32 → Int32 → Int32 → Int32 → Nat → Int32 → Int32 → Int32 → Int32 → (Nat → Int32) → (Nat → Int32) → (Nat → Int32) → Prop} {n300 : Int} (aG : Int32) (nG qO qQ : Nat → Int32) (vZ : 0 ≤ Int32.toInt aG ∧ Int32.toInt aG ≤ 8) (xT : ∀ k : Nat, 0 ≤ Int32.toInt (nG k) ∧ Int32.toInt (nG k) ≤ 99) (zG : ∀ k : Nat, -128 ≤ Int32.toInt (qO k) ∧ Int32.toInt (qO k) ≤ 127) (zI : ∀ k : Nat, -128 ≤ Int32.toInt (qQ k) ∧ Int32.toInt (qQ k) ≤ 127) (hpost : ∀ (r : Int32) (aBT : Int32) (xM : Int32) (xG : Int32) (aAP : Nat) (zS : Int32) (aAz : Int32) (aAm : Int32) (zH : Int32) (aBX : Nat → Int32) (aDo : Nat → Int32) (aOe : Nat → Int32), (0 ≤ Int32.toInt aBT ∧ Int32.toInt aBT ≤ 0) → (0 ≤ Int32.toInt xM ∧ Int32.toInt xM ≤ 16) → (0 ≤ Int32.toInt xG ∧ Int32.toInt xG ≤ 0) → (aAP = 1) → (0 ≤ Int32.toInt zS ∧ Int32.toInt zS ≤ 80) → (80 ≤ Int32.toInt aAz ∧ Int32.toInt aAz ≤ 80) → (0 ≤ Int32.toInt aAm ∧ Int32.toInt aAm ≤ 80) → (-1 ≤ Int32.toInt zH ∧ Int32.toInt zH ≤ 80) → (∀ k : Nat, 0 ≤ Int32.toInt (aDo k) ∧ Int32.toInt (aDo k) ≤ 99) → post r aBT xM xG aAP zS aAz aAm zH aBX aDo aOe) (hKn : ∀ (x2 : Int32) (x4 : Int32) (x5 : Int32) (x6 : Int32) (jC : Int32) (bL : Int32) (bY : Int32) (jD : Nat) (m_length : Int32) (oF : Int32) (rP : Int32) (dQ : Int32) (sW : Nat → Int32) (uZ : Nat → Int32) (vY : Nat → Int32), (0 ≤ Int32.toInt x2 ∧ Int32.toInt x2 ≤ 7) → (-1 ≤ Int32.toInt x5 ∧ Int32.toInt x5 ≤ 7) → (0 ≤ Int32.toInt x6 ∧ Int32.toInt x6 ≤ 6) → (0 ≤ Int32.toInt jC ∧ Int32.toInt jC ≤ 0) → (0 ≤ Int32.toInt bL ∧ Int32.toInt bL ≤ 16) → (0 ≤ Int32.toInt bY ∧ Int32.toInt bY ≤ 0) → (jD = 1) → (0 ≤ Int32.toInt m_length ∧ Int32.toInt m_length ≤ 80) → (80 ≤ Int32.toInt oF ∧ Int32.toInt oF ≤ 80) → (0 ≤ Int32.toInt rP ∧ Int32.toInt rP ≤ 80) → (-1 ≤ Int32.toInt dQ ∧ Int32.toInt dQ ≤ -1) → (∀ k : Nat, 0 ≤ Int32.toInt (uZ k) ∧ Int32.toInt (uZ k) ≤ 99) → (GD vY x2 aG (-1) 0) → (NX vY x2 aG x6 x5 x4) → (Int32.toInt bL ≤ Int32.toInt x6) → (Int32.toInt x6 ≤ Int32.toInt x2 ∨ Int32.toInt x6 = 0) → (Int32.toInt x2 ≤ 6) → (6 - Int32.toInt x6 < n300) → next x2 x4 x5 x6 jC bL bY jD m_length oF rP dQ sW uZ vY) (x2 x4 x5 x6 jC bL bY : Int32) (jD : Nat) (m_length oF rP dQ : Int32) (sW uZ vY : Nat → Int32) (aBN : 0 ≤ Int32.toInt x2 ∧ Int32.toInt x2 ≤ 7) (aF7 : -1 ≤ Int32.toInt x5 ∧ Int32.toInt x5 ≤ 7) (h_x6 : 0 ≤ Int32.toInt x6 ∧ Int32.toInt x6 ≤ 6) (aA4 : 0 ≤ Int32.toInt jC ∧ Int32.toInt jC ≤ 0) (yJ : 0 ≤ Int32.toInt bL ∧ Int32.toInt bL ≤ 16) (yG : 0 ≤ Int32.toInt bY ∧ Int32.toInt bY ≤ 0) (yM : jD = 1) (zE : 0 ≤ Int32.toInt m_length ∧ Int32.toInt m_length ≤ 80) (aAR : 80 ≤ Int32.toInt oF ∧ Int32.toInt oF ≤ 80) (aA1 : 0 ≤ Int32.toInt rP ∧ Int32.toInt rP ≤ 80) (aAA : -1 ≤ Int32.toInt dQ ∧ Int32.toInt dQ ≤ -1) (aBW : ∀ k : Nat, 0 ≤ Int32.toInt (uZ k) ∧ Int32.toInt (uZ k) ≤ 99) (hx0 : GD vY x2 aG (-1) 0) (hx1 : NX vY x2 aG x6 x5 x4) (hx2 : Int32.toInt bL ≤ Int32.toInt x6) (hx3 : Int32.toInt x6 ≤ Int32.toInt x2 ∨ Int32.toInt x6 = 0) (hx4 : Int32.toInt x2 ≤ 6) (hn300 : 6 - Int32.toInt x6 ≤ n300) : ws_X10_grass_300 post next aG nG qO qQ x2 x4 x5 x6 jC bL bY jD m_length oF rP dQ sW uZ vY := by
  have l0 := aE0
  refine And.intro (fun c29 => ?_) (fun c29 => ?_)
  · skip
    have c29 := (aAO _ _).mp c29
    exact hpost _ _ _ _ _ _ _ _ _ _ _ _ aA4 yJ yG yM zE aAR aA1 ⟨by omega, by omega⟩ aBW
  · skip
    have c29 := mt (aAO _ _).mpr c29
    have f31 := aAT x4
    refine And.intro (fun c30 => ?_) (fun c30 => ?_)
    · skip
      have c30 := (aAO _ _).mp c30
      exact hpost _ _ _ _ _ _ _ _ _ _ _ _ aA4 yJ yG yM zE aAR aA1 ⟨by omega, by omega⟩ aBW
    · skip
      have c30 := mt (aAO _ _).mpr c30
      exact ⟨9, tb_X10_grass_314 aG nG qO qQ vZ xT zG zI hpost hKn _ x2 x4 x5 x6 0 jC bL bY jD m_length oF rP dQ sW uZ vY ⟨by omega, by omega⟩ ⟨by omega, by omega⟩ aF7 h_x6 ⟨by omega, by omega⟩ aA4 yJ yG yM zE aAR aA1 aAA aBW (by first | assumption | exact GD_init (by omega) | exact GD_dn (by assumption) (by omega) (by omega) | exact GD_s (by assumption) (by omega) | exact GD_eq (by assumption) (by omega)) hx2 (by omega) hx4 (by omega) (by first | assumption | exact EX_0 (by assumption) (by omega) (by omega) | exact EX_s (by assumption) (by omega)) hn300 (by omega)⟩
set_option maxHeartbeats 8000000 in
set_option maxRecDepth 200000 in
theorem tb_X10_grass_300 {post : Int32 → Int32 → Int32 → Int32 → Nat → Int32 → Int32 → Int32 → Int32 → (Nat → Int32) → (Nat → Int32) → (Nat → Int32) → Prop} (aG : Int32) (nG qO qQ : Nat → Int32) (vZ : 0 ≤ Int32.toInt aG ∧ Int32.toInt aG ≤ 8) (xT : ∀ k : Nat, 0 ≤ Int32.toInt (nG k) ∧ Int32.toInt (nG k) ≤ 99) (zG : ∀ k : Nat, -128 ≤ Int32.toInt (qO k) ∧ Int32.toInt (qO k) ≤ 127) (zI : ∀ k : Nat, -128 ≤ Int32.toInt (qQ k) ∧ Int32.toInt (qQ k) ≤ 127) (hpost : ∀ (r : Int32) (aBT : Int32) (xM : Int32) (xG : Int32) (aAP : Nat) (zS : Int32) (aAz : Int32) (aAm : Int32) (zH : Int32) (aBX : Nat → Int32) (aDo : Nat → Int32) (aOe : Nat → Int32), (0 ≤ Int32.toInt aBT ∧ Int32.toInt aBT ≤ 0) → (0 ≤ Int32.toInt xM ∧ Int32.toInt xM ≤ 16) → (0 ≤ Int32.toInt xG ∧ Int32.toInt xG ≤ 0) → (aAP = 1) → (0 ≤ Int32.toInt zS ∧ Int32.toInt zS ≤ 80) → (80 ≤ Int32.toInt aAz ∧ Int32.toInt aAz ≤ 80) → (0 ≤ Int32.toInt aAm ∧ Int32.toInt aAm ≤ 80) → (-1 ≤ Int32.toInt zH ∧ Int32.toInt zH ≤ 80) → (∀ k : Nat, 0 ≤ Int32.toInt (aDo k) ∧ Int32.toInt (aDo k) ≤ 99) → post r aBT xM xG aAP zS aAz aAm zH aBX aDo aOe) : ∀ (n : Nat) (x2 x4 x5 x6 jC bL bY : Int32) (jD : Nat) (m_length oF rP dQ : Int32) (sW uZ vY : Nat → Int32), (0 ≤ Int32.toInt x2 ∧ Int32.toInt x2 ≤ 7) → (-1 ≤ Int32.toInt x5 ∧ Int32.toInt x5 ≤ 7) → (0 ≤ Int32.toInt x6 ∧ Int32.toInt x6 ≤ 6) → (0 ≤ Int32.toInt jC ∧ Int32.toInt jC ≤ 0) → (0 ≤ Int32.toInt bL ∧ Int32.toInt bL ≤ 16) → (0 ≤ Int32.toInt bY ∧ Int32.toInt bY ≤ 0) → (jD = 1) → (0 ≤ Int32.toInt m_length ∧ Int32.toInt m_length ≤ 80) → (80 ≤ Int32.toInt oF ∧ Int32.toInt oF ≤ 80) → (0 ≤ Int32.toInt rP ∧ Int32.toInt rP ≤ 80) → (-1 ≤ Int32.toInt dQ ∧ Int32.toInt dQ ≤ -1) → (∀ k : Nat, 0 ≤ Int32.toInt (uZ k) ∧ Int32.toInt (uZ k) ≤ 99) → (GD vY x2 aG (-1) 0) → (NX vY x2 aG x6 x5 x4) → (Int32.toInt bL ≤ Int32.toInt x6) → (Int32.toInt x6 ≤ Int32.toInt x2 ∨ Int32.toInt x6 = 0) → (Int32.toInt x2 ≤ 6) → (6 - Int32.toInt x6 < (n : Int)) → wb_X10_grass_300 post aG nG qO qQ n x2 x4 x5 x6 jC bL bY jD m_length oF rP dQ sW uZ vY := by
  intro n
  induction n with
  | zero =>
    intro x2 x4 x5 x6 jC bL bY jD m_length oF rP dQ sW uZ vY aBN aF7 h_x6 aA4 yJ yG yM zE aAR aA1 aAA aBW hx0 hx1 hx2 hx3 hx4 hm
    exfalso; omega
  | succ n ih =>
    intro x2 x4 x5 x6 jC bL bY jD m_length oF rP dQ sW uZ vY aBN aF7 h_x6 aA4 yJ yG yM zE aAR aA1 aAA aBW hx0 hx1 hx2 hx3 hx4 hm
    exact ts_X10_grass_300 aG nG qO qQ vZ xT zG zI hpost ih x2 x4 x5 x6 jC bL bY jD m_length oF rP dQ sW uZ vY aBN aF7 h_x6 aA4 yJ yG yM zE aAR aA1 aAA aBW hx0 hx1 hx2 hx3 hx4 (by omega)
set_option maxHeartbeats 8000000 in
set_option maxRecDepth 200000 in
theorem ts_X10_grass_277 {post : Int32 → Int32 → Int32 → Int32 → Nat → Int32 → Int32 → Int32 → Int32 → (Nat → Int32) → (Nat → Int32) → (Nat → Int32) → Prop} {K134 : Int32 → Int32 → Int32 → Int32 → Int32 → Int32 → Int32 → Nat → Int32 → Int32 → Int32 → Int32 → (Nat → Int32) → (Nat → Int32) → (Nat → Int32) → Prop} {K142 : Int32 → Int32 → Int32 → Int32 → Int32 → Int32 → Int32 → Int32 → Nat → Int32 → Int32 → Int32 → Int32 → (Nat → Int32) → (Nat → Int32) → (Nat → Int32) → Prop} {n134 n142 : Int} (aG : Int32) (nG qO qQ : Nat → Int32) (vZ : 0 ≤ Int32.toInt aG ∧ Int32.toInt aG ≤ 8) (xT : ∀ k : Nat, 0 ≤ Int32.toInt (nG k) ∧ Int32.toInt (nG k) ≤ 99) (zG : ∀ k : Nat, -128 ≤ Int32.toInt (qO k) ∧ Int32.toInt (qO k) ≤ 127) (zI : ∀ k : Nat, -128 ≤ Int32.toInt (qQ k) ∧ Int32.toInt (qQ k) ≤ 127) (hpost : ∀ (r : Int32) (aBT : Int32) (xM : Int32) (xG : Int32) (aAP : Nat) (zS : Int32) (aAz : Int32) (aAm : Int32) (zH : Int32) (aBX : Nat → Int32) (aDo : Nat → Int32) (aOe : Nat → Int32), (0 ≤ Int32.toInt aBT ∧ Int32.toInt aBT ≤ 0) → (0 ≤ Int32.toInt xM ∧ Int32.toInt xM ≤ 16) → (0 ≤ Int32.toInt xG ∧ Int32.toInt xG ≤ 0) → (aAP = 1) → (0 ≤ Int32.toInt zS ∧ Int32.toInt zS ≤ 80) → (80 ≤ Int32.toInt aAz ∧ Int32.toInt aAz ≤ 80) → (0 ≤ Int32.toInt aAm ∧ Int32.toInt aAm ≤ 80) → (-1 ≤ Int32.toInt zH ∧ Int32.toInt zH ≤ 80) → (∀ k : Nat, 0 ≤ Int32.toInt (aDo k) ∧ Int32.toInt (aDo k) ≤ 99) → post r aBT xM xG aAP zS aAz aAm zH aBX aDo aOe) (hK134 : ∀ (x1 : Int32) (x2 : Int32) (x4 : Int32) (x5 : Int32) (jC : Int32) (bL : Int32) (bY : Int32) (jD : Nat) (m_length : Int32) (oF : Int32) (rP : Int32) (dQ : Int32) (sW : Nat → Int32) (uZ : Nat → Int32) (vY : Nat → Int32), (0 ≤ Int32.toInt x1 ∧ Int32.toInt x1 ≤ 99) → (0 ≤ Int32.toInt x2 ∧ Int32.toInt x2 ≤ 7) → (-1 ≤ Int32.toInt x5 ∧ Int32.toInt x5 ≤ 6) → (0 ≤ Int32.toInt jC ∧ Int32.toInt jC ≤ 0) → (0 ≤ Int32.toInt bL ∧ Int32.toInt bL ≤ 16) → (0 ≤ Int32.toInt bY ∧ Int32.toInt bY ≤ 0) → (jD = 1) → (0 ≤ Int32.toInt m_length ∧ Int32.toInt m_length ≤ 80) → (80 ≤ Int32.toInt oF ∧ Int32.toInt oF ≤ 80) → (0 ≤ Int32.toInt rP ∧ Int32.toInt rP ≤ 80) → (-1 ≤ Int32.toInt dQ ∧ Int32.toInt dQ ≤ -1) → (∀ k : Nat, 0 ≤ Int32.toInt (uZ k) ∧ Int32.toInt (uZ k) ≤ 99) → (GD vY x2 aG x5 0) → (AL vY x4 aG) → (0 ≤ Int32.toInt x5 → Int32.toInt x4 = 0) → (Int32.toInt x5 ≤ Int32.toInt x2 - 1) → (Int32.toInt x2 ≤ 6) → (Int32.toInt x5 + 1 < n134) → K134 x1 x2 x4 x5 jC bL bY jD m_length oF rP dQ sW uZ vY) (hK142 : ∀ (x1 : Int32) (x2 : Int32) (x4 : Int32) (x5 : Int32) (x6 : Int32) (jC : Int32) (bL : Int32) (bY : Int32) (jD : Nat) (m_length : Int32) (oF : Int32) (rP : Int32) (dQ : Int32) (sW : Nat → Int32) (uZ : Nat → Int32) (vY : Nat → Int32), (0 ≤ Int32.toInt x1 ∧ Int32.toInt x1 ≤ 99) → (0 ≤ Int32.toInt x2 ∧ Int32.toInt x2 ≤ 7) → (0 ≤ Int32.toInt x5 ∧ Int32.toInt x5 ≤ 6) → (0 ≤ Int32.toInt x6 ∧ Int32.toInt x6 ≤ 8) → (0 ≤ Int32.toInt jC ∧ Int32.toInt jC ≤ 0) → (0 ≤ Int32.toInt bL ∧ Int32.toInt bL ≤ 16) → (0 ≤ Int32.toInt bY ∧ Int32.toInt bY ≤ 0) → (jD = 1) → (0 ≤ Int32.toInt m_length ∧ Int32.toInt m_length ≤ 80) → (80 ≤ Int32.toInt oF ∧ Int32.toInt oF ≤ 80) → (0 ≤ Int32.toInt rP ∧ Int32.toInt rP ≤ 80) → (-1 ≤ Int32.toInt dQ ∧ Int32.toInt dQ ≤ -1) → (∀ k : Nat, 0 ≤ Int32.toInt (uZ k) ∧ Int32.toInt (uZ k) ≤ 99) → (GD vY x2 aG x5 x6) → (AL vY x4 x6) → (1 ≤ Int32.toInt x5 → Int32.toInt x4 = 0) → (Int32.toInt x5 ≤ Int32.toInt x2 - 1) → (Int32.toInt x2 ≤ 6) → (Int32.toInt x6 ≤ Int32.toInt aG) → (Int32.toInt x5 + 1 ≤ n134) → (8 - Int32.toInt x6 < n142) → K142 x1 x2 x4 x5 x6 jC bL bY jD m_length oF rP dQ sW uZ vY) (x1 x2 x4 x5 x6 jC bL bY : Int32) (jD : Nat) (m_length oF rP dQ : Int32) (sW uZ vY : Nat → Int32) (aBK : 0 ≤ Int32.toInt x1 ∧ Int32.toInt x1 ≤ 99) (aBN : 0 ≤ Int32.toInt x2 ∧ Int32.toInt x2 ≤ 7) (aF7 : 0 ≤ Int32.toInt x5 ∧ Int32.toInt x5 ≤ 6) (h_x6 : 0 ≤ Int32.toInt x6 ∧ Int32.toInt x6 ≤ 7) (aA4 : 0 ≤ Int32.toInt jC ∧ Int32.toInt jC ≤ 0) (yJ : 0 ≤ Int32.toInt bL ∧ Int32.toInt bL ≤ 16) (yG : 0 ≤ Int32.toInt bY ∧ Int32.toInt bY ≤ 0) (yM : jD = 1) (zE : 0 ≤ Int32.toInt m_length ∧ Int32.toInt m_length ≤ 80) (aAR : 80 ≤ Int32.toInt oF ∧ Int32.toInt oF ≤ 80) (aA1 : 0 ≤ Int32.toInt rP ∧ Int32.toInt rP ≤ 80) (aAA : -1 ≤ Int32.toInt dQ ∧ Int32.toInt dQ ≤ -1) (aBW : ∀ k : Nat, 0 ≤ Int32.toInt (uZ k) ∧ Int32.toInt (uZ k) ≤ 99) (hx0 : GD1 vY x2 aG x5 x6) (hx1 : AL1 vY x4 x6) (hx2 : 1 ≤ Int32.toInt x5 → Int32.toInt x4 = 0) (hx3 : Int32.toInt x5 ≤ Int32.toInt x2 - 1) (hx4 : Int32.toInt x2 ≤ 6) (hx5 : Int32.toInt x6 < Int32.toInt aG) (hn134 : Int32.toInt x5 + 1 ≤ n134) (hn142 : 8 - Int32.toInt x6 ≤ n142) : ws_X10_grass_277 post K134 K142 aG nG qO qQ x1 x2 x4 x5 x6 jC bL bY jD m_length oF rP dQ sW uZ vY := by
  have l0 := aEc
  intro v32 ev32
  have f33 : Int32.toInt (x6 + 1) = Int32.toInt x6 + Int32.toInt (1 : Int32) := aAD _ _ ⟨by omega, by omega⟩
  rw [← ev32] at f33
  have f34 := aAT x4
  exact hK142 x1 x2 x4 x5 v32 jC bL bY jD m_length oF rP dQ sW uZ vY aBK aBN aF7 ⟨by omega, by omega⟩ aA4 yJ yG yM zE aAR aA1 aAA aBW (by first | assumption | exact GD_init (by omega) | exact GD_dn (by assumption) (by omega) (by omega) | exact GD_s (by assumption) (by omega) | exact GD_eq (by assumption) (by omega)) (by first | assumption | exact AL_z (by omega) | exact AL_s (by assumption) (by omega) | exact AL_le (by assumption) (by omega)) hx2 hx3 hx4 (by omega) hn134 (by omega)
set_option maxHeartbeats 8000000 in
set_option maxRecDepth 200000 in
theorem ts_X10_grass_259 {post : Int32 → Int32 → Int32 → Int32 → Nat → Int32 → Int32 → Int32 → Int32 → (Nat → Int32) → (Nat → Int32) → (Nat → Int32) → Prop} {K134 : Int32 → Int32 → Int32 → Int32 → Int32 → Int32 → Int32 → Nat → Int32 → Int32 → Int32 → Int32 → (Nat → Int32) → (Nat → Int32) → (Nat → Int32) → Prop} {K142 : Int32 → Int32 → Int32 → Int32 → Int32 → Int32 → Int32 → Int32 → Nat → Int32 → Int32 → Int32 → Int32 → (Nat → Int32) → (Nat → Int32) → (Nat → Int32) → Prop} {n134 n142 : Int} (aG : Int32) (nG qO qQ : Nat → Int32) (vZ : 0 ≤ Int32.toInt aG ∧ Int32.toInt aG ≤ 8) (xT : ∀ k : Nat, 0 ≤ Int32.toInt (nG k) ∧ Int32.toInt (nG k) ≤ 99) (zG : ∀ k : Nat, -128 ≤ Int32.toInt (qO k) ∧ Int32.toInt (qO k) ≤ 127) (zI : ∀ k : Nat, -128 ≤ Int32.toInt (qQ k) ∧ Int32.toInt (qQ k) ≤ 127) (hpost : ∀ (r : Int32) (aBT : Int32) (xM : Int32) (xG : Int32) (aAP : Nat) (zS : Int32) (aAz : Int32) (aAm : Int32) (zH : Int32) (aBX : Nat → Int32) (aDo : Nat → Int32) (aOe : Nat → Int32), (0 ≤ Int32.toInt aBT ∧ Int32.toInt aBT ≤ 0) → (0 ≤ Int32.toInt xM ∧ Int32.toInt xM ≤ 16) → (0 ≤ Int32.toInt xG ∧ Int32.toInt xG ≤ 0) → (aAP = 1) → (0 ≤ Int32.toInt zS ∧ Int32.toInt zS ≤ 80) → (80 ≤ Int32.toInt aAz ∧ Int32.toInt aAz ≤ 80) → (0 ≤ Int32.toInt aAm ∧ Int32.toInt aAm ≤ 80) → (-1 ≤ Int32.toInt zH ∧ Int32.toInt zH ≤ 80) → (∀ k : Nat, 0 ≤ Int32.toInt (aDo k) ∧ Int32.toInt (aDo k) ≤ 99) → post r aBT xM xG aAP zS aAz aAm zH aBX aDo aOe) (hK134 : ∀ (x1 : Int32) (x2 : Int32) (x4 : Int32) (x5 : Int32) (jC : Int32) (bL : Int32) (bY : Int32) (jD : Nat) (m_length : Int32) (oF : Int32) (rP : Int32) (dQ : Int32) (sW : Nat → Int32) (uZ : Nat → Int32) (vY : Nat → Int32), (0 ≤ Int32.toInt x1 ∧ Int32.toInt x1 ≤ 99) → (0 ≤ Int32.toInt x2 ∧ Int32.toInt x2 ≤ 7) → (-1 ≤ Int32.toInt x5 ∧ Int32.toInt x5 ≤ 6) → (0 ≤ Int32.toInt jC ∧ Int32.toInt jC ≤ 0) → (0 ≤ Int32.toInt bL ∧ Int32.toInt bL ≤ 16) → (0 ≤ Int32.toInt bY ∧ Int32.toInt bY ≤ 0) → (jD = 1) → (0 ≤ Int32.toInt m_length ∧ Int32.toInt m_length ≤ 80) → (80 ≤ Int32.toInt oF ∧ Int32.toInt oF ≤ 80) → (0 ≤ Int32.toInt rP ∧ Int32.toInt rP ≤ 80) → (-1 ≤ Int32.toInt dQ ∧ Int32.toInt dQ ≤ -1) → (∀ k : Nat, 0 ≤ Int32.toInt (uZ k) ∧ Int32.toInt (uZ k) ≤ 99) → (GD vY x2 aG x5 0) → (AL vY x4 aG) → (0 ≤ Int32.toInt x5 → Int32.toInt x4 = 0) → (Int32.toInt x5 ≤ Int32.toInt x2 - 1) → (Int32.toInt x2 ≤ 6) → (Int32.toInt x5 + 1 < n134) → K134 x1 x2 x4 x5 jC bL bY jD m_length oF rP dQ sW uZ vY) (hK142 : ∀ (x1 : Int32) (x2 : Int32) (x4 : Int32) (x5 : Int32) (x6 : Int32) (jC : Int32) (bL : Int32) (bY : Int32) (jD : Nat) (m_length : Int32) (oF : Int32) (rP : Int32) (dQ : Int32) (sW : Nat → Int32) (uZ : Nat → Int32) (vY : Nat → Int32), (0 ≤ Int32.toInt x1 ∧ Int32.toInt x1 ≤ 99) → (0 ≤ Int32.toInt x2 ∧ Int32.toInt x2 ≤ 7) → (0 ≤ Int32.toInt x5 ∧ Int32.toInt x5 ≤ 6) → (0 ≤ Int32.toInt x6 ∧ Int32.toInt x6 ≤ 8) → (0 ≤ Int32.toInt jC ∧ Int32.toInt jC ≤ 0) → (0 ≤ Int32.toInt bL ∧ Int32.toInt bL ≤ 16) → (0 ≤ Int32.toInt bY ∧ Int32.toInt bY ≤ 0) → (jD = 1) → (0 ≤ Int32.toInt m_length ∧ Int32.toInt m_length ≤ 80) → (80 ≤ Int32.toInt oF ∧ Int32.toInt oF ≤ 80) → (0 ≤ Int32.toInt rP ∧ Int32.toInt rP ≤ 80) → (-1 ≤ Int32.toInt dQ ∧ Int32.toInt dQ ≤ -1) → (∀ k : Nat, 0 ≤ Int32.toInt (uZ k) ∧ Int32.toInt (uZ k) ≤ 99) → (GD vY x2 aG x5 x6) → (AL vY x4 x6) → (1 ≤ Int32.toInt x5 → Int32.toInt x4 = 0) → (Int32.toInt x5 ≤ Int32.toInt x2 - 1) → (Int32.toInt x2 ≤ 6) → (Int32.toInt x6 ≤ Int32.toInt aG) → (Int32.toInt x5 + 1 ≤ n134) → (8 - Int32.toInt x6 < n142) → K142 x1 x2 x4 x5 x6 jC bL bY jD m_length oF rP dQ sW uZ vY) (x1 x2 x4 x5 x6 k1 k2 jC bL bY : Int32) (jD : Nat) (m_length oF rP dQ : Int32) (sW uZ vY : Nat → Int32) (aBK : 0 ≤ Int32.toInt x1 ∧ Int32.toInt x1 ≤ 99) (aBN : 0 ≤ Int32.toInt x2 ∧ Int32.toInt x2 ≤ 7) (aF7 : 0 ≤ Int32.toInt x5 ∧ Int32.toInt x5 ≤ 6) (h_x6 : 0 ≤ Int32.toInt x6 ∧ Int32.toInt x6 ≤ 7) (h_k1 : 0 ≤ Int32.toInt k1 ∧ Int32.toInt k1 ≤ 60) (aA4 : 0 ≤ Int32.toInt jC ∧ Int32.toInt jC ≤ 0) (yJ : 0 ≤ Int32.toInt bL ∧ Int32.toInt bL ≤ 16) (yG : 0 ≤ Int32.toInt bY ∧ Int32.toInt bY ≤ 0) (yM : jD = 1) (zE : 0 ≤ Int32.toInt m_length ∧ Int32.toInt m_length ≤ 80) (aAR : 80 ≤ Int32.toInt oF ∧ Int32.toInt oF ≤ 80) (aA1 : 0 ≤ Int32.toInt rP ∧ Int32.toInt rP ≤ 80) (aAA : -1 ≤ Int32.toInt dQ ∧ Int32.toInt dQ ≤ -1) (aBW : ∀ k : Nat, 0 ≤ Int32.toInt (uZ k) ∧ Int32.toInt (uZ k) ≤ 99) (hx0 : GD vY x2 aG x5 x6) (hx1 : AL vY x4 x6) (hx2 : 1 ≤ Int32.toInt x5 → Int32.toInt x4 = 0) (hx3 : Int32.toInt x5 ≤ Int32.toInt x2 - 1) (hx4 : Int32.toInt x2 ≤ 6) (hx5 : Int32.toInt x6 < Int32.toInt aG) (hx6 : Int32.toInt k1 = 8 * Int32.toInt x5 + Int32.toInt x6) (hx7 : SU vY x2 x5 x6 aG k2) (hn134 : Int32.toInt x5 + 1 ≤ n134) (hn142 : 8 - Int32.toInt x6 ≤ n142) : ws_X10_grass_259 post K134 K142 aG nG qO qQ x1 x2 x4 x5 x6 k1 k2 jC bL bY jD m_length oF rP dQ sW uZ vY := by
  have l0 := aE0
  refine And.intro (aBZ ⟨by omega, by omega⟩) ?_
  refine And.intro (fun c35 => ?_) (fun c35 => ?_)
  · skip
    have c35 := mt (zJ _ _).mpr c35
    have f36 := aAT x4
    exact ts_X10_grass_277 aG nG qO qQ vZ xT zG zI hpost hK134 hK142 x1 x2 x4 x5 x6 jC bL bY jD m_length oF rP dQ sW uZ (upd vY k1.toNatClampNeg k2) aBK aBN aF7 h_x6 aA4 yJ yG yM zE aAR aA1 aAA aBW (by first | assumption | exact GD_up (by assumption) (by assumption) (by omega) (by omega) (by omega) (by omega)) (by first | assumption | exact AL1_z (by omega) | exact AL_up (by assumption) (by assumption) (by omega) (by omega)) hx2 hx3 hx4 hx5 hn134 hn142
  · skip
    have c35 := (zJ _ _).mp c35
    refine And.intro (aBZ ⟨by omega, by omega⟩) ?_
    intro v37 ev37
    have hv37 := congrArg Int32.toInt ev37
    have f39 := aAT v37
    exact ts_X10_grass_277 aG nG qO qQ vZ xT zG zI hpost hK134 hK142 x1 x2 v37 x5 x6 jC bL bY jD m_length oF rP dQ sW uZ (upd vY k1.toNatClampNeg k2) aBK aBN aF7 h_x6 aA4 yJ yG yM zE aAR aA1 aAA aBW (by first | assumption | exact GD_up (by assumption) (by assumption) (by omega) (by omega) (by omega) (by omega)) (by first | assumption | exact AL1_z (by omega) | exact AL_up (by assumption) (by assumption) (by omega) (by omega)) (by omega) hx3 hx4 hx5 hn134 hn142
set_option maxHeartbeats 8000000 in
set_option maxRecDepth 200000 in
theorem ts_X10_grass_219 {post : Int32 → Int32 → Int32 → Int32 → Nat → Int32 → Int32 → Int32 → Int32 → (Nat → Int32) → (Nat → Int32) → (Nat → Int32) → Prop} {K134 : Int32 → Int32 → Int32 → Int32 → Int32 → Int32 → Int32 → Nat → Int32 → Int32 → Int32 → Int32 → (Nat → Int32) → (Nat → Int32) → (Nat → Int32) → Prop} {K142 : Int32 → Int32 → Int32 → Int32 → Int32 → Int32 → Int32 → Int32 → Nat → Int32 → Int32 → Int32 → Int32 → (Nat → Int32) → (Nat → Int32) → (Nat → Int32) → Prop} {n134 n142 : Int} (aG : Int32) (nG qO qQ : Nat → Int32) (vZ : 0 ≤ Int32.toInt aG ∧ Int32.toInt aG ≤ 8) (xT : ∀ k : Nat, 0 ≤ Int32.toInt (nG k) ∧ Int32.toInt (nG k) ≤ 99) (zG : ∀ k : Nat, -128 ≤ Int32.toInt (qO k) ∧ Int32.toInt (qO k) ≤ 127) (zI : ∀ k : Nat, -128 ≤ Int32.toInt (qQ k) ∧ Int32.toInt (qQ k) ≤ 127) (hpost : ∀ (r : Int32) (aBT : Int32) (xM : Int32) (xG : Int32) (aAP : Nat) (zS : Int32) (aAz : Int32) (aAm : Int32) (zH : Int32) (aBX : Nat → Int32) (aDo : Nat → Int32) (aOe : Nat → Int32), (0 ≤ Int32.toInt aBT ∧ Int32.toInt aBT ≤ 0) → (0 ≤ Int32.toInt xM ∧ Int32.toInt xM ≤ 16) → (0 ≤ Int32.toInt xG ∧ Int32.toInt xG ≤ 0) → (aAP = 1) → (0 ≤ Int32.toInt zS ∧ Int32.toInt zS ≤ 80) → (80 ≤ Int32.toInt aAz ∧ Int32.toInt aAz ≤ 80) → (0 ≤ Int32.toInt aAm ∧ Int32.toInt aAm ≤ 80) → (-1 ≤ Int32.toInt zH ∧ Int32.toInt zH ≤ 80) → (∀ k : Nat, 0 ≤ Int32.toInt (aDo k) ∧ Int32.toInt (aDo k) ≤ 99) → post r aBT xM xG aAP zS aAz aAm zH aBX aDo aOe) (hK134 : ∀ (x1 : Int32) (x2 : Int32) (x4 : Int32) (x5 : Int32) (jC : Int32) (bL : Int32) (bY : Int32) (jD : Nat) (m_length : Int32) (oF : Int32) (rP : Int32) (dQ : Int32) (sW : Nat → Int32) (uZ : Nat → Int32) (vY : Nat → Int32), (0 ≤ Int32.toInt x1 ∧ Int32.toInt x1 ≤ 99) → (0 ≤ Int32.toInt x2 ∧ Int32.toInt x2 ≤ 7) → (-1 ≤ Int32.toInt x5 ∧ Int32.toInt x5 ≤ 6) → (0 ≤ Int32.toInt jC ∧ Int32.toInt jC ≤ 0) → (0 ≤ Int32.toInt bL ∧ Int32.toInt bL ≤ 16) → (0 ≤ Int32.toInt bY ∧ Int32.toInt bY ≤ 0) → (jD = 1) → (0 ≤ Int32.toInt m_length ∧ Int32.toInt m_length ≤ 80) → (80 ≤ Int32.toInt oF ∧ Int32.toInt oF ≤ 80) → (0 ≤ Int32.toInt rP ∧ Int32.toInt rP ≤ 80) → (-1 ≤ Int32.toInt dQ ∧ Int32.toInt dQ ≤ -1) → (∀ k : Nat, 0 ≤ Int32.toInt (uZ k) ∧ Int32.toInt (uZ k) ≤ 99) → (GD vY x2 aG x5 0) → (AL vY x4 aG) → (0 ≤ Int32.toInt x5 → Int32.toInt x4 = 0) → (Int32.toInt x5 ≤ Int32.toInt x2 - 1) → (Int32.toInt x2 ≤ 6) → (Int32.toInt x5 + 1 < n134) → K134 x1 x2 x4 x5 jC bL bY jD m_length oF rP dQ sW uZ vY) (hK142 : ∀ (x1 : Int32) (x2 : Int32) (x4 : Int32) (x5 : Int32) (x6 : Int32) (jC : Int32) (bL : Int32) (bY : Int32) (jD : Nat) (m_length : Int32) (oF : Int32) (rP : Int32) (dQ : Int32) (sW : Nat → Int32) (uZ : Nat → Int32) (vY : Nat → Int32), (0 ≤ Int32.toInt x1 ∧ Int32.toInt x1 ≤ 99) → (0 ≤ Int32.toInt x2 ∧ Int32.toInt x2 ≤ 7) → (0 ≤ Int32.toInt x5 ∧ Int32.toInt x5 ≤ 6) → (0 ≤ Int32.toInt x6 ∧ Int32.toInt x6 ≤ 8) → (0 ≤ Int32.toInt jC ∧ Int32.toInt jC ≤ 0) → (0 ≤ Int32.toInt bL ∧ Int32.toInt bL ≤ 16) → (0 ≤ Int32.toInt bY ∧ Int32.toInt bY ≤ 0) → (jD = 1) → (0 ≤ Int32.toInt m_length ∧ Int32.toInt m_length ≤ 80) → (80 ≤ Int32.toInt oF ∧ Int32.toInt oF ≤ 80) → (0 ≤ Int32.toInt rP ∧ Int32.toInt rP ≤ 80) → (-1 ≤ Int32.toInt dQ ∧ Int32.toInt dQ ≤ -1) → (∀ k : Nat, 0 ≤ Int32.toInt (uZ k) ∧ Int32.toInt (uZ k) ≤ 99) → (GD vY x2 aG x5 x6) → (AL vY x4 x6) → (1 ≤ Int32.toInt x5 → Int32.toInt x4 = 0) → (Int32.toInt x5 ≤ Int32.toInt x2 - 1) → (Int32.toInt x2 ≤ 6) → (Int32.toInt x6 ≤ Int32.toInt aG) → (Int32.toInt x5 + 1 ≤ n134) → (8 - Int32.toInt x6 < n142) → K142 x1 x2 x4 x5 x6 jC bL bY jD m_length oF rP dQ sW uZ vY) (x1 x2 x4 x5 x6 x7 jC bL bY : Int32) (jD : Nat) (m_length oF rP dQ : Int32) (sW uZ vY : Nat → Int32) (aBK : 0 ≤ Int32.toInt x1 ∧ Int32.toInt x1 ≤ 99) (aBN : 0 ≤ Int32.toInt x2 ∧ Int32.toInt x2 ≤ 7) (aF7 : 0 ≤ Int32.toInt x5 ∧ Int32.toInt x5 ≤ 6) (h_x6 : 0 ≤ Int32.toInt x6 ∧ Int32.toInt x6 ≤ 7) (aA4 : 0 ≤ Int32.toInt jC ∧ Int32.toInt jC ≤ 0) (yJ : 0 ≤ Int32.toInt bL ∧ Int32.toInt bL ≤ 16) (yG : 0 ≤ Int32.toInt bY ∧ Int32.toInt bY ≤ 0) (yM : jD = 1) (zE : 0 ≤ Int32.toInt m_length ∧ Int32.toInt m_length ≤ 80) (aAR : 80 ≤ Int32.toInt oF ∧ Int32.toInt oF ≤ 80) (aA1 : 0 ≤ Int32.toInt rP ∧ Int32.toInt rP ≤ 80) (aAA : -1 ≤ Int32.toInt dQ ∧ Int32.toInt dQ ≤ -1) (aBW : ∀ k : Nat, 0 ≤ Int32.toInt (uZ k) ∧ Int32.toInt (uZ k) ≤ 99) (hx0 : GD vY x2 aG x5 x6) (hx1 : AL vY x4 x6) (hx2 : 1 ≤ Int32.toInt x5 → Int32.toInt x4 = 0) (hx3 : Int32.toInt x5 ≤ Int32.toInt x2 - 1) (hx4 : Int32.toInt x2 ≤ 6) (hx5 : Int32.toInt x6 < Int32.toInt aG) (hx6 : SU vY x2 x5 x6 aG x7) (hn134 : Int32.toInt x5 + 1 ≤ n134) (hn142 : 8 - Int32.toInt x6 ≤ n142) : ws_X10_grass_219 post K134 K142 aG nG qO qQ x1 x2 x4 x5 x6 x7 jC bL bY jD m_length oF rP dQ sW uZ vY := by
  have l0 := aE0
  have l1 := li_8
  intro v40 ev40
  have f41 : Int32.toInt (8 * x5) = Int32.toInt x5 * 8 := ta_cmul _ _ (by decide) ⟨by omega, by omega⟩
  rw [← ev40] at f41
  intro v42 ev42
  have f43 : Int32.toInt (v40 + x6) = Int32.toInt v40 + Int32.toInt x6 := aAD _ _ ⟨by omega, by omega⟩
  rw [← ev42] at f43
  refine And.intro (aBZ ⟨by omega, by omega⟩) ?_
  intro v44 ev44
  have f45 := xT x6.toNatClampNeg
  have hv44 := congrArg Int32.toInt ev44
  refine And.intro (aBZ ⟨by omega, by omega⟩) ?_
  intro v46 ev46
  have f48 := aBW x5.toNatClampNeg
  have f47 : Int32.toInt (v44 - (uZ x5.toNatClampNeg)) = Int32.toInt v44 - Int32.toInt (uZ x5.toNatClampNeg) := aCA _ _ ⟨by omega, by omega⟩
  rw [← ev46] at f47
  intro v49 ev49
  have f50 := ti_abs v46 (by omega)
  have hv49 := congrArg Int32.toInt ev49
  refine And.intro (fun c51 => ?_) (fun c51 => ?_)
  · skip
    have c51 := (aAd _ _).mp c51
    have f52 := aAT x4
    exact ts_X10_grass_259 aG nG qO qQ vZ xT zG zI hpost hK134 hK142 x1 x2 x4 x5 x6 v42 0 jC bL bY jD m_length oF rP dQ sW uZ vY aBK aBN aF7 h_x6 ⟨by omega, by omega⟩ aA4 yJ yG yM zE aAR aA1 aAA aBW (by first | assumption | exact GD_init (by omega) | exact GD_dn (by assumption) (by omega) (by omega) | exact GD_s (by assumption) (by omega) | exact GD_eq (by assumption) (by omega)) (by first | assumption | exact AL_z (by omega) | exact AL_s (by assumption) (by omega) | exact AL_le (by assumption) (by omega)) hx2 hx3 hx4 hx5 (by omega) (by first | assumption | exact SU_0 (by omega) | exact SU_s (by assumption) (by omega) | exact SU_le (by assumption) (by omega)) hn134 hn142
  · skip
    have c51 := mt (aAd _ _).mpr c51
    have f53 := aAT x4
    have f54 := aAT x7
    exact ts_X10_grass_259 aG nG qO qQ vZ xT zG zI hpost hK134 hK142 x1 x2 x4 x5 x6 v42 x7 jC bL bY jD m_length oF rP dQ sW uZ vY aBK aBN aF7 h_x6 ⟨by omega, by omega⟩ aA4 yJ yG yM zE aAR aA1 aAA aBW (by first | assumption | exact GD_init (by omega) | exact GD_dn (by assumption) (by omega) (by omega) | exact GD_s (by assumption) (by omega) | exact GD_eq (by assumption) (by omega)) (by first | assumption | exact AL_z (by omega) | exact AL_s (by assumption) (by omega) | exact AL_le (by assumption) (by omega)) hx2 hx3 hx4 hx5 (by omega) (by first | assumption | exact SU_0 (by omega) | exact SU_s (by assumption) (by omega) | exact SU_le (by assumption) (by omega)) hn134 hn142
set_option maxHeartbeats 8000000 in
set_option maxRecDepth 200000 in
theorem ts_X10_grass_213 {post : Int32 → Int32 → Int32 → Int32 → Nat → Int32 → Int32 → Int32 → Int32 → (Nat → Int32) → (Nat → Int32) → (Nat → Int32) → Prop} {K134 : Int32 → Int32 → Int32 → Int32 → Int32 → Int32 → Int32 → Nat → Int32 → Int32 → Int32 → Int32 → (Nat → Int32) → (Nat → Int32) → (Nat → Int32) → Prop} {K142 : Int32 → Int32 → Int32 → Int32 → Int32 → Int32 → Int32 → Int32 → Nat → Int32 → Int32 → Int32 → Int32 → (Nat → Int32) → (Nat → Int32) → (Nat → Int32) → Prop} {K169 : Int32 → Int32 → Int32 → Int32 → Int32 → Int32 → Int32 → Int32 → Int32 → Int32 → Nat → Int32 → Int32 → Int32 → Int32 → (Nat → Int32) → (Nat → Int32) → (Nat → Int32) → Prop} {n134 n142 n169 : Int} (aG : Int32) (nG qO qQ : Nat → Int32) (vZ : 0 ≤ Int32.toInt aG ∧ Int32.toInt aG ≤ 8) (xT : ∀ k : Nat, 0 ≤ Int32.toInt (nG k) ∧ Int32.toInt (nG k) ≤ 99) (zG : ∀ k : Nat, -128 ≤ Int32.toInt (qO k) ∧ Int32.toInt (qO k) ≤ 127) (zI : ∀ k : Nat, -128 ≤ Int32.toInt (qQ k) ∧ Int32.toInt (qQ k) ≤ 127) (hpost : ∀ (r : Int32) (aBT : Int32) (xM : Int32) (xG : Int32) (aAP : Nat) (zS : Int32) (aAz : Int32) (aAm : Int32) (zH : Int32) (aBX : Nat → Int32) (aDo : Nat → Int32) (aOe : Nat → Int32), (0 ≤ Int32.toInt aBT ∧ Int32.toInt aBT ≤ 0) → (0 ≤ Int32.toInt xM ∧ Int32.toInt xM ≤ 16) → (0 ≤ Int32.toInt xG ∧ Int32.toInt xG ≤ 0) → (aAP = 1) → (0 ≤ Int32.toInt zS ∧ Int32.toInt zS ≤ 80) → (80 ≤ Int32.toInt aAz ∧ Int32.toInt aAz ≤ 80) → (0 ≤ Int32.toInt aAm ∧ Int32.toInt aAm ≤ 80) → (-1 ≤ Int32.toInt zH ∧ Int32.toInt zH ≤ 80) → (∀ k : Nat, 0 ≤ Int32.toInt (aDo k) ∧ Int32.toInt (aDo k) ≤ 99) → post r aBT xM xG aAP zS aAz aAm zH aBX aDo aOe) (hK134 : ∀ (x1 : Int32) (x2 : Int32) (x4 : Int32) (x5 : Int32) (jC : Int32) (bL : Int32) (bY : Int32) (jD : Nat) (m_length : Int32) (oF : Int32) (rP : Int32) (dQ : Int32) (sW : Nat → Int32) (uZ : Nat → Int32) (vY : Nat → Int32), (0 ≤ Int32.toInt x1 ∧ Int32.toInt x1 ≤ 99) → (0 ≤ Int32.toInt x2 ∧ Int32.toInt x2 ≤ 7) → (-1 ≤ Int32.toInt x5 ∧ Int32.toInt x5 ≤ 6) → (0 ≤ Int32.toInt jC ∧ Int32.toInt jC ≤ 0) → (0 ≤ Int32.toInt bL ∧ Int32.toInt bL ≤ 16) → (0 ≤ Int32.toInt bY ∧ Int32.toInt bY ≤ 0) → (jD = 1) → (0 ≤ Int32.toInt m_length ∧ Int32.toInt m_length ≤ 80) → (80 ≤ Int32.toInt oF ∧ Int32.toInt oF ≤ 80) → (0 ≤ Int32.toInt rP ∧ Int32.toInt rP ≤ 80) → (-1 ≤ Int32.toInt dQ ∧ Int32.toInt dQ ≤ -1) → (∀ k : Nat, 0 ≤ Int32.toInt (uZ k) ∧ Int32.toInt (uZ k) ≤ 99) → (GD vY x2 aG x5 0) → (AL vY x4 aG) → (0 ≤ Int32.toInt x5 → Int32.toInt x4 = 0) → (Int32.toInt x5 ≤ Int32.toInt x2 - 1) → (Int32.toInt x2 ≤ 6) → (Int32.toInt x5 + 1 < n134) → K134 x1 x2 x4 x5 jC bL bY jD m_length oF rP dQ sW uZ vY) (hK142 : ∀ (x1 : Int32) (x2 : Int32) (x4 : Int32) (x5 : Int32) (x6 : Int32) (jC : Int32) (bL : Int32) (bY : Int32) (jD : Nat) (m_length : Int32) (oF : Int32) (rP : Int32) (dQ : Int32) (sW : Nat → Int32) (uZ : Nat → Int32) (vY : Nat → Int32), (0 ≤ Int32.toInt x1 ∧ Int32.toInt x1 ≤ 99) → (0 ≤ Int32.toInt x2 ∧ Int32.toInt x2 ≤ 7) → (0 ≤ Int32.toInt x5 ∧ Int32.toInt x5 ≤ 6) → (0 ≤ Int32.toInt x6 ∧ Int32.toInt x6 ≤ 8) → (0 ≤ Int32.toInt jC ∧ Int32.toInt jC ≤ 0) → (0 ≤ Int32.toInt bL ∧ Int32.toInt bL ≤ 16) → (0 ≤ Int32.toInt bY ∧ Int32.toInt bY ≤ 0) → (jD = 1) → (0 ≤ Int32.toInt m_length ∧ Int32.toInt m_length ≤ 80) → (80 ≤ Int32.toInt oF ∧ Int32.toInt oF ≤ 80) → (0 ≤ Int32.toInt rP ∧ Int32.toInt rP ≤ 80) → (-1 ≤ Int32.toInt dQ ∧ Int32.toInt dQ ≤ -1) → (∀ k : Nat, 0 ≤ Int32.toInt (uZ k) ∧ Int32.toInt (uZ k) ≤ 99) → (GD vY x2 aG x5 x6) → (AL vY x4 x6) → (1 ≤ Int32.toInt x5 → Int32.toInt x4 = 0) → (Int32.toInt x5 ≤ Int32.toInt x2 - 1) → (Int32.toInt x2 ≤ 6) → (Int32.toInt x6 ≤ Int32.toInt aG) → (Int32.toInt x5 + 1 ≤ n134) → (8 - Int32.toInt x6 < n142) → K142 x1 x2 x4 x5 x6 jC bL bY jD m_length oF rP dQ sW uZ vY) (hK169 : ∀ (x1 : Int32) (x2 : Int32) (x4 : Int32) (x5 : Int32) (x6 : Int32) (x7 : Int32) (x8 : Int32) (jC : Int32) (bL : Int32) (bY : Int32) (jD : Nat) (m_length : Int32) (oF : Int32) (rP : Int32) (dQ : Int32) (sW : Nat → Int32) (uZ : Nat → Int32) (vY : Nat → Int32), (0 ≤ Int32.toInt x1 ∧ Int32.toInt x1 ≤ 99) → (0 ≤ Int32.toInt x2 ∧ Int32.toInt x2 ≤ 7) → (0 ≤ Int32.toInt x5 ∧ Int32.toInt x5 ≤ 6) → (0 ≤ Int32.toInt x6 ∧ Int32.toInt x6 ≤ 7) → (0 ≤ Int32.toInt x8 ∧ Int32.toInt x8 ≤ 8) → (0 ≤ Int32.toInt jC ∧ Int32.toInt jC ≤ 0) → (0 ≤ Int32.toInt bL ∧ Int32.toInt bL ≤ 16) → (0 ≤ Int32.toInt bY ∧ Int32.toInt bY ≤ 0) → (jD = 1) → (0 ≤ Int32.toInt m_length ∧ Int32.toInt m_length ≤ 80) → (80 ≤ Int32.toInt oF ∧ Int32.toInt oF ≤ 80) → (0 ≤ Int32.toInt rP ∧ Int32.toInt rP ≤ 80) → (-1 ≤ Int32.toInt dQ ∧ Int32.toInt dQ ≤ -1) → (∀ k : Nat, 0 ≤ Int32.toInt (uZ k) ∧ Int32.toInt (uZ k) ≤ 99) → (GD vY x2 aG x5 x6) → (AL vY x4 x6) → (1 ≤ Int32.toInt x5 → Int32.toInt x4 = 0) → (Int32.toInt x5 ≤ Int32.toInt x2 - 1) → (Int32.toInt x2 ≤ 6) → (Int32.toInt x6 < Int32.toInt aG) → (Int32.toInt x8 ≤ Int32.toInt aG) → (SU vY x2 x5 x6 x8 x7) → (Int32.toInt x5 + 1 ≤ n134) → (8 - Int32.toInt x6 ≤ n142) → (8 - Int32.toInt x8 < n169) → K169 x1 x2 x4 x5 x6 x7 x8 jC bL bY jD m_length oF rP dQ sW uZ vY) (x1 x2 x4 x5 x6 x7 x8 jC bL bY : Int32) (jD : Nat) (m_length oF rP dQ : Int32) (sW uZ vY : Nat → Int32) (aBK : 0 ≤ Int32.toInt x1 ∧ Int32.toInt x1 ≤ 99) (aBN : 0 ≤ Int32.toInt x2 ∧ Int32.toInt x2 ≤ 7) (aF7 : 0 ≤ Int32.toInt x5 ∧ Int32.toInt x5 ≤ 5) (h_x6 : 0 ≤ Int32.toInt x6 ∧ Int32.toInt x6 ≤ 7) (h_x8 : 0 ≤ Int32.toInt x8 ∧ Int32.toInt x8 ≤ 7) (aA4 : 0 ≤ Int32.toInt jC ∧ Int32.toInt jC ≤ 0) (yJ : 0 ≤ Int32.toInt bL ∧ Int32.toInt bL ≤ 16) (yG : 0 ≤ Int32.toInt bY ∧ Int32.toInt bY ≤ 0) (yM : jD = 1) (zE : 0 ≤ Int32.toInt m_length ∧ Int32.toInt m_length ≤ 80) (aAR : 80 ≤ Int32.toInt oF ∧ Int32.toInt oF ≤ 80) (aA1 : 0 ≤ Int32.toInt rP ∧ Int32.toInt rP ≤ 80) (aAA : -1 ≤ Int32.toInt dQ ∧ Int32.toInt dQ ≤ -1) (aBW : ∀ k : Nat, 0 ≤ Int32.toInt (uZ k) ∧ Int32.toInt (uZ k) ≤ 99) (hx0 : GD vY x2 aG x5 x6) (hx1 : AL vY x4 x6) (hx2 : 1 ≤ Int32.toInt x5 → Int32.toInt x4 = 0) (hx3 : Int32.toInt x5 ≤ Int32.toInt x2 - 1) (hx4 : Int32.toInt x2 ≤ 6) (hx5 : Int32.toInt x6 < Int32.toInt aG) (hx6 : Int32.toInt x8 < Int32.toInt aG) (hx7 : SU1 vY x2 x5 x6 x8 x7) (hn134 : Int32.toInt x5 + 1 ≤ n134) (hn142 : 8 - Int32.toInt x6 ≤ n142) (hn169 : 8 - Int32.toInt x8 ≤ n169) : ws_X10_grass_213 post K134 K142 K169 aG nG qO qQ x1 x2 x4 x5 x6 x7 x8 jC bL bY jD m_length oF rP dQ sW uZ vY := by
  have l0 := aEc
  intro v55 ev55
  have f56 : Int32.toInt (x8 + 1) = Int32.toInt x8 + Int32.toInt (1 : Int32) := aAD _ _ ⟨by omega, by omega⟩
  rw [← ev55] at f56
  have f57 := aAT x4
  have f58 := aAT x7
  exact hK169 x1 x2 x4 x5 x6 x7 v55 jC bL bY jD m_length oF rP dQ sW uZ vY aBK aBN ⟨by omega, by omega⟩ h_x6 ⟨by omega, by omega⟩ aA4 yJ yG yM zE aAR aA1 aAA aBW (by first | assumption | exact GD_init (by omega) | exact GD_dn (by assumption) (by omega) (by omega) | exact GD_s (by assumption) (by omega) | exact GD_eq (by assumption) (by omega)) (by first | assumption | exact AL_z (by omega) | exact AL_s (by assumption) (by omega) | exact AL_le (by assumption) (by omega)) hx2 hx3 hx4 hx5 (by omega) (by first | assumption | exact SU_0 (by omega) | exact SU_s (by assumption) (by omega) | exact SU_le (by assumption) (by omega)) hn134 hn142 (by omega)
set_option maxHeartbeats 8000000 in
set_option maxRecDepth 200000 in
theorem ts_X10_grass_169 {post : Int32 → Int32 → Int32 → Int32 → Nat → Int32 → Int32 → Int32 → Int32 → (Nat → Int32) → (Nat → Int32) → (Nat → Int32) → Prop} {K134 : Int32 → Int32 → Int32 → Int32 → Int32 → Int32 → Int32 → Nat → Int32 → Int32 → Int32 → Int32 → (Nat → Int32) → (Nat → Int32) → (Nat → Int32) → Prop} {K142 : Int32 → Int32 → Int32 → Int32 → Int32 → Int32 → Int32 → Int32 → Nat → Int32 → Int32 → Int32 → Int32 → (Nat → Int32) → (Nat → Int32) → (Nat → Int32) → Prop} {next : Int32 → Int32 → Int32 → Int32 → Int32 → Int32 → Int32 → Int32 → Int32 → Int32 → Nat → Int32 → Int32 → Int32 → Int32 → (Nat → Int32) → (Nat → Int32) → (Nat → Int32) → Prop} {n169 n134 n142 : Int} (aG : Int32) (nG qO qQ : Nat → Int32) (vZ : 0 ≤ Int32.toInt aG ∧ Int32.toInt aG ≤ 8) (xT : ∀ k : Nat, 0 ≤ Int32.toInt (nG k) ∧ Int32.toInt (nG k) ≤ 99) (zG : ∀ k : Nat, -128 ≤ Int32.toInt (qO k) ∧ Int32.toInt (qO k) ≤ 127) (zI : ∀ k : Nat, -128 ≤ Int32.toInt (qQ k) ∧ Int32.toInt (qQ k) ≤ 127) (hpost : ∀ (r : Int32) (aBT : Int32) (xM : Int32) (xG : Int32) (aAP : Nat) (zS : Int32) (aAz : Int32) (aAm : Int32) (zH : Int32) (aBX : Nat → Int32) (aDo : Nat → Int32) (aOe : Nat → Int32), (0 ≤ Int32.toInt aBT ∧ Int32.toInt aBT ≤ 0) → (0 ≤ Int32.toInt xM ∧ Int32.toInt xM ≤ 16) → (0 ≤ Int32.toInt xG ∧ Int32.toInt xG ≤ 0) → (aAP = 1) → (0 ≤ Int32.toInt zS ∧ Int32.toInt zS ≤ 80) → (80 ≤ Int32.toInt aAz ∧ Int32.toInt aAz ≤ 80) → (0 ≤ Int32.toInt aAm ∧ Int32.toInt aAm ≤ 80) → (-1 ≤ Int32.toInt zH ∧ Int32.toInt zH ≤ 80) → (∀ k : Nat, 0 ≤ Int32.toInt (aDo k) ∧ Int32.toInt (aDo k) ≤ 99) → post r aBT xM xG aAP zS aAz aAm zH aBX aDo aOe) (hK134 : ∀ (x1 : Int32) (x2 : Int32) (x4 : Int32) (x5 : Int32) (jC : Int32) (bL : Int32) (bY : Int32) (jD : Nat) (m_length : Int32) (oF : Int32) (rP : Int32) (dQ : Int32) (sW : Nat → Int32) (uZ : Nat → Int32) (vY : Nat → Int32), (0 ≤ Int32.toInt x1 ∧ Int32.toInt x1 ≤ 99) → (0 ≤ Int32.toInt x2 ∧ Int32.toInt x2 ≤ 7) → (-1 ≤ Int32.toInt x5 ∧ Int32.toInt x5 ≤ 6) → (0 ≤ Int32.toInt jC ∧ Int32.toInt jC ≤ 0) → (0 ≤ Int32.toInt bL ∧ Int32.toInt bL ≤ 16) → (0 ≤ Int32.toInt bY ∧ Int32.toInt bY ≤ 0) → (jD = 1) → (0 ≤ Int32.toInt m_length ∧ Int32.toInt m_length ≤ 80) → (80 ≤ Int32.toInt oF ∧ Int32.toInt oF ≤ 80) → (0 ≤ Int32.toInt rP ∧ Int32.toInt rP ≤ 80) → (-1 ≤ Int32.toInt dQ ∧ Int32.toInt dQ ≤ -1) → (∀ k : Nat, 0 ≤ Int32.toInt (uZ k) ∧ Int32.toInt (uZ k) ≤ 99) → (GD vY x2 aG x5 0) → (AL vY x4 aG) → (0 ≤ Int32.toInt x5 → Int32.toInt x4 = 0) → (Int32.toInt x5 ≤ Int32.toInt x2 - 1) → (Int32.toInt x2 ≤ 6) → (Int32.toInt x5 + 1 < n134) → K134 x1 x2 x4 x5 jC bL bY jD m_length oF rP dQ sW uZ vY) (hK142 : ∀ (x1 : Int32) (x2 : Int32) (x4 : Int32) (x5 : Int32) (x6 : Int32) (jC : Int32) (bL : Int32) (bY : Int32) (jD : Nat) (m_length : Int32) (oF : Int32) (rP : Int32) (dQ : Int32) (sW : Nat → Int32) (uZ : Nat → Int32) (vY : Nat → Int32), (0 ≤ Int32.toInt x1 ∧ Int32.toInt x1 ≤ 99) → (0 ≤ Int32.toInt x2 ∧ Int32.toInt x2 ≤ 7) → (0 ≤ Int32.toInt x5 ∧ Int32.toInt x5 ≤ 6) → (0 ≤ Int32.toInt x6 ∧ Int32.toInt x6 ≤ 8) → (0 ≤ Int32.toInt jC ∧ Int32.toInt jC ≤ 0) → (0 ≤ Int32.toInt bL ∧ Int32.toInt bL ≤ 16) → (0 ≤ Int32.toInt bY ∧ Int32.toInt bY ≤ 0) → (jD = 1) → (0 ≤ Int32.toInt m_length ∧ Int32.toInt m_length ≤ 80) → (80 ≤ Int32.toInt oF ∧ Int32.toInt oF ≤ 80) → (0 ≤ Int32.toInt rP ∧ Int32.toInt rP ≤ 80) → (-1 ≤ Int32.toInt dQ ∧ Int32.toInt dQ ≤ -1) → (∀ k : Nat, 0 ≤ Int32.toInt (uZ k) ∧ Int32.toInt (uZ k) ≤ 99) → (GD vY x2 aG x5 x6) → (AL vY x4 x6) → (1 ≤ Int32.toInt x5 → Int32.toInt x4 = 0) → (Int32.toInt x5 ≤ Int32.toInt x2 - 1) → (Int32.toInt x2 ≤ 6) → (Int32.toInt x6 ≤ Int32.toInt aG) → (Int32.toInt x5 + 1 ≤ n134) → (8 - Int32.toInt x6 < n142) → K142 x1 x2 x4 x5 x6 jC bL bY jD m_length oF rP dQ sW uZ vY) (hKn : ∀ (x1 : Int32) (x2 : Int32) (x4 : Int32) (x5 : Int32) (x6 : Int32) (x7 : Int32) (x8 : Int32) (jC : Int32) (bL : Int32) (bY : Int32) (jD : Nat) (m_length : Int32) (oF : Int32) (rP : Int32) (dQ : Int32) (sW : Nat → Int32) (uZ : Nat → Int32) (vY : Nat → Int32), (0 ≤ Int32.toInt x1 ∧ Int32.toInt x1 ≤ 99) → (0 ≤ Int32.toInt x2 ∧ Int32.toInt x2 ≤ 7) → (0 ≤ Int32.toInt x5 ∧ Int32.toInt x5 ≤ 6) → (0 ≤ Int32.toInt x6 ∧ Int32.toInt x6 ≤ 7) → (0 ≤ Int32.toInt x8 ∧ Int32.toInt x8 ≤ 8) → (0 ≤ Int32.toInt jC ∧ Int32.toInt jC ≤ 0) → (0 ≤ Int32.toInt bL ∧ Int32.toInt bL ≤ 16) → (0 ≤ Int32.toInt bY ∧ Int32.toInt bY ≤ 0) → (jD = 1) → (0 ≤ Int32.toInt m_length ∧ Int32.toInt m_length ≤ 80) → (80 ≤ Int32.toInt oF ∧ Int32.toInt oF ≤ 80) → (0 ≤ Int32.toInt rP ∧ Int32.toInt rP ≤ 80) → (-1 ≤ Int32.toInt dQ ∧ Int32.toInt dQ ≤ -1) → (∀ k : Nat, 0 ≤ Int32.toInt (uZ k) ∧ Int32.toInt (uZ k) ≤ 99) → (GD vY x2 aG x5 x6) → (AL vY x4 x6) → (1 ≤ Int32.toInt x5 → Int32.toInt x4 = 0) → (Int32.toInt x5 ≤ Int32.toInt x2 - 1) → (Int32.toInt x2 ≤ 6) → (Int32.toInt x6 < Int32.toInt aG) → (Int32.toInt x8 ≤ Int32.toInt aG) → (SU vY x2 x5 x6 x8 x7) → (Int32.toInt x5 + 1 ≤ n134) → (8 - Int32.toInt x6 ≤ n142) → (8 - Int32.toInt x8 < n169) → next x1 x2 x4 x5 x6 x7 x8 jC bL bY jD m_length oF rP dQ sW uZ vY) (x1 x2 x4 x5 x6 x7 x8 jC bL bY : Int32) (jD : Nat) (m_length oF rP dQ : Int32) (sW uZ vY : Nat → Int32) (aBK : 0 ≤ Int32.toInt x1 ∧ Int32.toInt x1 ≤ 99) (aBN : 0 ≤ Int32.toInt x2 ∧ Int32.toInt x2 ≤ 7) (aF7 : 0 ≤ Int32.toInt x5 ∧ Int32.toInt x5 ≤ 6) (h_x6 : 0 ≤ Int32.toInt x6 ∧ Int32.toInt x6 ≤ 7) (h_x8 : 0 ≤ Int32.toInt x8 ∧ Int32.toInt x8 ≤ 8) (aA4 : 0 ≤ Int32.toInt jC ∧ Int32.toInt jC ≤ 0) (yJ : 0 ≤ Int32.toInt bL ∧ Int32.toInt bL ≤ 16) (yG : 0 ≤ Int32.toInt bY ∧ Int32.toInt bY ≤ 0) (yM : jD = 1) (zE : 0 ≤ Int32.toInt m_length ∧ Int32.toInt m_length ≤ 80) (aAR : 80 ≤ Int32.toInt oF ∧ Int32.toInt oF ≤ 80) (aA1 : 0 ≤ Int32.toInt rP ∧ Int32.toInt rP ≤ 80) (aAA : -1 ≤ Int32.toInt dQ ∧ Int32.toInt dQ ≤ -1) (aBW : ∀ k : Nat, 0 ≤ Int32.toInt (uZ k) ∧ Int32.toInt (uZ k) ≤ 99) (hx0 : GD vY x2 aG x5 x6) (hx1 : AL vY x4 x6) (hx2 : 1 ≤ Int32.toInt x5 → Int32.toInt x4 = 0) (hx3 : Int32.toInt x5 ≤ Int32.toInt x2 - 1) (hx4 : Int32.toInt x2 ≤ 6) (hx5 : Int32.toInt x6 < Int32.toInt aG) (hx6 : Int32.toInt x8 ≤ Int32.toInt aG) (hx7 : SU vY x2 x5 x6 x8 x7) (hn134 : Int32.toInt x5 + 1 ≤ n134) (hn142 : 8 - Int32.toInt x6 ≤ n142) (hn169 : 8 - Int32.toInt x8 ≤ n169) : ws_X10_grass_169 post K134 K142 next aG nG qO qQ x1 x2 x4 x5 x6 x7 x8 jC bL bY jD m_length oF rP dQ sW uZ vY := by
  have l0 := aEc
  have l1 := li_8
  refine And.intro (fun c59 => ?_) (fun c59 => ?_)
  · skip
    have c59 := (aAO _ _).mp c59
    have f60 := aAT x4
    have f61 := aAT x7
    exact ts_X10_grass_219 aG nG qO qQ vZ xT zG zI hpost hK134 hK142 x1 x2 x4 x5 x6 x7 jC bL bY jD m_length oF rP dQ sW uZ vY aBK aBN aF7 h_x6 aA4 yJ yG yM zE aAR aA1 aAA aBW (by first | assumption | exact GD_init (by omega) | exact GD_dn (by assumption) (by omega) (by omega) | exact GD_s (by assumption) (by omega) | exact GD_eq (by assumption) (by omega)) (by first | assumption | exact AL_z (by omega) | exact AL_s (by assumption) (by omega) | exact AL_le (by assumption) (by omega)) hx2 hx3 hx4 hx5 (by first | assumption | exact SU_0 (by omega) | exact SU_s (by assumption) (by omega) | exact SU_le (by assumption) (by omega)) hn134 hn142
  · skip
    have c59 := mt (aAO _ _).mpr c59
    have f63 : Int32.toInt (x2 - 1) = Int32.toInt x2 - Int32.toInt (1 : Int32) := aCA _ _ ⟨by omega, by omega⟩
    refine And.intro (fun c62 => ?_) (fun c62 => ?_)
    · skip
      have c62 := (aAO _ _).mp c62
      have f64 := aAT x4
      have f65 := aAT x7
      exact ts_X10_grass_219 aG nG qO qQ vZ xT zG zI hpost hK134 hK142 x1 x2 x4 x5 x6 x7 jC bL bY jD m_length oF rP dQ sW uZ vY aBK aBN aF7 h_x6 aA4 yJ yG yM zE aAR aA1 aAA aBW (by first | assumption | exact GD_init (by omega) | exact GD_dn (by assumption) (by omega) (by omega) | exact GD_s (by assumption) (by omega) | exact GD_eq (by assumption) (by omega)) (by first | assumption | exact AL_z (by omega) | exact AL_s (by assumption) (by omega) | exact AL_le (by assumption) (by omega)) hx2 hx3 hx4 hx5 (by first | assumption | exact SU_0 (by omega) | exact SU_s (by assumption) (by omega) | exact SU_le (by assumption) (by omega)) hn134 hn142
    · skip
      have c62 := mt (aAO _ _).mpr c62
      refine And.intro (fun c66 => ?_) (fun c66 => ?_)
      · skip
        have c66 := (zJ _ _).mp c66
        have f67 := aAT x4
        have f68 := aAT x7
        exact ts_X10_grass_213 aG nG qO qQ vZ xT zG zI hpost hK134 hK142 hKn x1 x2 x4 x5 x6 x7 x8 jC bL bY jD m_length oF rP dQ sW uZ vY aBK aBN ⟨by omega, by omega⟩ h_x6 ⟨by omega, by omega⟩ aA4 yJ yG yM zE aAR aA1 aAA aBW (by first | assumption | exact GD_init (by omega) | exact GD_dn (by assumption) (by omega) (by omega) | exact GD_s (by assumption) (by omega) | exact GD_eq (by assumption) (by omega)) (by first | assumption | exact AL_z (by omega) | exact AL_s (by assumption) (by omega) | exact AL_le (by assumption) (by omega)) hx2 hx3 hx4 hx5 (by omega) (by first | assumption | exact SU_1 (by assumption) | exact SU_add (by assumption) (by assumption) (by omega) (by omega) (by omega) (by omega)) hn134 hn142 hn169
      · skip
        have c66 := mt (zJ _ _).mpr c66
        intro v69 ev69
        have f71 : Int32.toInt (x5 + 1) = Int32.toInt x5 + Int32.toInt (1 : Int32) := aAD _ _ ⟨by omega, by omega⟩
        have f70 : Int32.toInt (8 * (x5 + 1)) = Int32.toInt (x5 + 1) * 8 := ta_cmul _ _ (by decide) ⟨by omega, by omega⟩
        rw [← ev69] at f70
        intro v72 ev72
        have f73 : Int32.toInt (v69 + x8) = Int32.toInt v69 + Int32.toInt x8 := aAD _ _ ⟨by omega, by omega⟩
        rw [← ev72] at f73
        refine And.intro (aBZ ⟨by omega, by omega⟩) ?_
        intro v74 ev74
        have hv74 := congrArg Int32.toInt ev74
        have f76 := aAT x4
        have f77 := aAT v74
        exact ts_X10_grass_213 aG nG qO qQ vZ xT zG zI hpost hK134 hK142 hKn x1 x2 x4 x5 x6 v74 x8 jC bL bY jD m_length oF rP dQ sW uZ vY aBK aBN ⟨by omega, by omega⟩ h_x6 ⟨by omega, by omega⟩ aA4 yJ yG yM zE aAR aA1 aAA aBW (by first | assumption | exact GD_init (by omega) | exact GD_dn (by assumption) (by omega) (by omega) | exact GD_s (by assumption) (by omega) | exact GD_eq (by assumption) (by omega)) (by first | assumption | exact AL_z (by omega) | exact AL_s (by assumption) (by omega) | exact AL_le (by assumption) (by omega)) hx2 hx3 hx4 hx5 (by omega) (by first | assumption | exact SU_1 (by assumption) | exact SU_add (by assumption) (by assumption) (by omega) (by omega) (by omega) (by omega)) hn134 hn142 hn169
set_option maxHeartbeats 8000000 in
set_option maxRecDepth 200000 in
theorem tb_X10_grass_169 {post : Int32 → Int32 → Int32 → Int32 → Nat → Int32 → Int32 → Int32 → Int32 → (Nat → Int32) → (Nat → Int32) → (Nat → Int32) → Prop} {K134 : Int32 → Int32 → Int32 → Int32 → Int32 → Int32 → Int32 → Nat → Int32 → Int32 → Int32 → Int32 → (Nat → Int32) → (Nat → Int32) → (Nat → Int32) → Prop} {K142 : Int32 → Int32 → Int32 → Int32 → Int32 → Int32 → Int32 → Int32 → Nat → Int32 → Int32 → Int32 → Int32 → (Nat → Int32) → (Nat → Int32) → (Nat → Int32) → Prop} {n134 n142 : Int} (aG : Int32) (nG qO qQ : Nat → Int32) (vZ : 0 ≤ Int32.toInt aG ∧ Int32.toInt aG ≤ 8) (xT : ∀ k : Nat, 0 ≤ Int32.toInt (nG k) ∧ Int32.toInt (nG k) ≤ 99) (zG : ∀ k : Nat, -128 ≤ Int32.toInt (qO k) ∧ Int32.toInt (qO k) ≤ 127) (zI : ∀ k : Nat, -128 ≤ Int32.toInt (qQ k) ∧ Int32.toInt (qQ k) ≤ 127) (hpost : ∀ (r : Int32) (aBT : Int32) (xM : Int32) (xG : Int32) (aAP : Nat) (zS : Int32) (aAz : Int32) (aAm : Int32) (zH : Int32) (aBX : Nat → Int32) (aDo : Nat → Int32) (aOe : Nat → Int32), (0 ≤ Int32.toInt aBT ∧ Int32.toInt aBT ≤ 0) → (0 ≤ Int32.toInt xM ∧ Int32.toInt xM ≤ 16) → (0 ≤ Int32.toInt xG ∧ Int32.toInt xG ≤ 0) → (aAP = 1) → (0 ≤ Int32.toInt zS ∧ Int32.toInt zS ≤ 80) → (80 ≤ Int32.toInt aAz ∧ Int32.toInt aAz ≤ 80) → (0 ≤ Int32.toInt aAm ∧ Int32.toInt aAm ≤ 80) → (-1 ≤ Int32.toInt zH ∧ Int32.toInt zH ≤ 80) → (∀ k : Nat, 0 ≤ Int32.toInt (aDo k) ∧ Int32.toInt (aDo k) ≤ 99) → post r aBT xM xG aAP zS aAz aAm zH aBX aDo aOe) (hK134 : ∀ (x1 : Int32) (x2 : Int32) (x4 : Int32) (x5 : Int32) (jC : Int32) (bL : Int32) (bY : Int32) (jD : Nat) (m_length : Int32) (oF : Int32) (rP : Int32) (dQ : Int32) (sW : Nat → Int32) (uZ : Nat → Int32) (vY : Nat → Int32), (0 ≤ Int32.toInt x1 ∧ Int32.toInt x1 ≤ 99) → (0 ≤ Int32.toInt x2 ∧ Int32.toInt x2 ≤ 7) → (-1 ≤ Int32.toInt x5 ∧ Int32.toInt x5 ≤ 6) → (0 ≤ Int32.toInt jC ∧ Int32.toInt jC ≤ 0) → (0 ≤ Int32.toInt bL ∧ Int32.toInt bL ≤ 16) → (0 ≤ Int32.toInt bY ∧ Int32.toInt bY ≤ 0) → (jD = 1) → (0 ≤ Int32.toInt m_length ∧ Int32.toInt m_length ≤ 80) → (80 ≤ Int32.toInt oF ∧ Int32.toInt oF ≤ 80) → (0 ≤ Int32.toInt rP ∧ Int32.toInt rP ≤ 80) → (-1 ≤ Int32.toInt dQ ∧ Int32.toInt dQ ≤ -1) → (∀ k : Nat, 0 ≤ Int32.toInt (uZ k) ∧ Int32.toInt (uZ k) ≤ 99) → (GD vY x2 aG x5 0) → (AL vY x4 aG) → (0 ≤ Int32.toInt x5 → Int32.toInt x4 = 0) → (Int32.toInt x5 ≤ Int32.toInt x2 - 1) → (Int32.toInt x2 ≤ 6) → (Int32.toInt x5 + 1 < n134) → K134 x1 x2 x4 x5 jC bL bY jD m_length oF rP dQ sW uZ vY) (hK142 : ∀ (x1 : Int32) (x2 : Int32) (x4 : Int32) (x5 : Int32) (x6 : Int32) (jC : Int32) (bL : Int32) (bY : Int32) (jD : Nat) (m_length : Int32) (oF : Int32) (rP : Int32) (dQ : Int32) (sW : Nat → Int32) (uZ : Nat → Int32) (vY : Nat → Int32), (0 ≤ Int32.toInt x1 ∧ Int32.toInt x1 ≤ 99) → (0 ≤ Int32.toInt x2 ∧ Int32.toInt x2 ≤ 7) → (0 ≤ Int32.toInt x5 ∧ Int32.toInt x5 ≤ 6) → (0 ≤ Int32.toInt x6 ∧ Int32.toInt x6 ≤ 8) → (0 ≤ Int32.toInt jC ∧ Int32.toInt jC ≤ 0) → (0 ≤ Int32.toInt bL ∧ Int32.toInt bL ≤ 16) → (0 ≤ Int32.toInt bY ∧ Int32.toInt bY ≤ 0) → (jD = 1) → (0 ≤ Int32.toInt m_length ∧ Int32.toInt m_length ≤ 80) → (80 ≤ Int32.toInt oF ∧ Int32.toInt oF ≤ 80) → (0 ≤ Int32.toInt rP ∧ Int32.toInt rP ≤ 80) → (-1 ≤ Int32.toInt dQ ∧ Int32.toInt dQ ≤ -1) → (∀ k : Nat, 0 ≤ Int32.toInt (uZ k) ∧ Int32.toInt (uZ k) ≤ 99) → (GD vY x2 aG x5 x6) → (AL vY x4 x6) → (1 ≤ Int32.toInt x5 → Int32.toInt x4 = 0) → (Int32.toInt x5 ≤ Int32.toInt x2 - 1) → (Int32.toInt x2 ≤ 6) → (Int32.toInt x6 ≤ Int32.toInt aG) → (Int32.toInt x5 + 1 ≤ n134) → (8 - Int32.toInt x6 < n142) → K142 x1 x2 x4 x5 x6 jC bL bY jD m_length oF rP dQ sW uZ vY) : ∀ (n : Nat) (x1 x2 x4 x5 x6 x7 x8 jC bL bY : Int32) (jD : Nat) (m_length oF rP dQ : Int32) (sW uZ vY : Nat → Int32), (0 ≤ Int32.toInt x1 ∧ Int32.toInt x1 ≤ 99) → (0 ≤ Int32.toInt x2 ∧ Int32.toInt x2 ≤ 7) → (0 ≤ Int32.toInt x5 ∧ Int32.toInt x5 ≤ 6) → (0 ≤ Int32.toInt x6 ∧ Int32.toInt x6 ≤ 7) → (0 ≤ Int32.toInt x8 ∧ Int32.toInt x8 ≤ 8) → (0 ≤ Int32.toInt jC ∧ Int32.toInt jC ≤ 0) → (0 ≤ Int32.toInt bL ∧ Int32.toInt bL ≤ 16) → (0 ≤ Int32.toInt bY ∧ Int32.toInt bY ≤ 0) → (jD = 1) → (0 ≤ Int32.toInt m_length ∧ Int32.toInt m_length ≤ 80) → (80 ≤ Int32.toInt oF ∧ Int32.toInt oF ≤ 80) → (0 ≤ Int32.toInt rP ∧ Int32.toInt rP ≤ 80) → (-1 ≤ Int32.toInt dQ ∧ Int32.toInt dQ ≤ -1) → (∀ k : Nat, 0 ≤ Int32.toInt (uZ k) ∧ Int32.toInt (uZ k) ≤ 99) → (GD vY x2 aG x5 x6) → (AL vY x4 x6) → (1 ≤ Int32.toInt x5 → Int32.toInt x4 = 0) → (Int32.toInt x5 ≤ Int32.toInt x2 - 1) → (Int32.toInt x2 ≤ 6) → (Int32.toInt x6 < Int32.toInt aG) → (Int32.toInt x8 ≤ Int32.toInt aG) → (SU vY x2 x5 x6 x8 x7) → (Int32.toInt x5 + 1 ≤ n134) → (8 - Int32.toInt x6 ≤ n142) → (8 - Int32.toInt x8 < (n : Int)) → wb_X10_grass_169 post K134 K142 aG nG qO qQ n x1 x2 x4 x5 x6 x7 x8 jC bL bY jD m_length oF rP dQ sW uZ vY := by
  intro n
  induction n with
  | zero =>
    intro x1 x2 x4 x5 x6 x7 x8 jC bL bY jD m_length oF rP dQ sW uZ vY aBK aBN aF7 h_x6 h_x8 aA4 yJ yG yM zE aAR aA1 aAA aBW hx0 hx1 hx2 hx3 hx4 hx5 hx6 hx7 hn134 hn142 hm
    exfalso; omega
  | succ n ih =>
    intro x1 x2 x4 x5 x6 x7 x8 jC bL bY jD m_length oF rP dQ sW uZ vY aBK aBN aF7 h_x6 h_x8 aA4 yJ yG yM zE aAR aA1 aAA aBW hx0 hx1 hx2 hx3 hx4 hx5 hx6 hx7 hn134 hn142 hm
    exact ts_X10_grass_169 aG nG qO qQ vZ xT zG zI hpost hK134 hK142 ih x1 x2 x4 x5 x6 x7 x8 jC bL bY jD m_length oF rP dQ sW uZ vY aBK aBN aF7 h_x6 h_x8 aA4 yJ yG yM zE aAR aA1 aAA aBW hx0 hx1 hx2 hx3 hx4 hx5 hx6 hx7 hn134 hn142 (by omega)
set_option maxHeartbeats 8000000 in
set_option maxRecDepth 200000 in
theorem ts_X10_grass_164 {post : Int32 → Int32 → Int32 → Int32 → Nat → Int32 → Int32 → Int32 → Int32 → (Nat → Int32) → (Nat → Int32) → (Nat → Int32) → Prop} {K134 : Int32 → Int32 → Int32 → Int32 → Int32 → Int32 → Int32 → Nat → Int32 → Int32 → Int32 → Int32 → (Nat → Int32) → (Nat → Int32) → (Nat → Int32) → Prop} {K142 : Int32 → Int32 → Int32 → Int32 → Int32 → Int32 → Int32 → Int32 → Nat → Int32 → Int32 → Int32 → Int32 → (Nat → Int32) → (Nat → Int32) → (Nat → Int32) → Prop} {n134 n142 : Int} (aG : Int32) (nG qO qQ : Nat → Int32) (vZ : 0 ≤ Int32.toInt aG ∧ Int32.toInt aG ≤ 8) (xT : ∀ k : Nat, 0 ≤ Int32.toInt (nG k) ∧ Int32.toInt (nG k) ≤ 99) (zG : ∀ k : Nat, -128 ≤ Int32.toInt (qO k) ∧ Int32.toInt (qO k) ≤ 127) (zI : ∀ k : Nat, -128 ≤ Int32.toInt (qQ k) ∧ Int32.toInt (qQ k) ≤ 127) (hpost : ∀ (r : Int32) (aBT : Int32) (xM : Int32) (xG : Int32) (aAP : Nat) (zS : Int32) (aAz : Int32) (aAm : Int32) (zH : Int32) (aBX : Nat → Int32) (aDo : Nat → Int32) (aOe : Nat → Int32), (0 ≤ Int32.toInt aBT ∧ Int32.toInt aBT ≤ 0) → (0 ≤ Int32.toInt xM ∧ Int32.toInt xM ≤ 16) → (0 ≤ Int32.toInt xG ∧ Int32.toInt xG ≤ 0) → (aAP = 1) → (0 ≤ Int32.toInt zS ∧ Int32.toInt zS ≤ 80) → (80 ≤ Int32.toInt aAz ∧ Int32.toInt aAz ≤ 80) → (0 ≤ Int32.toInt aAm ∧ Int32.toInt aAm ≤ 80) → (-1 ≤ Int32.toInt zH ∧ Int32.toInt zH ≤ 80) → (∀ k : Nat, 0 ≤ Int32.toInt (aDo k) ∧ Int32.toInt (aDo k) ≤ 99) → post r aBT xM xG aAP zS aAz aAm zH aBX aDo aOe) (hK134 : ∀ (x1 : Int32) (x2 : Int32) (x4 : Int32) (x5 : Int32) (jC : Int32) (bL : Int32) (bY : Int32) (jD : Nat) (m_length : Int32) (oF : Int32) (rP : Int32) (dQ : Int32) (sW : Nat → Int32) (uZ : Nat → Int32) (vY : Nat → Int32), (0 ≤ Int32.toInt x1 ∧ Int32.toInt x1 ≤ 99) → (0 ≤ Int32.toInt x2 ∧ Int32.toInt x2 ≤ 7) → (-1 ≤ Int32.toInt x5 ∧ Int32.toInt x5 ≤ 6) → (0 ≤ Int32.toInt jC ∧ Int32.toInt jC ≤ 0) → (0 ≤ Int32.toInt bL ∧ Int32.toInt bL ≤ 16) → (0 ≤ Int32.toInt bY ∧ Int32.toInt bY ≤ 0) → (jD = 1) → (0 ≤ Int32.toInt m_length ∧ Int32.toInt m_length ≤ 80) → (80 ≤ Int32.toInt oF ∧ Int32.toInt oF ≤ 80) → (0 ≤ Int32.toInt rP ∧ Int32.toInt rP ≤ 80) → (-1 ≤ Int32.toInt dQ ∧ Int32.toInt dQ ≤ -1) → (∀ k : Nat, 0 ≤ Int32.toInt (uZ k) ∧ Int32.toInt (uZ k) ≤ 99) → (GD vY x2 aG x5 0) → (AL vY x4 aG) → (0 ≤ Int32.toInt x5 → Int32.toInt x4 = 0) → (Int32.toInt x5 ≤ Int32.toInt x2 - 1) → (Int32.toInt x2 ≤ 6) → (Int32.toInt x5 + 1 < n134) → K134 x1 x2 x4 x5 jC bL bY jD m_length oF rP dQ sW uZ vY) (hK142 : ∀ (x1 : Int32) (x2 : Int32) (x4 : Int32) (x5 : Int32) (x6 : Int32) (jC : Int32) (bL : Int32) (bY : Int32) (jD : Nat) (m_length : Int32) (oF : Int32) (rP : Int32) (dQ : Int32) (sW : Nat → Int32) (uZ : Nat → Int32) (vY : Nat → Int32), (0 ≤ Int32.toInt x1 ∧ Int32.toInt x1 ≤ 99) → (0 ≤ Int32.toInt x2 ∧ Int32.toInt x2 ≤ 7) → (0 ≤ Int32.toInt x5 ∧ Int32.toInt x5 ≤ 6) → (0 ≤ Int32.toInt x6 ∧ Int32.toInt x6 ≤ 8) → (0 ≤ Int32.toInt jC ∧ Int32.toInt jC ≤ 0) → (0 ≤ Int32.toInt bL ∧ Int32.toInt bL ≤ 16) → (0 ≤ Int32.toInt bY ∧ Int32.toInt bY ≤ 0) → (jD = 1) → (0 ≤ Int32.toInt m_length ∧ Int32.toInt m_length ≤ 80) → (80 ≤ Int32.toInt oF ∧ Int32.toInt oF ≤ 80) → (0 ≤ Int32.toInt rP ∧ Int32.toInt rP ≤ 80) → (-1 ≤ Int32.toInt dQ ∧ Int32.toInt dQ ≤ -1) → (∀ k : Nat, 0 ≤ Int32.toInt (uZ k) ∧ Int32.toInt (uZ k) ≤ 99) → (GD vY x2 aG x5 x6) → (AL vY x4 x6) → (1 ≤ Int32.toInt x5 → Int32.toInt x4 = 0) → (Int32.toInt x5 ≤ Int32.toInt x2 - 1) → (Int32.toInt x2 ≤ 6) → (Int32.toInt x6 ≤ Int32.toInt aG) → (Int32.toInt x5 + 1 ≤ n134) → (8 - Int32.toInt x6 < n142) → K142 x1 x2 x4 x5 x6 jC bL bY jD m_length oF rP dQ sW uZ vY) (x1 x2 x4 x5 x6 k0 jC bL bY : Int32) (jD : Nat) (m_length oF rP dQ : Int32) (sW uZ vY : Nat → Int32) (aBK : 0 ≤ Int32.toInt x1 ∧ Int32.toInt x1 ≤ 99) (aBN : 0 ≤ Int32.toInt x2 ∧ Int32.toInt x2 ≤ 7) (aF7 : 0 ≤ Int32.toInt x5 ∧ Int32.toInt x5 ≤ 6) (h_x6 : 0 ≤ Int32.toInt x6 ∧ Int32.toInt x6 ≤ 7) (h_k0 : 0 ≤ Int32.toInt k0 ∧ Int32.toInt k0 ≤ 1) (aA4 : 0 ≤ Int32.toInt jC ∧ Int32.toInt jC ≤ 0) (yJ : 0 ≤ Int32.toInt bL ∧ Int32.toInt bL ≤ 16) (yG : 0 ≤ Int32.toInt bY ∧ Int32.toInt bY ≤ 0) (yM : jD = 1) (zE : 0 ≤ Int32.toInt m_length ∧ Int32.toInt m_length ≤ 80) (aAR : 80 ≤ Int32.toInt oF ∧ Int32.toInt oF ≤ 80) (aA1 : 0 ≤ Int32.toInt rP ∧ Int32.toInt rP ≤ 80) (aAA : -1 ≤ Int32.toInt dQ ∧ Int32.toInt dQ ≤ -1) (aBW : ∀ k : Nat, 0 ≤ Int32.toInt (uZ k) ∧ Int32.toInt (uZ k) ≤ 99) (hx0 : GD vY x2 aG x5 x6) (hx1 : AL vY x4 x6) (hx2 : 1 ≤ Int32.toInt x5 → Int32.toInt x4 = 0) (hx3 : Int32.toInt x5 ≤ Int32.toInt x2 - 1) (hx4 : Int32.toInt x2 ≤ 6) (hx5 : Int32.toInt x6 < Int32.toInt aG) (hx6 : Int32.toInt k0 = 0 ∨ Int32.toInt x5 = Int32.toInt x2 - 1) (hn134 : Int32.toInt x5 + 1 ≤ n134) (hn142 : 8 - Int32.toInt x6 ≤ n142) : ws_X10_grass_164 post K134 K142 aG nG qO qQ x1 x2 x4 x5 x6 k0 jC bL bY jD m_length oF rP dQ sW uZ vY := by
  have l0 := aE0
  have f78 := aAT x4
  exact ⟨10, tb_X10_grass_169 aG nG qO qQ vZ xT zG zI hpost hK134 hK142 _ x1 x2 x4 x5 x6 k0 0 jC bL bY jD m_length oF rP dQ sW uZ vY aBK aBN aF7 h_x6 ⟨by omega, by omega⟩ aA4 yJ yG yM zE aAR aA1 aAA aBW (by first | assumption | exact GD_init (by omega) | exact GD_dn (by assumption) (by omega) (by omega) | exact GD_s (by assumption) (by omega) | exact GD_eq (by assumption) (by omega)) (by first | assumption | exact AL_z (by omega) | exact AL_s (by assumption) (by omega) | exact AL_le (by assumption) (by omega)) hx2 hx3 hx4 hx5 (by omega) (by first | assumption | exact SU_0 (by omega) | exact SU_s (by assumption) (by omega) | exact SU_le (by assumption) (by omega)) hn134 hn142 (by omega)⟩
set_option maxHeartbeats 8000000 in
set_option maxRecDepth 200000 in
theorem ts_X10_grass_142 {post : Int32 → Int32 → Int32 → Int32 → Nat → Int32 → Int32 → Int32 → Int32 → (Nat → Int32) → (Nat → Int32) → (Nat → Int32) → Prop} {K134 : Int32 → Int32 → Int32 → Int32 → Int32 → Int32 → Int32 → Nat → Int32 → Int32 → Int32 → Int32 → (Nat → Int32) → (Nat → Int32) → (Nat → Int32) → Prop} {next : Int32 → Int32 → Int32 → Int32 → Int32 → Int32 → Int32 → Int32 → Nat → Int32 → Int32 → Int32 → Int32 → (Nat → Int32) → (Nat → Int32) → (Nat → Int32) → Prop} {n142 n134 : Int} (aG : Int32) (nG qO qQ : Nat → Int32) (vZ : 0 ≤ Int32.toInt aG ∧ Int32.toInt aG ≤ 8) (xT : ∀ k : Nat, 0 ≤ Int32.toInt (nG k) ∧ Int32.toInt (nG k) ≤ 99) (zG : ∀ k : Nat, -128 ≤ Int32.toInt (qO k) ∧ Int32.toInt (qO k) ≤ 127) (zI : ∀ k : Nat, -128 ≤ Int32.toInt (qQ k) ∧ Int32.toInt (qQ k) ≤ 127) (hpost : ∀ (r : Int32) (aBT : Int32) (xM : Int32) (xG : Int32) (aAP : Nat) (zS : Int32) (aAz : Int32) (aAm : Int32) (zH : Int32) (aBX : Nat → Int32) (aDo : Nat → Int32) (aOe : Nat → Int32), (0 ≤ Int32.toInt aBT ∧ Int32.toInt aBT ≤ 0) → (0 ≤ Int32.toInt xM ∧ Int32.toInt xM ≤ 16) → (0 ≤ Int32.toInt xG ∧ Int32.toInt xG ≤ 0) → (aAP = 1) → (0 ≤ Int32.toInt zS ∧ Int32.toInt zS ≤ 80) → (80 ≤ Int32.toInt aAz ∧ Int32.toInt aAz ≤ 80) → (0 ≤ Int32.toInt aAm ∧ Int32.toInt aAm ≤ 80) → (-1 ≤ Int32.toInt zH ∧ Int32.toInt zH ≤ 80) → (∀ k : Nat, 0 ≤ Int32.toInt (aDo k) ∧ Int32.toInt (aDo k) ≤ 99) → post r aBT xM xG aAP zS aAz aAm zH aBX aDo aOe) (hK134 : ∀ (x1 : Int32) (x2 : Int32) (x4 : Int32) (x5 : Int32) (jC : Int32) (bL : Int32) (bY : Int32) (jD : Nat) (m_length : Int32) (oF : Int32) (rP : Int32) (dQ : Int32) (sW : Nat → Int32) (uZ : Nat → Int32) (vY : Nat → Int32), (0 ≤ Int32.toInt x1 ∧ Int32.toInt x1 ≤ 99) → (0 ≤ Int32.toInt x2 ∧ Int32.toInt x2 ≤ 7) → (-1 ≤ Int32.toInt x5 ∧ Int32.toInt x5 ≤ 6) → (0 ≤ Int32.toInt jC ∧ Int32.toInt jC ≤ 0) → (0 ≤ Int32.toInt bL ∧ Int32.toInt bL ≤ 16) → (0 ≤ Int32.toInt bY ∧ Int32.toInt bY ≤ 0) → (jD = 1) → (0 ≤ Int32.toInt m_length ∧ Int32.toInt m_length ≤ 80) → (80 ≤ Int32.toInt oF ∧ Int32.toInt oF ≤ 80) → (0 ≤ Int32.toInt rP ∧ Int32.toInt rP ≤ 80) → (-1 ≤ Int32.toInt dQ ∧ Int32.toInt dQ ≤ -1) → (∀ k : Nat, 0 ≤ Int32.toInt (uZ k) ∧ Int32.toInt (uZ k) ≤ 99) → (GD vY x2 aG x5 0) → (AL vY x4 aG) → (0 ≤ Int32.toInt x5 → Int32.toInt x4 = 0) → (Int32.toInt x5 ≤ Int32.toInt x2 - 1) → (Int32.toInt x2 ≤ 6) → (Int32.toInt x5 + 1 < n134) → K134 x1 x2 x4 x5 jC bL bY jD m_length oF rP dQ sW uZ vY) (hKn : ∀ (x1 : Int32) (x2 : Int32) (x4 : Int32) (x5 : Int32) (x6 : Int32) (jC : Int32) (bL : Int32) (bY : Int32) (jD : Nat) (m_length : Int32) (oF : Int32) (rP : Int32) (dQ : Int32) (sW : Nat → Int32) (uZ : Nat → Int32) (vY : Nat → Int32), (0 ≤ Int32.toInt x1 ∧ Int32.toInt x1 ≤ 99) → (0 ≤ Int32.toInt x2 ∧ Int32.toInt x2 ≤ 7) → (0 ≤ Int32.toInt x5 ∧ Int32.toInt x5 ≤ 6) → (0 ≤ Int32.toInt x6 ∧ Int32.toInt x6 ≤ 8) → (0 ≤ Int32.toInt jC ∧ Int32.toInt jC ≤ 0) → (0 ≤ Int32.toInt bL ∧ Int32.toInt bL ≤ 16) → (0 ≤ Int32.toInt bY ∧ Int32.toInt bY ≤ 0) → (jD = 1) → (0 ≤ Int32.toInt m_length ∧ Int32.toInt m_length ≤ 80) → (80 ≤ Int32.toInt oF ∧ Int32.toInt oF ≤ 80) → (0 ≤ Int32.toInt rP ∧ Int32.toInt rP ≤ 80) → (-1 ≤ Int32.toInt dQ ∧ Int32.toInt dQ ≤ -1) → (∀ k : Nat, 0 ≤ Int32.toInt (uZ k) ∧ Int32.toInt (uZ k) ≤ 99) → (GD vY x2 aG x5 x6) → (AL vY x4 x6) → (1 ≤ Int32.toInt x5 → Int32.toInt x4 = 0) → (Int32.toInt x5 ≤ Int32.toInt x2 - 1) → (Int32.toInt x2 ≤ 6) → (Int32.toInt x6 ≤ Int32.toInt aG) → (Int32.toInt x5 + 1 ≤ n134) → (8 - Int32.toInt x6 < n142) → next x1 x2 x4 x5 x6 jC bL bY jD m_length oF rP dQ sW uZ vY) (x1 x2 x4 x5 x6 jC bL bY : Int32) (jD : Nat) (m_length oF rP dQ : Int32) (sW uZ vY : Nat → Int32) (aBK : 0 ≤ Int32.toInt x1 ∧ Int32.toInt x1 ≤ 99) (aBN : 0 ≤ Int32.toInt x2 ∧ Int32.toInt x2 ≤ 7) (aF7 : 0 ≤ Int32.toInt x5 ∧ Int32.toInt x5 ≤ 6) (h_x6 : 0 ≤ Int32.toInt x6 ∧ Int32.toInt x6 ≤ 8) (aA4 : 0 ≤ Int32.toInt jC ∧ Int32.toInt jC ≤ 0) (yJ : 0 ≤ Int32.toInt bL ∧ Int32.toInt bL ≤ 16) (yG : 0 ≤ Int32.toInt bY ∧ Int32.toInt bY ≤ 0) (yM : jD = 1) (zE : 0 ≤ Int32.toInt m_length ∧ Int32.toInt m_length ≤ 80) (aAR : 80 ≤ Int32.toInt oF ∧ Int32.toInt oF ≤ 80) (aA1 : 0 ≤ Int32.toInt rP ∧ Int32.toInt rP ≤ 80) (aAA : -1 ≤ Int32.toInt dQ ∧ Int32.toInt dQ ≤ -1) (aBW : ∀ k : Nat, 0 ≤ Int32.toInt (uZ k) ∧ Int32.toInt (uZ k) ≤ 99) (hx0 : GD vY x2 aG x5 x6) (hx1 : AL vY x4 x6) (hx2 : 1 ≤ Int32.toInt x5 → Int32.toInt x4 = 0) (hx3 : Int32.toInt x5 ≤ Int32.toInt x2 - 1) (hx4 : Int32.toInt x2 ≤ 6) (hx5 : Int32.toInt x6 ≤ Int32.toInt aG) (hn134 : Int32.toInt x5 + 1 ≤ n134) (hn142 : 8 - Int32.toInt x6 ≤ n142) : ws_X10_grass_142 post K134 next aG nG qO qQ x1 x2 x4 x5 x6 jC bL bY jD m_length oF rP dQ sW uZ vY := by
  have l0 := aI2
  have l1 := aE0
  have l2 := aEc
  refine And.intro (fun c79 => ?_) (fun c79 => ?_)
  · skip
    have c79 := (aAO _ _).mp c79
    intro v80 ev80
    have f81 : Int32.toInt (x5 + (-1)) = Int32.toInt x5 + Int32.toInt ((-1) : Int32) := aAD _ _ ⟨by omega, by omega⟩
    rw [← ev80] at f81
    have f82 := aAT x4
    exact hK134 x1 x2 x4 v80 jC bL bY jD m_length oF rP dQ sW uZ vY aBK aBN ⟨by omega, by omega⟩ aA4 yJ yG yM zE aAR aA1 aAA aBW (by first | assumption | exact GD_init (by omega) | exact GD_dn (by assumption) (by omega) (by omega) | exact GD_s (by assumption) (by omega) | exact GD_eq (by assumption) (by omega)) (by first | assumption | exact AL_z (by omega) | exact AL_s (by assumption) (by omega) | exact AL_le (by assumption) (by omega)) (by omega) (by omega) hx4 (by omega)
  · skip
    have c79 := mt (aAO _ _).mpr c79
    have f84 : Int32.toInt (x2 - 1) = Int32.toInt x2 - Int32.toInt (1 : Int32) := aCA _ _ ⟨by omega, by omega⟩
    refine And.intro (fun c83 => ?_) (fun c83 => ?_)
    · skip
      have c83 := mt (zJ _ _).mpr c83
      have f85 := aAT x4
      exact ts_X10_grass_164 aG nG qO qQ vZ xT zG zI hpost hK134 hKn x1 x2 x4 x5 x6 0 jC bL bY jD m_length oF rP dQ sW uZ vY aBK aBN aF7 ⟨by omega, by omega⟩ ⟨by omega, by omega⟩ aA4 yJ yG yM zE aAR aA1 aAA aBW (by first | assumption | exact GD_init (by omega) | exact GD_dn (by assumption) (by omega) (by omega) | exact GD_s (by assumption) (by omega) | exact GD_eq (by assumption) (by omega)) (by first | assumption | exact AL_z (by omega) | exact AL_s (by assumption) (by omega) | exact AL_le (by assumption) (by omega)) hx2 hx3 hx4 (by omega) (by omega) hn134 hn142
    · skip
      have c83 := (zJ _ _).mp c83
      have f86 := aAT x4
      exact ts_X10_grass_164 aG nG qO qQ vZ xT zG zI hpost hK134 hKn x1 x2 x4 x5 x6 1 jC bL bY jD m_length oF rP dQ sW uZ vY aBK aBN aF7 ⟨by omega, by omega⟩ ⟨by omega, by omega⟩ aA4 yJ yG yM zE aAR aA1 aAA aBW (by first | assumption | exact GD_init (by omega) | exact GD_dn (by assumption) (by omega) (by omega) | exact GD_s (by assumption) (by omega) | exact GD_eq (by assumption) (by omega)) (by first | assumption | exact AL_z (by omega) | exact AL_s (by assumption) (by omega) | exact AL_le (by assumption) (by omega)) hx2 hx3 hx4 (by omega) (by omega) hn134 hn142
set_option maxHeartbeats 8000000 in
set_option maxRecDepth 200000 in
theorem tb_X10_grass_142 {post : Int32 → Int32 → Int32 → Int32 → Nat → Int32 → Int32 → Int32 → Int32 → (Nat → Int32) → (Nat → Int32) → (Nat → Int32) → Prop} {K134 : Int32 → Int32 → Int32 → Int32 → Int32 → Int32 → Int32 → Nat → Int32 → Int32 → Int32 → Int32 → (Nat → Int32) → (Nat → Int32) → (Nat → Int32) → Prop} {n134 : Int} (aG : Int32) (nG qO qQ : Nat → Int32) (vZ : 0 ≤ Int32.toInt aG ∧ Int32.toInt aG ≤ 8) (xT : ∀ k : Nat, 0 ≤ Int32.toInt (nG k) ∧ Int32.toInt (nG k) ≤ 99) (zG : ∀ k : Nat, -128 ≤ Int32.toInt (qO k) ∧ Int32.toInt (qO k) ≤ 127) (zI : ∀ k : Nat, -128 ≤ Int32.toInt (qQ k) ∧ Int32.toInt (qQ k) ≤ 127) (hpost : ∀ (r : Int32) (aBT : Int32) (xM : Int32) (xG : Int32) (aAP : Nat) (zS : Int32) (aAz : Int32) (aAm : Int32) (zH : Int32) (aBX : Nat → Int32) (aDo : Nat → Int32) (aOe : Nat → Int32), (0 ≤ Int32.toInt aBT ∧ Int32.toInt aBT ≤ 0) → (0 ≤ Int32.toInt xM ∧ Int32.toInt xM ≤ 16) → (0 ≤ Int32.toInt xG ∧ Int32.toInt xG ≤ 0) → (aAP = 1) → (0 ≤ Int32.toInt zS ∧ Int32.toInt zS ≤ 80) → (80 ≤ Int32.toInt aAz ∧ Int32.toInt aAz ≤ 80) → (0 ≤ Int32.toInt aAm ∧ Int32.toInt aAm ≤ 80) → (-1 ≤ Int32.toInt zH ∧ Int32.toInt zH ≤ 80) → (∀ k : Nat, 0 ≤ Int32.toInt (aDo k) ∧ Int32.toInt (aDo k) ≤ 99) → post r aBT xM xG aAP zS aAz aAm zH aBX aDo aOe) (hK134 : ∀ (x1 : Int32) (x2 : Int32) (x4 : Int32) (x5 : Int32) (jC : Int32) (bL : Int32) (bY : Int32) (jD : Nat) (m_length : Int32) (oF : Int32) (rP : Int32) (dQ : Int32) (sW : Nat → Int32) (uZ : Nat → Int32) (vY : Nat → Int32), (0 ≤ Int32.toInt x1 ∧ Int32.toInt x1 ≤ 99) → (0 ≤ Int32.toInt x2 ∧ Int32.toInt x2 ≤ 7) → (-1 ≤ Int32.toInt x5 ∧ Int32.toInt x5 ≤ 6) → (0 ≤ Int32.toInt jC ∧ Int32.toInt jC ≤ 0) → (0 ≤ Int32.toInt bL ∧ Int32.toInt bL ≤ 16) → (0 ≤ Int32.toInt bY ∧ Int32.toInt bY ≤ 0) → (jD = 1) → (0 ≤ Int32.toInt m_length ∧ Int32.toInt m_length ≤ 80) → (80 ≤ Int32.toInt oF ∧ Int32.toInt oF ≤ 80) → (0 ≤ Int32.toInt rP ∧ Int32.toInt rP ≤ 80) → (-1 ≤ Int32.toInt dQ ∧ Int32.toInt dQ ≤ -1) → (∀ k : Nat, 0 ≤ Int32.toInt (uZ k) ∧ Int32.toInt (uZ k) ≤ 99) → (GD vY x2 aG x5 0) → (AL vY x4 aG) → (0 ≤ Int32.toInt x5 → Int32.toInt x4 = 0) → (Int32.toInt x5 ≤ Int32.toInt x2 - 1) → (Int32.toInt x2 ≤ 6) → (Int32.toInt x5 + 1 < n134) → K134 x1 x2 x4 x5 jC bL bY jD m_length oF rP dQ sW uZ vY) : ∀ (n : Nat) (x1 x2 x4 x5 x6 jC bL bY : Int32) (jD : Nat) (m_length oF rP dQ : Int32) (sW uZ vY : Nat → Int32), (0 ≤ Int32.toInt x1 ∧ Int32.toInt x1 ≤ 99) → (0 ≤ Int32.toInt x2 ∧ Int32.toInt x2 ≤ 7) → (0 ≤ Int32.toInt x5 ∧ Int32.toInt x5 ≤ 6) → (0 ≤ Int32.toInt x6 ∧ Int32.toInt x6 ≤ 8) → (0 ≤ Int32.toInt jC ∧ Int32.toInt jC ≤ 0) → (0 ≤ Int32.toInt bL ∧ Int32.toInt bL ≤ 16) → (0 ≤ Int32.toInt bY ∧ Int32.toInt bY ≤ 0) → (jD = 1) → (0 ≤ Int32.toInt m_length ∧ Int32.toInt m_length ≤ 80) → (80 ≤ Int32.toInt oF ∧ Int32.toInt oF ≤ 80) → (0 ≤ Int32.toInt rP ∧ Int32.toInt rP ≤ 80) → (-1 ≤ Int32.toInt dQ ∧ Int32.toInt dQ ≤ -1) → (∀ k : Nat, 0 ≤ Int32.toInt (uZ k) ∧ Int32.toInt (uZ k) ≤ 99) → (GD vY x2 aG x5 x6) → (AL vY x4 x6) → (1 ≤ Int32.toInt x5 → Int32.toInt x4 = 0) → (Int32.toInt x5 ≤ Int32.toInt x2 - 1) → (Int32.toInt x2 ≤ 6) → (Int32.toInt x6 ≤ Int32.toInt aG) → (Int32.toInt x5 + 1 ≤ n134) → (8 - Int32.toInt x6 < (n : Int)) → wb_X10_grass_142 post K134 aG nG qO qQ n x1 x2 x4 x5 x6 jC bL bY jD m_length oF rP dQ sW uZ vY := by
  intro n
  induction n with
  | zero =>
    intro x1 x2 x4 x5 x6 jC bL bY jD m_length oF rP dQ sW uZ vY aBK aBN aF7 h_x6 aA4 yJ yG yM zE aAR aA1 aAA aBW hx0 hx1 hx2 hx3 hx4 hx5 hn134 hm
    exfalso; omega
  | succ n ih =>
    intro x1 x2 x4 x5 x6 jC bL bY jD m_length oF rP dQ sW uZ vY aBK aBN aF7 h_x6 aA4 yJ yG yM zE aAR aA1 aAA aBW hx0 hx1 hx2 hx3 hx4 hx5 hn134 hm
    exact ts_X10_grass_142 aG nG qO qQ vZ xT zG zI hpost hK134 ih x1 x2 x4 x5 x6 jC bL bY jD m_length oF rP dQ sW uZ vY aBK aBN aF7 h_x6 aA4 yJ yG yM zE aAR aA1 aAA aBW hx0 hx1 hx2 hx3 hx4 hx5 hn134 (by omega)
set_option maxHeartbeats 8000000 in
set_option maxRecDepth 200000 in
theorem ts_X10_grass_134 {post : Int32 → Int32 → Int32 → Int32 → Nat → Int32 → Int32 → Int32 → Int32 → (Nat → Int32) → (Nat → Int32) → (Nat → Int32) → Prop} {next : Int32 → Int32 → Int32 → Int32 → Int32 → Int32 → Int32 → Nat → Int32 → Int32 → Int32 → Int32 → (Nat → Int32) → (Nat → Int32) → (Nat → Int32) → Prop} {n134 : Int} (aG : Int32) (nG qO qQ : Nat → Int32) (vZ : 0 ≤ Int32.toInt aG ∧ Int32.toInt aG ≤ 8) (xT : ∀ k : Nat, 0 ≤ Int32.toInt (nG k) ∧ Int32.toInt (nG k) ≤ 99) (zG : ∀ k : Nat, -128 ≤ Int32.toInt (qO k) ∧ Int32.toInt (qO k) ≤ 127) (zI : ∀ k : Nat, -128 ≤ Int32.toInt (qQ k) ∧ Int32.toInt (qQ k) ≤ 127) (hpost : ∀ (r : Int32) (aBT : Int32) (xM : Int32) (xG : Int32) (aAP : Nat) (zS : Int32) (aAz : Int32) (aAm : Int32) (zH : Int32) (aBX : Nat → Int32) (aDo : Nat → Int32) (aOe : Nat → Int32), (0 ≤ Int32.toInt aBT ∧ Int32.toInt aBT ≤ 0) → (0 ≤ Int32.toInt xM ∧ Int32.toInt xM ≤ 16) → (0 ≤ Int32.toInt xG ∧ Int32.toInt xG ≤ 0) → (aAP = 1) → (0 ≤ Int32.toInt zS ∧ Int32.toInt zS ≤ 80) → (80 ≤ Int32.toInt aAz ∧ Int32.toInt aAz ≤ 80) → (0 ≤ Int32.toInt aAm ∧ Int32.toInt aAm ≤ 80) → (-1 ≤ Int32.toInt zH ∧ Int32.toInt zH ≤ 80) → (∀ k : Nat, 0 ≤ Int32.toInt (aDo k) ∧ Int32.toInt (aDo k) ≤ 99) → post r aBT xM xG aAP zS aAz aAm zH aBX aDo aOe) (hKn : ∀ (x1 : Int32) (x2 : Int32) (x4 : Int32) (x5 : Int32) (jC : Int32) (bL : Int32) (bY : Int32) (jD : Nat) (m_length : Int32) (oF : Int32) (rP : Int32) (dQ : Int32) (sW : Nat → Int32) (uZ : Nat → Int32) (vY : Nat → Int32), (0 ≤ Int32.toInt x1 ∧ Int32.toInt x1 ≤ 99) → (0 ≤ Int32.toInt x2 ∧ Int32.toInt x2 ≤ 7) → (-1 ≤ Int32.toInt x5 ∧ Int32.toInt x5 ≤ 6) → (0 ≤ Int32.toInt jC ∧ Int32.toInt jC ≤ 0) → (0 ≤ Int32.toInt bL ∧ Int32.toInt bL ≤ 16) → (0 ≤ Int32.toInt bY ∧ Int32.toInt bY ≤ 0) → (jD = 1) → (0 ≤ Int32.toInt m_length ∧ Int32.toInt m_length ≤ 80) → (80 ≤ Int32.toInt oF ∧ Int32.toInt oF ≤ 80) → (0 ≤ Int32.toInt rP ∧ Int32.toInt rP ≤ 80) → (-1 ≤ Int32.toInt dQ ∧ Int32.toInt dQ ≤ -1) → (∀ k : Nat, 0 ≤ Int32.toInt (uZ k) ∧ Int32.toInt (uZ k) ≤ 99) → (GD vY x2 aG x5 0) → (AL vY x4 aG) → (0 ≤ Int32.toInt x5 → Int32.toInt x4 = 0) → (Int32.toInt x5 ≤ Int32.toInt x2 - 1) → (Int32.toInt x2 ≤ 6) → (Int32.toInt x5 + 1 < n134) → next x1 x2 x4 x5 jC bL bY jD m_length oF rP dQ sW uZ vY) (x1 x2 x4 x5 jC bL bY : Int32) (jD : Nat) (m_length oF rP dQ : Int32) (sW uZ vY : Nat → Int32) (aBK : 0 ≤ Int32.toInt x1 ∧ Int32.toInt x1 ≤ 99) (aBN : 0 ≤ Int32.toInt x2 ∧ Int32.toInt x2 ≤ 7) (aF7 : -1 ≤ Int32.toInt x5 ∧ Int32.toInt x5 ≤ 6) (aA4 : 0 ≤ Int32.toInt jC ∧ Int32.toInt jC ≤ 0) (yJ : 0 ≤ Int32.toInt bL ∧ Int32.toInt bL ≤ 16) (yG : 0 ≤ Int32.toInt bY ∧ Int32.toInt bY ≤ 0) (yM : jD = 1) (zE : 0 ≤ Int32.toInt m_length ∧ Int32.toInt m_length ≤ 80) (aAR : 80 ≤ Int32.toInt oF ∧ Int32.toInt oF ≤ 80) (aA1 : 0 ≤ Int32.toInt rP ∧ Int32.toInt rP ≤ 80) (aAA : -1 ≤ Int32.toInt dQ ∧ Int32.toInt dQ ≤ -1) (aBW : ∀ k : Nat, 0 ≤ Int32.toInt (uZ k) ∧ Int32.toInt (uZ k) ≤ 99) (hx0 : GD vY x2 aG x5 0) (hx1 : AL vY x4 aG) (hx2 : 0 ≤ Int32.toInt x5 → Int32.toInt x4 = 0) (hx3 : Int32.toInt x5 ≤ Int32.toInt x2 - 1) (hx4 : Int32.toInt x2 ≤ 6) (hn134 : Int32.toInt x5 + 1 ≤ n134) : ws_X10_grass_134 post next aG nG qO qQ x1 x2 x4 x5 jC bL bY jD m_length oF rP dQ sW uZ vY := by
  have l0 := aI2
  have l1 := aE0
  refine And.intro (fun c87 => ?_) (fun c87 => ?_)
  · skip
    have c87 := (aAd _ _).mp c87
    have f88 := aAT x4
    exact ⟨8, tb_X10_grass_300 aG nG qO qQ vZ xT zG zI hpost _ x2 x4 (-1) 0 jC 0 bY jD m_length oF rP dQ sW uZ vY aBN ⟨by omega, by omega⟩ ⟨by omega, by omega⟩ aA4 ⟨by omega, by omega⟩ yG yM zE aAR aA1 aAA aBW (by first | assumption | exact GD_init (by omega) | exact GD_dn (by assumption) (by omega) (by omega) | exact GD_s (by assumption) (by omega) | exact GD_eq (by assumption) (by omega)) (by first | assumption | exact NX_0 (by assumption) | exact NX_s (k := x6) (by assumption) (by assumption) (by omega) (by omega) (by omega) (by omega)) (by omega) (by omega) hx4 (by omega)⟩
  · skip
    have c87 := mt (aAd _ _).mpr c87
    have f89 := aAT x4
    exact ⟨10, tb_X10_grass_142 aG nG qO qQ vZ xT zG zI hpost hKn _ x1 x2 x4 x5 0 jC bL bY jD m_length oF rP dQ sW uZ vY aBK aBN ⟨by omega, by omega⟩ ⟨by omega, by omega⟩ aA4 yJ yG yM zE aAR aA1 aAA aBW (by first | assumption | exact GD_init (by omega) | exact GD_dn (by assumption) (by omega) (by omega) | exact GD_s (by assumption) (by omega) | exact GD_eq (by assumption) (by omega)) (by first | assumption | exact AL_z (by omega) | exact AL_s (by assumption) (by omega) | exact AL_le (by assumption) (by omega)) (by omega) hx3 hx4 (by omega) hn134 (by omega)⟩
set_option maxHeartbeats 8000000 in
set_option maxRecDepth 200000 in
theorem tb_X10_grass_134 {post : Int32 → Int32 → Int32 → Int32 → Nat → Int32 → Int32 → Int32 → Int32 → (Nat → Int32) → (Nat → Int32) → (Nat → Int32) → Prop} (aG : Int32) (nG qO qQ : Nat → Int32) (vZ : 0 ≤ Int32.toInt aG ∧ Int32.toInt aG ≤ 8) (xT : ∀ k : Nat, 0 ≤ Int32.toInt (nG k) ∧ Int32.toInt (nG k) ≤ 99) (zG : ∀ k : Nat, -128 ≤ Int32.toInt (qO k) ∧ Int32.toInt (qO k) ≤ 127) (zI : ∀ k : Nat, -128 ≤ Int32.toInt (qQ k) ∧ Int32.toInt (qQ k) ≤ 127) (hpost : ∀ (r : Int32) (aBT : Int32) (xM : Int32) (xG : Int32) (aAP : Nat) (zS : Int32) (aAz : Int32) (aAm : Int32) (zH : Int32) (aBX : Nat → Int32) (aDo : Nat → Int32) (aOe : Nat → Int32), (0 ≤ Int32.toInt aBT ∧ Int32.toInt aBT ≤ 0) → (0 ≤ Int32.toInt xM ∧ Int32.toInt xM ≤ 16) → (0 ≤ Int32.toInt xG ∧ Int32.toInt xG ≤ 0) → (aAP = 1) → (0 ≤ Int32.toInt zS ∧ Int32.toInt zS ≤ 80) → (80 ≤ Int32.toInt aAz ∧ Int32.toInt aAz ≤ 80) → (0 ≤ Int32.toInt aAm ∧ Int32.toInt aAm ≤ 80) → (-1 ≤ Int32.toInt zH ∧ Int32.toInt zH ≤ 80) → (∀ k : Nat, 0 ≤ Int32.toInt (aDo k) ∧ Int32.toInt (aDo k) ≤ 99) → post r aBT xM xG aAP zS aAz aAm zH aBX aDo aOe) : ∀ (n : Nat) (x1 x2 x4 x5 jC bL bY : Int32) (jD : Nat) (m_length oF rP dQ : Int32) (sW uZ vY : Nat → Int32), (0 ≤ Int32.toInt x1 ∧ Int32.toInt x1 ≤ 99) → (0 ≤ Int32.toInt x2 ∧ Int32.toInt x2 ≤ 7) → (-1 ≤ Int32.toInt x5 ∧ Int32.toInt x5 ≤ 6) → (0 ≤ Int32.toInt jC ∧ Int32.toInt jC ≤ 0) → (0 ≤ Int32.toInt bL ∧ Int32.toInt bL ≤ 16) → (0 ≤ Int32.toInt bY ∧ Int32.toInt bY ≤ 0) → (jD = 1) → (0 ≤ Int32.toInt m_length ∧ Int32.toInt m_length ≤ 80) → (80 ≤ Int32.toInt oF ∧ Int32.toInt oF ≤ 80) → (0 ≤ Int32.toInt rP ∧ Int32.toInt rP ≤ 80) → (-1 ≤ Int32.toInt dQ ∧ Int32.toInt dQ ≤ -1) → (∀ k : Nat, 0 ≤ Int32.toInt (uZ k) ∧ Int32.toInt (uZ k) ≤ 99) → (GD vY x2 aG x5 0) → (AL vY x4 aG) → (0 ≤ Int32.toInt x5 → Int32.toInt x4 = 0) → (Int32.toInt x5 ≤ Int32.toInt x2 - 1) → (Int32.toInt x2 ≤ 6) → (Int32.toInt x5 + 1 < (n : Int)) → wb_X10_grass_134 post aG nG qO qQ n x1 x2 x4 x5 jC bL bY jD m_length oF rP dQ sW uZ vY := by
  intro n
  induction n with
  | zero =>
    intro x1 x2 x4 x5 jC bL bY jD m_length oF rP dQ sW uZ vY aBK aBN aF7 aA4 yJ yG yM zE aAR aA1 aAA aBW hx0 hx1 hx2 hx3 hx4 hm
    exfalso; omega
  | succ n ih =>
    intro x1 x2 x4 x5 jC bL bY jD m_length oF rP dQ sW uZ vY aBK aBN aF7 aA4 yJ yG yM zE aAR aA1 aAA aBW hx0 hx1 hx2 hx3 hx4 hm
    exact ts_X10_grass_134 aG nG qO qQ vZ xT zG zI hpost ih x1 x2 x4 x5 jC bL bY jD m_length oF rP dQ sW uZ vY aBK aBN aF7 aA4 yJ yG yM zE aAR aA1 aAA aBW hx0 hx1 hx2 hx3 hx4 (by omega)
set_option maxHeartbeats 8000000 in
set_option maxRecDepth 200000 in
theorem ts_X10_grass_112 {post : Int32 → Int32 → Int32 → Int32 → Nat → Int32 → Int32 → Int32 → Int32 → (Nat → Int32) → (Nat → Int32) → (Nat → Int32) → Prop} (aG : Int32) (nG qO qQ : Nat → Int32) (vZ : 0 ≤ Int32.toInt aG ∧ Int32.toInt aG ≤ 8) (xT : ∀ k : Nat, 0 ≤ Int32.toInt (nG k) ∧ Int32.toInt (nG k) ≤ 99) (zG : ∀ k : Nat, -128 ≤ Int32.toInt (qO k) ∧ Int32.toInt (qO k) ≤ 127) (zI : ∀ k : Nat, -128 ≤ Int32.toInt (qQ k) ∧ Int32.toInt (qQ k) ≤ 127) (hpost : ∀ (r : Int32) (aBT : Int32) (xM : Int32) (xG : Int32) (aAP : Nat) (zS : Int32) (aAz : Int32) (aAm : Int32) (zH : Int32) (aBX : Nat → Int32) (aDo : Nat → Int32) (aOe : Nat → Int32), (0 ≤ Int32.toInt aBT ∧ Int32.toInt aBT ≤ 0) → (0 ≤ Int32.toInt xM ∧ Int32.toInt xM ≤ 16) → (0 ≤ Int32.toInt xG ∧ Int32.toInt xG ≤ 0) → (aAP = 1) → (0 ≤ Int32.toInt zS ∧ Int32.toInt zS ≤ 80) → (80 ≤ Int32.toInt aAz ∧ Int32.toInt aAz ≤ 80) → (0 ≤ Int32.toInt aAm ∧ Int32.toInt aAm ≤ 80) → (-1 ≤ Int32.toInt zH ∧ Int32.toInt zH ≤ 80) → (∀ k : Nat, 0 ≤ Int32.toInt (aDo k) ∧ Int32.toInt (aDo k) ≤ 99) → post r aBT xM xG aAP zS aAz aAm zH aBX aDo aOe) (x1 x2 jC bL bY : Int32) (jD : Nat) (m_length oF rP dQ : Int32) (sW uZ vY : Nat → Int32) (aBK : 0 ≤ Int32.toInt x1 ∧ Int32.toInt x1 ≤ 99) (aBN : 0 ≤ Int32.toInt x2 ∧ Int32.toInt x2 ≤ 7) (aA4 : 0 ≤ Int32.toInt jC ∧ Int32.toInt jC ≤ 0) (yJ : 0 ≤ Int32.toInt bL ∧ Int32.toInt bL ≤ 16) (yG : 0 ≤ Int32.toInt bY ∧ Int32.toInt bY ≤ 0) (yM : jD = 1) (zE : 0 ≤ Int32.toInt m_length ∧ Int32.toInt m_length ≤ 80) (aAR : 80 ≤ Int32.toInt oF ∧ Int32.toInt oF ≤ 80) (aA1 : 0 ≤ Int32.toInt rP ∧ Int32.toInt rP ≤ 80) (aAA : -1 ≤ Int32.toInt dQ ∧ Int32.toInt dQ ≤ 80) (aBW : ∀ k : Nat, 0 ≤ Int32.toInt (uZ k) ∧ Int32.toInt (uZ k) ≤ 99) (hx0 : Int32.toInt x2 ≤ 6 ∨ Int32.toInt dQ ≠ -1) : ws_X10_grass_112 post aG nG qO qQ x1 x2 jC bL bY jD m_length oF rP dQ sW uZ vY := by
  have l0 := aI2
  have l1 := aE0
  have l2 := aEc
  refine And.intro (fun c90 => ?_) (fun c90 => ?_)
  · skip
    have c90 := mt (zJ _ _).mpr c90
    refine And.intro (fun h9 => absurd h9 (by decide)) (fun _ => ?_)
    have f91 : Int32.toInt ((-1) - dQ) = Int32.toInt ((-1) : Int32) - Int32.toInt dQ := aCA _ _ ⟨by omega, by omega⟩
    obtain ⟨w92, ew92⟩ : ∃ w9 : Int32, w9 = (-1) - dQ := ⟨_, rfl⟩
    rw [← ew92] at f91
    have key9 := hpost w92 jC bL bY jD m_length oF rP dQ sW uZ vY aA4 yJ yG yM zE aAR aA1 aAA aBW
    subst ew92
    exact key9
  · skip
    have c90 := (zJ _ _).mp c90
    refine And.intro (fun _ => ?_) (fun h9 => absurd h9 (by decide))
    intro v93 ev93
    have f94 : Int32.toInt (x2 - 1) = Int32.toInt x2 - Int32.toInt (1 : Int32) := aCA _ _ ⟨by omega, by omega⟩
    rw [← ev93] at f94
    exact ⟨9, tb_X10_grass_134 aG nG qO qQ vZ xT zG zI hpost _ x1 x2 0 v93 jC bL bY jD m_length oF rP dQ sW uZ vY aBK aBN ⟨by omega, by omega⟩ aA4 yJ yG yM zE aAR aA1 ⟨by omega, by omega⟩ aBW (by first | assumption | exact GD_init (by omega) | exact GD_dn (by assumption) (by omega) (by omega) | exact GD_s (by assumption) (by omega) | exact GD_eq (by assumption) (by omega)) (by first | assumption | exact AL_z (by omega) | exact AL_s (by assumption) (by omega) | exact AL_le (by assumption) (by omega)) (by omega) (by omega) (by omega) (by omega)⟩
set_option maxHeartbeats 8000000 in
set_option maxRecDepth 200000 in
theorem ts_X10_grass_93 {post : Int32 → Int32 → Int32 → Int32 → Nat → Int32 → Int32 → Int32 → Int32 → (Nat → Int32) → (Nat → Int32) → (Nat → Int32) → Prop} (aG : Int32) (nG qO qQ : Nat → Int32) (vZ : 0 ≤ Int32.toInt aG ∧ Int32.toInt aG ≤ 8) (xT : ∀ k : Nat, 0 ≤ Int32.toInt (nG k) ∧ Int32.toInt (nG k) ≤ 99) (zG : ∀ k : Nat, -128 ≤ Int32.toInt (qO k) ∧ Int32.toInt (qO k) ≤ 127) (zI : ∀ k : Nat, -128 ≤ Int32.toInt (qQ k) ∧ Int32.toInt (qQ k) ≤ 127) (hpost : ∀ (r : Int32) (aBT : Int32) (xM : Int32) (xG : Int32) (aAP : Nat) (zS : Int32) (aAz : Int32) (aAm : Int32) (zH : Int32) (aBX : Nat → Int32) (aDo : Nat → Int32) (aOe : Nat → Int32), (0 ≤ Int32.toInt aBT ∧ Int32.toInt aBT ≤ 0) → (0 ≤ Int32.toInt xM ∧ Int32.toInt xM ≤ 16) → (0 ≤ Int32.toInt xG ∧ Int32.toInt xG ≤ 0) → (aAP = 1) → (0 ≤ Int32.toInt zS ∧ Int32.toInt zS ≤ 80) → (80 ≤ Int32.toInt aAz ∧ Int32.toInt aAz ≤ 80) → (0 ≤ Int32.toInt aAm ∧ Int32.toInt aAm ≤ 80) → (-1 ≤ Int32.toInt zH ∧ Int32.toInt zH ≤ 80) → (∀ k : Nat, 0 ≤ Int32.toInt (aDo k) ∧ Int32.toInt (aDo k) ≤ 99) → post r aBT xM xG aAP zS aAz aAm zH aBX aDo aOe) (x1 x2 jC bL bY : Int32) (jD : Nat) (m_length oF rP dQ : Int32) (sW uZ vY : Nat → Int32) (aBK : 0 ≤ Int32.toInt x1 ∧ Int32.toInt x1 ≤ 99) (aBN : 0 ≤ Int32.toInt x2 ∧ Int32.toInt x2 ≤ 7) (aA4 : 0 ≤ Int32.toInt jC ∧ Int32.toInt jC ≤ 0) (yJ : 0 ≤ Int32.toInt bL ∧ Int32.toInt bL ≤ 16) (yG : 0 ≤ Int32.toInt bY ∧ Int32.toInt bY ≤ 0) (yM : jD = 1) (zE : 0 ≤ Int32.toInt m_length ∧ Int32.toInt m_length ≤ 80) (aAR : 80 ≤ Int32.toInt oF ∧ Int32.toInt oF ≤ 80) (aA1 : 0 ≤ Int32.toInt rP ∧ Int32.toInt rP ≤ 80) (aAA : -1 ≤ Int32.toInt dQ ∧ Int32.toInt dQ ≤ 80) (aBW : ∀ k : Nat, 0 ≤ Int32.toInt (uZ k) ∧ Int32.toInt (uZ k) ≤ 99) (hx0 : Int32.toInt x2 ≤ 6 ∨ Int32.toInt dQ ≠ -1) : ws_X10_grass_93 post aG nG qO qQ x1 x2 jC bL bY jD m_length oF rP dQ sW uZ vY := by
  have l0 := aI2
  refine And.intro (fun c95 => ?_) (fun c95 => ?_)
  · skip
    have c95 := (aAO _ _).mp c95
    exact ts_X10_grass_112 aG nG qO qQ vZ xT zG zI hpost x1 x2 jC bL bY jD m_length oF rP dQ sW uZ vY aBK aBN aA4 yJ yG yM zE aAR aA1 aAA aBW hx0
  · skip
    have c95 := mt (aAO _ _).mpr c95
    refine And.intro (fun c96 => ?_) (fun c96 => ?_)
    · skip
      have c96 := mt (zJ _ _).mpr c96
      refine And.intro (fun _ => ?_) (fun h9 => absurd h9 (by decide))
      exact ts_X10_grass_112 aG nG qO qQ vZ xT zG zI hpost x1 x2 jC bL bY jD m_length oF rP dQ sW uZ vY aBK aBN aA4 yJ yG yM zE aAR aA1 aAA aBW hx0
    · skip
      have c96 := (zJ _ _).mp c96
      refine And.intro (fun h9 => absurd h9 (by decide)) (fun _ => ?_)
      exact ts_X10_grass_112 aG nG qO qQ vZ xT zG zI hpost x1 x2 jC bL bY jD m_length oF rP rP sW uZ vY aBK aBN aA4 yJ yG yM zE aAR aA1 ⟨by omega, by omega⟩ aBW (by omega)
set_option maxHeartbeats 8000000 in
set_option maxRecDepth 200000 in
theorem ts_X10_grass_41 {post : Int32 → Int32 → Int32 → Int32 → Nat → Int32 → Int32 → Int32 → Int32 → (Nat → Int32) → (Nat → Int32) → (Nat → Int32) → Prop} {next : Int32 → Int32 → Int32 → Int32 → Int32 → Int32 → Nat → Int32 → Int32 → Int32 → Int32 → (Nat → Int32) → (Nat → Int32) → (Nat → Int32) → Prop} {n41 : Int} (aG : Int32) (nG qO qQ : Nat → Int32) (vZ : 0 ≤ Int32.toInt aG ∧ Int32.toInt aG ≤ 8) (xT : ∀ k : Nat, 0 ≤ Int32.toInt (nG k) ∧ Int32.toInt (nG k) ≤ 99) (zG : ∀ k : Nat, -128 ≤ Int32.toInt (qO k) ∧ Int32.toInt (qO k) ≤ 127) (zI : ∀ k : Nat, -128 ≤ Int32.toInt (qQ k) ∧ Int32.toInt (qQ k) ≤ 127) (hpost : ∀ (r : Int32) (aBT : Int32) (xM : Int32) (xG : Int32) (aAP : Nat) (zS : Int32) (aAz : Int32) (aAm : Int32) (zH : Int32) (aBX : Nat → Int32) (aDo : Nat → Int32) (aOe : Nat → Int32), (0 ≤ Int32.toInt aBT ∧ Int32.toInt aBT ≤ 0) → (0 ≤ Int32.toInt xM ∧ Int32.toInt xM ≤ 16) → (0 ≤ Int32.toInt xG ∧ Int32.toInt xG ≤ 0) → (aAP = 1) → (0 ≤ Int32.toInt zS ∧ Int32.toInt zS ≤ 80) → (80 ≤ Int32.toInt aAz ∧ Int32.toInt aAz ≤ 80) → (0 ≤ Int32.toInt aAm ∧ Int32.toInt aAm ≤ 80) → (-1 ≤ Int32.toInt zH ∧ Int32.toInt zH ≤ 80) → (∀ k : Nat, 0 ≤ Int32.toInt (aDo k) ∧ Int32.toInt (aDo k) ≤ 99) → post r aBT xM xG aAP zS aAz aAm zH aBX aDo aOe) (hKn : ∀ (x1 : Int32) (x2 : Int32) (x3 : Int32) (jC : Int32) (bL : Int32) (bY : Int32) (jD : Nat) (m_length : Int32) (oF : Int32) (rP : Int32) (dQ : Int32) (sW : Nat → Int32) (uZ : Nat → Int32) (vY : Nat → Int32), (0 ≤ Int32.toInt x1 ∧ Int32.toInt x1 ≤ 99) → (0 ≤ Int32.toInt x2 ∧ Int32.toInt x2 ≤ 7) → (0 ≤ Int32.toInt x3 ∧ Int32.toInt x3 ≤ 1) → (0 ≤ Int32.toInt jC ∧ Int32.toInt jC ≤ 0) → (0 ≤ Int32.toInt bL ∧ Int32.toInt bL ≤ 16) → (0 ≤ Int32.toInt bY ∧ Int32.toInt bY ≤ 0) → (jD = 1) → (0 ≤ Int32.toInt m_length ∧ Int32.toInt m_length ≤ 80) → (80 ≤ Int32.toInt oF ∧ Int32.toInt oF ≤ 80) → (0 ≤ Int32.toInt rP ∧ Int32.toInt rP ≤ 80) → (-1 ≤ Int32.toInt dQ ∧ Int32.toInt dQ ≤ 80) → (∀ k : Nat, 0 ≤ Int32.toInt (uZ k) ∧ Int32.toInt (uZ k) ≤ 99) → (Int32.toInt x2 ≤ 6 ∨ Int32.toInt dQ ≠ -1) → (7 - Int32.toInt x2 < n41) → next x1 x2 x3 jC bL bY jD m_length oF rP dQ sW uZ vY) (x1 x2 x3 jC bL bY : Int32) (jD : Nat) (m_length oF rP dQ : Int32) (sW uZ vY : Nat → Int32) (aBK : 0 ≤ Int32.toInt x1 ∧ Int32.toInt x1 ≤ 99) (aBN : 0 ≤ Int32.toInt x2 ∧ Int32.toInt x2 ≤ 7) (aCH : 0 ≤ Int32.toInt x3 ∧ Int32.toInt x3 ≤ 1) (aA4 : 0 ≤ Int32.toInt jC ∧ Int32.toInt jC ≤ 0) (yJ : 0 ≤ Int32.toInt bL ∧ Int32.toInt bL ≤ 16) (yG : 0 ≤ Int32.toInt bY ∧ Int32.toInt bY ≤ 0) (yM : jD = 1) (zE : 0 ≤ Int32.toInt m_length ∧ Int32.toInt m_length ≤ 80) (aAR : 80 ≤ Int32.toInt oF ∧ Int32.toInt oF ≤ 80) (aA1 : 0 ≤ Int32.toInt rP ∧ Int32.toInt rP ≤ 80) (aAA : -1 ≤ Int32.toInt dQ ∧ Int32.toInt dQ ≤ 80) (aBW : ∀ k : Nat, 0 ≤ Int32.toInt (uZ k) ∧ Int32.toInt (uZ k) ≤ 99) (hx0 : Int32.toInt x2 ≤ 6 ∨ Int32.toInt dQ ≠ -1) (hn41 : 7 - Int32.toInt x2 ≤ n41) : ws_X10_grass_41 post next aG nG qO qQ x1 x2 x3 jC bL bY jD m_length oF rP dQ sW uZ vY := by
  have l0 := aI2
  have l1 := aE0
  have l2 := li_2
  have l3 := li_6
  refine And.intro (fun c97 => ?_) (fun c97 => ?_)
  · skip
    have c97 := (zJ _ _).mp c97
    exact ts_X10_grass_93 aG nG qO qQ vZ xT zG zI hpost x1 x2 jC bL bY jD m_length oF rP dQ sW uZ vY aBK aBN aA4 yJ yG yM zE aAR aA1 aAA aBW hx0
  · skip
    have c97 := mt (zJ _ _).mpr c97
    refine And.intro (fun c98 => ?_) (fun c98 => ?_)
    · skip
      have c98 := mt (zJ _ _).mpr c98
      refine And.intro (fun _ => ?_) (fun h9 => absurd h9 (by decide))
      exact ts_X10_grass_93 aG nG qO qQ vZ xT zG zI hpost x1 x2 jC bL bY jD m_length oF rP dQ sW uZ vY aBK aBN aA4 yJ yG yM zE aAR aA1 aAA aBW hx0
    · skip
      have c98 := (zJ _ _).mp c98
      refine And.intro (fun h9 => absurd h9 (by decide)) (fun _ => ?_)
      refine And.intro (fun c99 => ?_) (fun c99 => ?_)
      · skip
        have c99 := mt (zJ _ _).mpr c99
        refine aXA ⟨by omega, by omega⟩ (by first | exact yM | exact Or.inl rfl | exact Or.inr rfl | omega) zE ⟨by omega, by omega⟩ aA1 aAA zG zI (by omega) (fun r102 m_at_100 m_wrong_101 h_r102 h_m_at_100 h_m_wrong_101 ox103 ox104 ox105 ox106 => ?_)
        refine And.intro (aBZ ⟨by omega, by omega⟩) ?_
        have a107 : ∀ k : Nat, 0 ≤ Int32.toInt ((upd uZ x2.toNatClampNeg r102) k) ∧ Int32.toInt ((upd uZ x2.toNatClampNeg r102) k) ≤ 99 := t_upd (fun k => by have q9 := aBW k; omega) (by omega)
        exact ts_X10_grass_80 aG nG qO qQ vZ xT zG zI hpost hKn x1 x2 jC bL bY jD m_length oF m_at_100 m_wrong_101 sW (upd uZ x2.toNatClampNeg r102) vY aBK ⟨by omega, by omega⟩ aA4 yJ yG yM zE aAR h_m_at_100 h_m_wrong_101 (fun k => by have q9 := a107 k; omega) (by omega) hn41
      · skip
        have c99 := (zJ _ _).mp c99
        refine And.intro (fun c108 => ?_) (fun c108 => ?_)
        · skip
          have c108 := mt (zJ _ _).mpr c108
          exfalso; omega
        · skip
          have c108 := (zJ _ _).mp c108
          refine And.intro (fun h9 => absurd h9 (by decide)) (fun _ => ?_)
          exact ts_X10_grass_80 aG nG qO qQ vZ xT zG zI hpost hKn x1 x2 jC bL bY jD m_length oF rP rP sW uZ vY aBK ⟨by omega, by omega⟩ aA4 yJ yG yM zE aAR aA1 ⟨by omega, by omega⟩ aBW (by omega) hn41
set_option maxHeartbeats 8000000 in
set_option maxRecDepth 200000 in
theorem tb_X10_grass_41 {post : Int32 → Int32 → Int32 → Int32 → Nat → Int32 → Int32 → Int32 → Int32 → (Nat → Int32) → (Nat → Int32) → (Nat → Int32) → Prop} (aG : Int32) (nG qO qQ : Nat → Int32) (vZ : 0 ≤ Int32.toInt aG ∧ Int32.toInt aG ≤ 8) (xT : ∀ k : Nat, 0 ≤ Int32.toInt (nG k) ∧ Int32.toInt (nG k) ≤ 99) (zG : ∀ k : Nat, -128 ≤ Int32.toInt (qO k) ∧ Int32.toInt (qO k) ≤ 127) (zI : ∀ k : Nat, -128 ≤ Int32.toInt (qQ k) ∧ Int32.toInt (qQ k) ≤ 127) (hpost : ∀ (r : Int32) (aBT : Int32) (xM : Int32) (xG : Int32) (aAP : Nat) (zS : Int32) (aAz : Int32) (aAm : Int32) (zH : Int32) (aBX : Nat → Int32) (aDo : Nat → Int32) (aOe : Nat → Int32), (0 ≤ Int32.toInt aBT ∧ Int32.toInt aBT ≤ 0) → (0 ≤ Int32.toInt xM ∧ Int32.toInt xM ≤ 16) → (0 ≤ Int32.toInt xG ∧ Int32.toInt xG ≤ 0) → (aAP = 1) → (0 ≤ Int32.toInt zS ∧ Int32.toInt zS ≤ 80) → (80 ≤ Int32.toInt aAz ∧ Int32.toInt aAz ≤ 80) → (0 ≤ Int32.toInt aAm ∧ Int32.toInt aAm ≤ 80) → (-1 ≤ Int32.toInt zH ∧ Int32.toInt zH ≤ 80) → (∀ k : Nat, 0 ≤ Int32.toInt (aDo k) ∧ Int32.toInt (aDo k) ≤ 99) → post r aBT xM xG aAP zS aAz aAm zH aBX aDo aOe) : ∀ (n : Nat) (x1 x2 x3 jC bL bY : Int32) (jD : Nat) (m_length oF rP dQ : Int32) (sW uZ vY : Nat → Int32), (0 ≤ Int32.toInt x1 ∧ Int32.toInt x1 ≤ 99) → (0 ≤ Int32.toInt x2 ∧ Int32.toInt x2 ≤ 7) → (0 ≤ Int32.toInt x3 ∧ Int32.toInt x3 ≤ 1) → (0 ≤ Int32.toInt jC ∧ Int32.toInt jC ≤ 0) → (0 ≤ Int32.toInt bL ∧ Int32.toInt bL ≤ 16) → (0 ≤ Int32.toInt bY ∧ Int32.toInt bY ≤ 0) → (jD = 1) → (0 ≤ Int32.toInt m_length ∧ Int32.toInt m_length ≤ 80) → (80 ≤ Int32.toInt oF ∧ Int32.toInt oF ≤ 80) → (0 ≤ Int32.toInt rP ∧ Int32.toInt rP ≤ 80) → (-1 ≤ Int32.toInt dQ ∧ Int32.toInt dQ ≤ 80) → (∀ k : Nat, 0 ≤ Int32.toInt (uZ k) ∧ Int32.toInt (uZ k) ≤ 99) → (Int32.toInt x2 ≤ 6 ∨ Int32.toInt dQ ≠ -1) → (7 - Int32.toInt x2 < (n : Int)) → wb_X10_grass_41 post aG nG qO qQ n x1 x2 x3 jC bL bY jD m_length oF rP dQ sW uZ vY := by
  intro n
  induction n with
  | zero =>
    intro x1 x2 x3 jC bL bY jD m_length oF rP dQ sW uZ vY aBK aBN aCH aA4 yJ yG yM zE aAR aA1 aAA aBW hx0 hm
    exfalso; omega
  | succ n ih =>
    intro x1 x2 x3 jC bL bY jD m_length oF rP dQ sW uZ vY aBK aBN aCH aA4 yJ yG yM zE aAR aA1 aAA aBW hx0 hm
    exact ts_X10_grass_41 aG nG qO qQ vZ xT zG zI hpost ih x1 x2 x3 jC bL bY jD m_length oF rP dQ sW uZ vY aBK aBN aCH aA4 yJ yG yM zE aAR aA1 aAA aBW hx0 (by omega)
set_option maxHeartbeats 8000000 in
set_option maxRecDepth 200000 in
theorem t_X10_grass {post : Int32 → Int32 → Int32 → Int32 → Nat → Int32 → Int32 → Int32 → Int32 → (Nat → Int32) → (Nat → Int32) → (Nat → Int32) → Prop} {p0 aG jC bL bY : Int32} {jD : Nat} {m_length oF rP dQ : Int32} {nG qO sW qQ uZ vY : Nat → Int32} (vZ : 0 ≤ Int32.toInt aG ∧ Int32.toInt aG ≤ 8) (aA4 : 0 ≤ Int32.toInt jC ∧ Int32.toInt jC ≤ 80) (yJ : 0 ≤ Int32.toInt bL ∧ Int32.toInt bL ≤ 16) (yG : 0 ≤ Int32.toInt bY ∧ Int32.toInt bY ≤ 1) (yM : jD = 0 ∨ jD = 1 ∨ jD = 2) (zE : 0 ≤ Int32.toInt m_length ∧ Int32.toInt m_length ≤ 80) (aAR : 0 ≤ Int32.toInt oF ∧ Int32.toInt oF ≤ 80) (aA1 : 0 ≤ Int32.toInt rP ∧ Int32.toInt rP ≤ 80) (aAA : -1 ≤ Int32.toInt dQ ∧ Int32.toInt dQ ≤ 80) (xT : ∀ k : Nat, 0 ≤ Int32.toInt (nG k) ∧ Int32.toInt (nG k) ≤ 99) (zG : ∀ k : Nat, -128 ≤ Int32.toInt (qO k) ∧ Int32.toInt (qO k) ≤ 127) (zI : ∀ k : Nat, -128 ≤ Int32.toInt (qQ k) ∧ Int32.toInt (qQ k) ≤ 127) (aBW : ∀ k : Nat, 0 ≤ Int32.toInt (uZ k) ∧ Int32.toInt (uZ k) ≤ 99) (hpost : ∀ (r : Int32) (aBT : Int32) (xM : Int32) (xG : Int32) (aAP : Nat) (zS : Int32) (aAz : Int32) (aAm : Int32) (zH : Int32) (aBX : Nat → Int32) (aDo : Nat → Int32) (aOe : Nat → Int32), (0 ≤ Int32.toInt aBT ∧ Int32.toInt aBT ≤ 0) → (0 ≤ Int32.toInt xM ∧ Int32.toInt xM ≤ 16) → (0 ≤ Int32.toInt xG ∧ Int32.toInt xG ≤ 0) → (aAP = 1) → (0 ≤ Int32.toInt zS ∧ Int32.toInt zS ≤ 80) → (80 ≤ Int32.toInt aAz ∧ Int32.toInt aAz ≤ 80) → (0 ≤ Int32.toInt aAm ∧ Int32.toInt aAm ≤ 80) → (-1 ≤ Int32.toInt zH ∧ Int32.toInt zH ≤ 80) → (∀ k : Nat, 0 ≤ Int32.toInt (aDo k) ∧ Int32.toInt (aDo k) ≤ 99) → post r aBT xM xG aAP zS aAz aAm zH aBX aDo aOe) : wp_X10_grass post p0 aG jC bL bY jD m_length oF rP dQ nG qO sW qQ uZ vY := by
  have l0 := aI2
  have l1 := aE0
  have l2 := aEc
  have l3 := li_80
  have l4 := li_99
  have f110 := aAT p0
  refine And.intro (fun c109 => ?_) (fun c109 => ?_)
  · skip
    have c109 := (aAd _ _).mp c109
    refine And.intro (fun h9 => absurd h9 (by decide)) (fun _ => ?_)
    exact hpost _ _ _ _ _ _ _ _ _ _ _ _ ⟨by omega, by omega⟩ yJ ⟨by omega, by omega⟩ (by first | exact yM | exact Or.inl rfl | exact Or.inr rfl | omega) aA4 ⟨by omega, by omega⟩ ⟨by omega, by omega⟩ ⟨by omega, by omega⟩ aBW
  · skip
    have c109 := mt (aAd _ _).mpr c109
    refine And.intro (fun c111 => ?_) (fun c111 => ?_)
    · skip
      have c111 := (aAd _ _).mp c111
      refine And.intro (fun h9 => absurd h9 (by decide)) (fun _ => ?_)
      exact hpost _ _ _ _ _ _ _ _ _ _ _ _ ⟨by omega, by omega⟩ yJ ⟨by omega, by omega⟩ (by first | exact yM | exact Or.inl rfl | exact Or.inr rfl | omega) aA4 ⟨by omega, by omega⟩ ⟨by omega, by omega⟩ ⟨by omega, by omega⟩ aBW
    · skip
      have c111 := mt (aAd _ _).mpr c111
      refine And.intro (fun _ => ?_) (fun h9 => absurd h9 (by decide))
      exact ⟨9, tb_X10_grass_41 aG nG qO qQ vZ xT zG zI hpost _ p0 0 1 0 bL 0 1 jC 80 0 (-1) sW uZ vY ⟨by omega, by omega⟩ ⟨by omega, by omega⟩ ⟨by omega, by omega⟩ ⟨by omega, by omega⟩ yJ ⟨by omega, by omega⟩ (by first | exact yM | exact Or.inl rfl | exact Or.inr rfl | omega) aA4 ⟨by omega, by omega⟩ ⟨by omega, by omega⟩ ⟨by omega, by omega⟩ aBW (by omega) (by omega)⟩
