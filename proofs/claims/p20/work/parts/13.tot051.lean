set_option maxHeartbeats 8000000 in
set_option maxRecDepth 200000 in
theorem ts_X10_gentle_117 {post : Int32 → Int32 → Int32 → (Nat → Int32) → Prop} {SB : Int} {K41 : Int32 → Int32 → Int32 → Int32 → Int32 → (Nat → Int32) → Prop} {n41 : Int} (bT : Int32) (qG m_x gR qR nG oO pJ : Nat → Int32) (xJ : 0 ≤ Int32.toInt bT ∧ Int32.toInt bT ≤ 16) (xU : ∀ k : Nat, k = 17 → -1 ≤ Int32.toInt (qG k) ∧ Int32.toInt (qG k) ≤ SB) (xV : ∀ k : Nat, k = 19 → 0 ≤ Int32.toInt (qG k) ∧ Int32.toInt (qG k) ≤ 9) (aAW : ∀ k : Nat, 0 ≤ Int32.toInt (m_x k) ∧ Int32.toInt (m_x k) ≤ 99) (xK : ∀ k : Nat, 0 ≤ Int32.toInt (gR k) ∧ Int32.toInt (gR k) ≤ 99) (zM : ∀ k : Nat, 0 ≤ Int32.toInt (qR k) ∧ Int32.toInt (qR k) ≤ 9) (xT : ∀ k : Nat, 0 ≤ Int32.toInt (nG k) ∧ Int32.toInt (nG k) ≤ 99) (yF : ∀ k : Nat, 0 ≤ Int32.toInt (oO k) ∧ Int32.toInt (oO k) ≤ 99) (yD : ∀ k : Nat, k = 4 → 1 ≤ Int32.toInt (pJ k) ∧ Int32.toInt (pJ k) ≤ 30) (xZ : ∀ k : Nat, k = 3 → 0 ≤ Int32.toInt (pJ k) ∧ Int32.toInt (pJ k) ≤ 9) (hc0 : -1 ≤ SB ∧ SB ≤ 7) (hpost : ∀ (r : Int32) (xM : Int32) (xG : Int32) (aBX : Nat → Int32), (-2 ≤ Int32.toInt r ∧ Int32.toInt r ≤ 16) → (0 ≤ Int32.toInt xM ∧ Int32.toInt xM ≤ 16) → (0 ≤ Int32.toInt xG ∧ Int32.toInt xG ≤ 0) → post r xM xG aBX) (hK41 : ∀ (x1 : Int32) (x2 : Int32) (x3 : Int32) (bL : Int32) (bY : Int32) (sW : Nat → Int32), (0 ≤ Int32.toInt x1 ∧ Int32.toInt x1 ≤ 65535) → (0 ≤ Int32.toInt x2 ∧ Int32.toInt x2 ≤ 65535) → (0 ≤ Int32.toInt x3 ∧ Int32.toInt x3 ≤ 1) → (0 ≤ Int32.toInt bL ∧ Int32.toInt bL ≤ 16) → (0 ≤ Int32.toInt bY ∧ Int32.toInt bY ≤ 0) → (Int32.toInt bL + ((pcn 16 x1 : Nat) : Int) ≤ 16) → (((pcn 16 x1 : Nat) : Int) + Int32.toInt x3 < n41) → K41 x1 x2 x3 bL bY sW) (x1 x2 x3 bL bY : Int32) (sW : Nat → Int32) (aBK : 0 ≤ Int32.toInt x1 ∧ Int32.toInt x1 ≤ 65535) (aBN : 0 ≤ Int32.toInt x2 ∧ Int32.toInt x2 ≤ 65535) (aCH : 0 ≤ Int32.toInt x3 ∧ Int32.toInt x3 ≤ 1) (yJ : 0 ≤ Int32.toInt bL ∧ Int32.toInt bL ≤ 16) (yG : 0 ≤ Int32.toInt bY ∧ Int32.toInt bY ≤ 0) (hx0 : Int32.toInt bL + ((pcn 16 x1 : Nat) : Int) ≤ 16) (hx1 : ((pcn 16 x1 : Nat) : Int) + Int32.toInt x3 < n41) (hn41 : ((pcn 16 x1 : Nat) : Int) + Int32.toInt x3 ≤ n41) : ws_X10_gentle_117 post K41 bT qG m_x gR qR nG oO pJ x1 x2 x3 bL bY sW := by
  have j1 := pcn_le 16 (x1)
  exact hK41 x1 x2 x3 bL bY sW aBK aBN aCH yJ yG hx0 (by omega)
set_option maxHeartbeats 8000000 in
set_option maxRecDepth 200000 in
theorem ts_X10_gentle_111 {post : Int32 → Int32 → Int32 → (Nat → Int32) → Prop} {SB : Int} {K41 : Int32 → Int32 → Int32 → Int32 → Int32 → (Nat → Int32) → Prop} {K50 : Int32 → Int32 → Int32 → Int32 → Int32 → Int32 → (Nat → Int32) → Prop} {n41 n50 : Int} (bT : Int32) (qG m_x gR qR nG oO pJ : Nat → Int32) (xJ : 0 ≤ Int32.toInt bT ∧ Int32.toInt bT ≤ 16) (xU : ∀ k : Nat, k = 17 → -1 ≤ Int32.toInt (qG k) ∧ Int32.toInt (qG k) ≤ SB) (xV : ∀ k : Nat, k = 19 → 0 ≤ Int32.toInt (qG k) ∧ Int32.toInt (qG k) ≤ 9) (aAW : ∀ k : Nat, 0 ≤ Int32.toInt (m_x k) ∧ Int32.toInt (m_x k) ≤ 99) (xK : ∀ k : Nat, 0 ≤ Int32.toInt (gR k) ∧ Int32.toInt (gR k) ≤ 99) (zM : ∀ k : Nat, 0 ≤ Int32.toInt (qR k) ∧ Int32.toInt (qR k) ≤ 9) (xT : ∀ k : Nat, 0 ≤ Int32.toInt (nG k) ∧ Int32.toInt (nG k) ≤ 99) (yF : ∀ k : Nat, 0 ≤ Int32.toInt (oO k) ∧ Int32.toInt (oO k) ≤ 99) (yD : ∀ k : Nat, k = 4 → 1 ≤ Int32.toInt (pJ k) ∧ Int32.toInt (pJ k) ≤ 30) (xZ : ∀ k : Nat, k = 3 → 0 ≤ Int32.toInt (pJ k) ∧ Int32.toInt (pJ k) ≤ 9) (hc0 : -1 ≤ SB ∧ SB ≤ 7) (hpost : ∀ (r : Int32) (xM : Int32) (xG : Int32) (aBX : Nat → Int32), (-2 ≤ Int32.toInt r ∧ Int32.toInt r ≤ 16) → (0 ≤ Int32.toInt xM ∧ Int32.toInt xM ≤ 16) → (0 ≤ Int32.toInt xG ∧ Int32.toInt xG ≤ 0) → post r xM xG aBX) (hK41 : ∀ (x1 : Int32) (x2 : Int32) (x3 : Int32) (bL : Int32) (bY : Int32) (sW : Nat → Int32), (0 ≤ Int32.toInt x1 ∧ Int32.toInt x1 ≤ 65535) → (0 ≤ Int32.toInt x2 ∧ Int32.toInt x2 ≤ 65535) → (0 ≤ Int32.toInt x3 ∧ Int32.toInt x3 ≤ 1) → (0 ≤ Int32.toInt bL ∧ Int32.toInt bL ≤ 16) → (0 ≤ Int32.toInt bY ∧ Int32.toInt bY ≤ 0) → (Int32.toInt bL + ((pcn 16 x1 : Nat) : Int) ≤ 16) → (((pcn 16 x1 : Nat) : Int) + Int32.toInt x3 < n41) → K41 x1 x2 x3 bL bY sW) (hK50 : ∀ (x1 : Int32) (x2 : Int32) (x3 : Int32) (x4 : Int32) (bL : Int32) (bY : Int32) (sW : Nat → Int32), (0 ≤ Int32.toInt x1 ∧ Int32.toInt x1 ≤ 65535) → (0 ≤ Int32.toInt x2 ∧ Int32.toInt x2 ≤ 65535) → (0 ≤ Int32.toInt x3 ∧ Int32.toInt x3 ≤ 1) → (0 ≤ Int32.toInt x4 ∧ Int32.toInt x4 ≤ 16) → (0 ≤ Int32.toInt bL ∧ Int32.toInt bL ≤ 16) → (0 ≤ Int32.toInt bY ∧ Int32.toInt bY ≤ 0) → (Int32.toInt bL + ((pcn 16 x1 : Nat) : Int) ≤ 16) → (((pcn 16 x1 : Nat) : Int) + Int32.toInt x3 < n41) → (((pcn 16 x1 : Nat) : Int) + Int32.toInt x3 ≤ n41) → (16 - Int32.toInt x4 < n50) → K50 x1 x2 x3 x4 bL bY sW) (x1 x2 x3 x4 bL bY : Int32) (sW : Nat → Int32) (aBK : 0 ≤ Int32.toInt x1 ∧ Int32.toInt x1 ≤ 65535) (aBN : 0 ≤ Int32.toInt x2 ∧ Int32.toInt x2 ≤ 65535) (aCH : 0 ≤ Int32.toInt x3 ∧ Int32.toInt x3 ≤ 1) (aDO : 0 ≤ Int32.toInt x4 ∧ Int32.toInt x4 ≤ 15) (yJ : 0 ≤ Int32.toInt bL ∧ Int32.toInt bL ≤ 16) (yG : 0 ≤ Int32.toInt bY ∧ Int32.toInt bY ≤ 0) (hx0 : Int32.toInt bL + ((pcn 16 x1 : Nat) : Int) ≤ 16) (hx1 : ((pcn 16 x1 : Nat) : Int) + Int32.toInt x3 < n41) (hn41 : ((pcn 16 x1 : Nat) : Int) + Int32.toInt x3 ≤ n41) (hn50 : 16 - Int32.toInt x4 ≤ n50) : ws_X10_gentle_111 post K41 K50 bT qG m_x gR qR nG oO pJ x1 x2 x3 x4 bL bY sW := by
  have l0 := aEc
  intro v2 ev2
  have f3 : Int32.toInt (x4 + 1) = Int32.toInt x4 + Int32.toInt (1 : Int32) := aAD _ _ (by omega)
  rw [← ev2] at f3
  have j4 := pcn_le 16 (x1)
  exact hK50 x1 x2 x3 v2 bL bY sW aBK aBN aCH (by omega) yJ yG hx0 hx1 hn41 (by omega)
set_option maxHeartbeats 8000000 in
set_option maxRecDepth 200000 in
theorem ts_X10_gentle_50 {post : Int32 → Int32 → Int32 → (Nat → Int32) → Prop} {SB : Int} {K41 : Int32 → Int32 → Int32 → Int32 → Int32 → (Nat → Int32) → Prop} {next : Int32 → Int32 → Int32 → Int32 → Int32 → Int32 → (Nat → Int32) → Prop} {n50 n41 : Int} (bT : Int32) (qG m_x gR qR nG oO pJ : Nat → Int32) (xJ : 0 ≤ Int32.toInt bT ∧ Int32.toInt bT ≤ 16) (xU : ∀ k : Nat, k = 17 → -1 ≤ Int32.toInt (qG k) ∧ Int32.toInt (qG k) ≤ SB) (xV : ∀ k : Nat, k = 19 → 0 ≤ Int32.toInt (qG k) ∧ Int32.toInt (qG k) ≤ 9) (aAW : ∀ k : Nat, 0 ≤ Int32.toInt (m_x k) ∧ Int32.toInt (m_x k) ≤ 99) (xK : ∀ k : Nat, 0 ≤ Int32.toInt (gR k) ∧ Int32.toInt (gR k) ≤ 99) (zM : ∀ k : Nat, 0 ≤ Int32.toInt (qR k) ∧ Int32.toInt (qR k) ≤ 9) (xT : ∀ k : Nat, 0 ≤ Int32.toInt (nG k) ∧ Int32.toInt (nG k) ≤ 99) (yF : ∀ k : Nat, 0 ≤ Int32.toInt (oO k) ∧ Int32.toInt (oO k) ≤ 99) (yD : ∀ k : Nat, k = 4 → 1 ≤ Int32.toInt (pJ k) ∧ Int32.toInt (pJ k) ≤ 30) (xZ : ∀ k : Nat, k = 3 → 0 ≤ Int32.toInt (pJ k) ∧ Int32.toInt (pJ k) ≤ 9) (hc0 : -1 ≤ SB ∧ SB ≤ 7) (hpost : ∀ (r : Int32) (xM : Int32) (xG : Int32) (aBX : Nat → Int32), (-2 ≤ Int32.toInt r ∧ Int32.toInt r ≤ 16) → (0 ≤ Int32.toInt xM ∧ Int32.toInt xM ≤ 16) → (0 ≤ Int32.toInt xG ∧ Int32.toInt xG ≤ 0) → post r xM xG aBX) (hK41 : ∀ (x1 : Int32) (x2 : Int32) (x3 : Int32) (bL : Int32) (bY : Int32) (sW : Nat → Int32), (0 ≤ Int32.toInt x1 ∧ Int32.toInt x1 ≤ 65535) → (0 ≤ Int32.toInt x2 ∧ Int32.toInt x2 ≤ 65535) → (0 ≤ Int32.toInt x3 ∧ Int32.toInt x3 ≤ 1) → (0 ≤ Int32.toInt bL ∧ Int32.toInt bL ≤ 16) → (0 ≤ Int32.toInt bY ∧ Int32.toInt bY ≤ 0) → (Int32.toInt bL + ((pcn 16 x1 : Nat) : Int) ≤ 16) → (((pcn 16 x1 : Nat) : Int) + Int32.toInt x3 < n41) → K41 x1 x2 x3 bL bY sW) (hKn : ∀ (x1 : Int32) (x2 : Int32) (x3 : Int32) (x4 : Int32) (bL : Int32) (bY : Int32) (sW : Nat → Int32), (0 ≤ Int32.toInt x1 ∧ Int32.toInt x1 ≤ 65535) → (0 ≤ Int32.toInt x2 ∧ Int32.toInt x2 ≤ 65535) → (0 ≤ Int32.toInt x3 ∧ Int32.toInt x3 ≤ 1) → (0 ≤ Int32.toInt x4 ∧ Int32.toInt x4 ≤ 16) → (0 ≤ Int32.toInt bL ∧ Int32.toInt bL ≤ 16) → (0 ≤ Int32.toInt bY ∧ Int32.toInt bY ≤ 0) → (Int32.toInt bL + ((pcn 16 x1 : Nat) : Int) ≤ 16) → (((pcn 16 x1 : Nat) : Int) + Int32.toInt x3 < n41) → (((pcn 16 x1 : Nat) : Int) + Int32.toInt x3 ≤ n41) → (16 - Int32.toInt x4 < n50) → next x1 x2 x3 x4 bL bY sW) (x1 x2 x3 x4 bL bY : Int32) (sW : Nat → Int32) (aBK : 0 ≤ Int32.toInt x1 ∧ Int32.toInt x1 ≤ 65535) (aBN : 0 ≤ Int32.toInt x2 ∧ Int32.toInt x2 ≤ 65535) (aCH : 0 ≤ Int32.toInt x3 ∧ Int32.toInt x3 ≤ 1) (aDO : 0 ≤ Int32.toInt x4 ∧ Int32.toInt x4 ≤ 16) (yJ : 0 ≤ Int32.toInt bL ∧ Int32.toInt bL ≤ 16) (yG : 0 ≤ Int32.toInt bY ∧ Int32.toInt bY ≤ 0) (hx0 : Int32.toInt bL + ((pcn 16 x1 : Nat) : Int) ≤ 16) (hx1 : ((pcn 16 x1 : Nat) : Int) + Int32.toInt x3 < n41) (hn41 : ((pcn 16 x1 : Nat) : Int) + Int32.toInt x3 ≤ n41) (hn50 : 16 - Int32.toInt x4 ≤ n50) : ws_X10_gentle_50 post K41 next bT qG m_x gR qR nG oO pJ x1 x2 x3 x4 bL bY sW := by
  have l0 := aE0
  have l1 := aEc
  refine And.intro (fun c5 => ?_) (fun c5 => ?_)
  · skip
    have c5 := (aAO _ _).mp c5
    have j6 := pcn_le 16 (x1)
    exact ts_X10_gentle_117 bT qG m_x gR qR nG oO pJ xJ xU xV aAW xK zM xT yF yD xZ hc0 hpost hK41 x1 x2 x3 bL bY sW aBK aBN aCH yJ yG hx0 hx1 hn41
  · skip
    have c5 := mt (aAO _ _).mpr c5
    refine And.intro (fun c7 => ?_) (fun c7 => ?_)
    · skip
      have c7 := mt (zJ _ _).mpr c7
      have j8 := pcn_le 16 (x1)
      exact ts_X10_gentle_117 bT qG m_x gR qR nG oO pJ xJ xU xV aAW xK zM xT yF yD xZ hc0 hpost hK41 x1 x2 x3 bL bY sW aBK aBN aCH yJ yG hx0 hx1 hn41
    · skip
      have c7 := (zJ _ _).mp c7
      intro v9 ev9
      have f10 := aRJ x1 x4 (by omega)
      have hv9 := congrArg Int32.toInt ev9
      intro v11 ev11
      have f12 := aAQ v9 1 (by omega)
      have f13 := aBx v9 1 (by omega)
      have hv11 := congrArg Int32.toInt ev11
      refine And.intro (fun c14 => ?_) (fun c14 => ?_)
      · skip
        have c14 := mt (zJ _ _).mpr c14
        refine And.intro (fun _ => ?_) (fun h9 => absurd h9 (by decide))
        have j15 := pcn_le 16 (x1)
        exact ts_X10_gentle_111 bT qG m_x gR qR nG oO pJ xJ xU xV aAW xK zM xT yF yD xZ hc0 hpost hK41 hKn x1 x2 x3 x4 bL bY sW aBK aBN aCH (by omega) yJ yG hx0 hx1 hn41 hn50
      · skip
        have c14 := (zJ _ _).mp c14
        refine And.intro (fun h9 => absurd h9 (by decide)) (fun _ => ?_)
        have j16 := pcn_pos x1 x4 (by assumption) (by assumption) (by omega) (by omega)
        refine t_X10_below (by omega) aBN xJ aAW xK (fun r17 h_r17 => ?_)
        refine And.intro (fun c18 => ?_) (fun c18 => ?_)
        · skip
          have c18 := (zJ _ _).mp c18
          refine And.intro (aBZ (by omega)) ?_
          intro v19 ev19
          have f20 : Int32.toInt (bL + 1) = Int32.toInt bL + Int32.toInt (1 : Int32) := aAD _ _ (by omega)
          rw [← ev19] at f20
          intro v21 ev21
          have f22 := aDv 15 32768 x4 (by decide) (by omega)
          have hv21 := congrArg Int32.toInt ev21
          intro v23 ev23
          have f25 := aBx x1 (v21 ^^^ (-1)) (by omega)
          have hv23 := congrArg Int32.toInt ev23
          have j26 := pcn_clr v23 x4 (by assumption) (by assumption) (by omega) (by assumption) (by assumption) (by omega)
          intro v27 ev27
          have hv27 := congrArg Int32.toInt ev27
          intro v28 ev28
          have f30 := aBx x2 (v27 ^^^ (-1)) (by omega)
          have hv28 := congrArg Int32.toInt ev28
          have j31 := pcn_le 16 (v23)
          exact ts_X10_gentle_111 bT qG m_x gR qR nG oO pJ xJ xU xV aAW xK zM xT yF yD xZ hc0 hpost hK41 hKn v23 v28 1 x4 v19 bY (upd sW bL.toNatClampNeg x4) (by omega) (by omega) (by omega) (by omega) (by omega) yG (by omega) (by omega) (by omega) hn50
        · skip
          have c18 := mt (zJ _ _).mpr c18
          have j32 := pcn_le 16 (x1)
          exact ts_X10_gentle_111 bT qG m_x gR qR nG oO pJ xJ xU xV aAW xK zM xT yF yD xZ hc0 hpost hK41 hKn x1 x2 x3 x4 bL bY sW aBK aBN aCH (by omega) yJ yG hx0 hx1 hn41 hn50
set_option maxHeartbeats 8000000 in
set_option maxRecDepth 200000 in
theorem tb_X10_gentle_50 {post : Int32 → Int32 → Int32 → (Nat → Int32) → Prop} {SB : Int} {K41 : Int32 → Int32 → Int32 → Int32 → Int32 → (Nat → Int32) → Prop} {n41 : Int} (bT : Int32) (qG m_x gR qR nG oO pJ : Nat → Int32) (xJ : 0 ≤ Int32.toInt bT ∧ Int32.toInt bT ≤ 16) (xU : ∀ k : Nat, k = 17 → -1 ≤ Int32.toInt (qG k) ∧ Int32.toInt (qG k) ≤ SB) (xV : ∀ k : Nat, k = 19 → 0 ≤ Int32.toInt (qG k) ∧ Int32.toInt (qG k) ≤ 9) (aAW : ∀ k : Nat, 0 ≤ Int32.toInt (m_x k) ∧ Int32.toInt (m_x k) ≤ 99) (xK : ∀ k : Nat, 0 ≤ Int32.toInt (gR k) ∧ Int32.toInt (gR k) ≤ 99) (zM : ∀ k : Nat, 0 ≤ Int32.toInt (qR k) ∧ Int32.toInt (qR k) ≤ 9) (xT : ∀ k : Nat, 0 ≤ Int32.toInt (nG k) ∧ Int32.toInt (nG k) ≤ 99) (yF : ∀ k : Nat, 0 ≤ Int32.toInt (oO k) ∧ Int32.toInt (oO k) ≤ 99) (yD : ∀ k : Nat, k = 4 → 1 ≤ Int32.toInt (pJ k) ∧ Int32.toInt (pJ k) ≤ 30) (xZ : ∀ k : Nat, k = 3 → 0 ≤ Int32.toInt (pJ k) ∧ Int32.toInt (pJ k) ≤ 9) (hc0 : -1 ≤ SB ∧ SB ≤ 7) (hpost : ∀ (r : Int32) (xM : Int32) (xG : Int32) (aBX : Nat → Int32), (-2 ≤ Int32.toInt r ∧ Int32.toInt r ≤ 16) → (0 ≤ Int32.toInt xM ∧ Int32.toInt xM ≤ 16) → (0 ≤ Int32.toInt xG ∧ Int32.toInt xG ≤ 0) → post r xM xG aBX) (hK41 : ∀ (x1 : Int32) (x2 : Int32) (x3 : Int32) (bL : Int32) (bY : Int32) (sW : Nat → Int32), (0 ≤ Int32.toInt x1 ∧ Int32.toInt x1 ≤ 65535) → (0 ≤ Int32.toInt x2 ∧ Int32.toInt x2 ≤ 65535) → (0 ≤ Int32.toInt x3 ∧ Int32.toInt x3 ≤ 1) → (0 ≤ Int32.toInt bL ∧ Int32.toInt bL ≤ 16) → (0 ≤ Int32.toInt bY ∧ Int32.toInt bY ≤ 0) → (Int32.toInt bL + ((pcn 16 x1 : Nat) : Int) ≤ 16) → (((pcn 16 x1 : Nat) : Int) + Int32.toInt x3 < n41) → K41 x1 x2 x3 bL bY sW) : ∀ (n : Nat) (x1 x2 x3 x4 bL bY : Int32) (sW : Nat → Int32), (0 ≤ Int32.toInt x1 ∧ Int32.toInt x1 ≤ 65535) → (0 ≤ Int32.toInt x2 ∧ Int32.toInt x2 ≤ 65535) → (0 ≤ Int32.toInt x3 ∧ Int32.toInt x3 ≤ 1) → (0 ≤ Int32.toInt x4 ∧ Int32.toInt x4 ≤ 16) → (0 ≤ Int32.toInt bL ∧ Int32.toInt bL ≤ 16) → (0 ≤ Int32.toInt bY ∧ Int32.toInt bY ≤ 0) → (Int32.toInt bL + ((pcn 16 x1 : Nat) : Int) ≤ 16) → (((pcn 16 x1 : Nat) : Int) + Int32.toInt x3 < n41) → (((pcn 16 x1 : Nat) : Int) + Int32.toInt x3 ≤ n41) → (16 - Int32.toInt x4 < (n : Int)) → wb_X10_gentle_50 post K41 bT qG m_x gR qR nG oO pJ n x1 x2 x3 x4 bL bY sW := by
  intro n
  induction n with
  | zero =>
    intro x1 x2 x3 x4 bL bY sW aBK aBN aCH aDO yJ yG hx0 hx1 hn41 hm
    exfalso; omega
  | succ n ih =>
    intro x1 x2 x3 x4 bL bY sW aBK aBN aCH aDO yJ yG hx0 hx1 hn41 hm
    exact ts_X10_gentle_50 bT qG m_x gR qR nG oO pJ xJ xU xV aAW xK zM xT yF yD xZ hc0 hpost hK41 ih x1 x2 x3 x4 bL bY sW aBK aBN aCH aDO yJ yG hx0 hx1 hn41 (by omega)
set_option maxHeartbeats 8000000 in
set_option maxRecDepth 200000 in
theorem ts_X10_gentle_41 {post : Int32 → Int32 → Int32 → (Nat → Int32) → Prop} {SB : Int} {next : Int32 → Int32 → Int32 → Int32 → Int32 → (Nat → Int32) → Prop} {n41 : Int} (bT : Int32) (qG m_x gR qR nG oO pJ : Nat → Int32) (xJ : 0 ≤ Int32.toInt bT ∧ Int32.toInt bT ≤ 16) (xU : ∀ k : Nat, k = 17 → -1 ≤ Int32.toInt (qG k) ∧ Int32.toInt (qG k) ≤ SB) (xV : ∀ k : Nat, k = 19 → 0 ≤ Int32.toInt (qG k) ∧ Int32.toInt (qG k) ≤ 9) (aAW : ∀ k : Nat, 0 ≤ Int32.toInt (m_x k) ∧ Int32.toInt (m_x k) ≤ 99) (xK : ∀ k : Nat, 0 ≤ Int32.toInt (gR k) ∧ Int32.toInt (gR k) ≤ 99) (zM : ∀ k : Nat, 0 ≤ Int32.toInt (qR k) ∧ Int32.toInt (qR k) ≤ 9) (xT : ∀ k : Nat, 0 ≤ Int32.toInt (nG k) ∧ Int32.toInt (nG k) ≤ 99) (yF : ∀ k : Nat, 0 ≤ Int32.toInt (oO k) ∧ Int32.toInt (oO k) ≤ 99) (yD : ∀ k : Nat, k = 4 → 1 ≤ Int32.toInt (pJ k) ∧ Int32.toInt (pJ k) ≤ 30) (xZ : ∀ k : Nat, k = 3 → 0 ≤ Int32.toInt (pJ k) ∧ Int32.toInt (pJ k) ≤ 9) (hc0 : -1 ≤ SB ∧ SB ≤ 7) (hpost : ∀ (r : Int32) (xM : Int32) (xG : Int32) (aBX : Nat → Int32), (-2 ≤ Int32.toInt r ∧ Int32.toInt r ≤ 16) → (0 ≤ Int32.toInt xM ∧ Int32.toInt xM ≤ 16) → (0 ≤ Int32.toInt xG ∧ Int32.toInt xG ≤ 0) → post r xM xG aBX) (hKn : ∀ (x1 : Int32) (x2 : Int32) (x3 : Int32) (bL : Int32) (bY : Int32) (sW : Nat → Int32), (0 ≤ Int32.toInt x1 ∧ Int32.toInt x1 ≤ 65535) → (0 ≤ Int32.toInt x2 ∧ Int32.toInt x2 ≤ 65535) → (0 ≤ Int32.toInt x3 ∧ Int32.toInt x3 ≤ 1) → (0 ≤ Int32.toInt bL ∧ Int32.toInt bL ≤ 16) → (0 ≤ Int32.toInt bY ∧ Int32.toInt bY ≤ 0) → (Int32.toInt bL + ((pcn 16 x1 : Nat) : Int) ≤ 16) → (((pcn 16 x1 : Nat) : Int) + Int32.toInt x3 < n41) → next x1 x2 x3 bL bY sW) (x1 x2 x3 bL bY : Int32) (sW : Nat → Int32) (aBK : 0 ≤ Int32.toInt x1 ∧ Int32.toInt x1 ≤ 65535) (aBN : 0 ≤ Int32.toInt x2 ∧ Int32.toInt x2 ≤ 65535) (aCH : 0 ≤ Int32.toInt x3 ∧ Int32.toInt x3 ≤ 1) (yJ : 0 ≤ Int32.toInt bL ∧ Int32.toInt bL ≤ 16) (yG : 0 ≤ Int32.toInt bY ∧ Int32.toInt bY ≤ 0) (hx0 : Int32.toInt bL + ((pcn 16 x1 : Nat) : Int) ≤ 16) (hn41 : ((pcn 16 x1 : Nat) : Int) + Int32.toInt x3 ≤ n41) : ws_X10_gentle_41 post next bT qG m_x gR qR nG oO pJ x1 x2 x3 bL bY sW := by
  have l0 := aE0
  refine And.intro (fun c33 => ?_) (fun c33 => ?_)
  · skip
    have c33 := (zJ _ _).mp c33
    exact hpost _ _ _ _ (by omega) yJ yG
  · skip
    have c33 := mt (zJ _ _).mpr c33
    have j34 := pcn_le 16 (x1)
    exact ⟨18, tb_X10_gentle_50 bT qG m_x gR qR nG oO pJ xJ xU xV aAW xK zM xT yF yD xZ hc0 hpost hKn _ x1 x2 0 0 bL bY sW aBK aBN (by omega) (by omega) yJ yG hx0 (by omega) (by omega) (by omega)⟩
set_option maxHeartbeats 8000000 in
set_option maxRecDepth 200000 in
theorem tb_X10_gentle_41 {post : Int32 → Int32 → Int32 → (Nat → Int32) → Prop} {SB : Int} (bT : Int32) (qG m_x gR qR nG oO pJ : Nat → Int32) (xJ : 0 ≤ Int32.toInt bT ∧ Int32.toInt bT ≤ 16) (xU : ∀ k : Nat, k = 17 → -1 ≤ Int32.toInt (qG k) ∧ Int32.toInt (qG k) ≤ SB) (xV : ∀ k : Nat, k = 19 → 0 ≤ Int32.toInt (qG k) ∧ Int32.toInt (qG k) ≤ 9) (aAW : ∀ k : Nat, 0 ≤ Int32.toInt (m_x k) ∧ Int32.toInt (m_x k) ≤ 99) (xK : ∀ k : Nat, 0 ≤ Int32.toInt (gR k) ∧ Int32.toInt (gR k) ≤ 99) (zM : ∀ k : Nat, 0 ≤ Int32.toInt (qR k) ∧ Int32.toInt (qR k) ≤ 9) (xT : ∀ k : Nat, 0 ≤ Int32.toInt (nG k) ∧ Int32.toInt (nG k) ≤ 99) (yF : ∀ k : Nat, 0 ≤ Int32.toInt (oO k) ∧ Int32.toInt (oO k) ≤ 99) (yD : ∀ k : Nat, k = 4 → 1 ≤ Int32.toInt (pJ k) ∧ Int32.toInt (pJ k) ≤ 30) (xZ : ∀ k : Nat, k = 3 → 0 ≤ Int32.toInt (pJ k) ∧ Int32.toInt (pJ k) ≤ 9) (hc0 : -1 ≤ SB ∧ SB ≤ 7) (hpost : ∀ (r : Int32) (xM : Int32) (xG : Int32) (aBX : Nat → Int32), (-2 ≤ Int32.toInt r ∧ Int32.toInt r ≤ 16) → (0 ≤ Int32.toInt xM ∧ Int32.toInt xM ≤ 16) → (0 ≤ Int32.toInt xG ∧ Int32.toInt xG ≤ 0) → post r xM xG aBX) : ∀ (n : Nat) (x1 x2 x3 bL bY : Int32) (sW : Nat → Int32), (0 ≤ Int32.toInt x1 ∧ Int32.toInt x1 ≤ 65535) → (0 ≤ Int32.toInt x2 ∧ Int32.toInt x2 ≤ 65535) → (0 ≤ Int32.toInt x3 ∧ Int32.toInt x3 ≤ 1) → (0 ≤ Int32.toInt bL ∧ Int32.toInt bL ≤ 16) → (0 ≤ Int32.toInt bY ∧ Int32.toInt bY ≤ 0) → (Int32.toInt bL + ((pcn 16 x1 : Nat) : Int) ≤ 16) → (((pcn 16 x1 : Nat) : Int) + Int32.toInt x3 < (n : Int)) → wb_X10_gentle_41 post bT qG m_x gR qR nG oO pJ n x1 x2 x3 bL bY sW := by
  intro n
  induction n with
  | zero =>
    intro x1 x2 x3 bL bY sW aBK aBN aCH yJ yG hx0 hm
    exfalso; omega
  | succ n ih =>
    intro x1 x2 x3 bL bY sW aBK aBN aCH yJ yG hx0 hm
    exact ts_X10_gentle_41 bT qG m_x gR qR nG oO pJ xJ xU xV aAW xK zM xT yF yD xZ hc0 hpost ih x1 x2 x3 bL bY sW aBK aBN aCH yJ yG hx0 (by omega)
set_option maxHeartbeats 8000000 in
set_option maxRecDepth 200000 in
theorem t_X10_gentle {post : Int32 → Int32 → Int32 → (Nat → Int32) → Prop} {SB : Int} {bT bL bY : Int32} {qG m_x gR qR nG oO pJ sW : Nat → Int32} (xJ : 0 ≤ Int32.toInt bT ∧ Int32.toInt bT ≤ 16) (yJ : 0 ≤ Int32.toInt bL ∧ Int32.toInt bL ≤ 16) (yG : 0 ≤ Int32.toInt bY ∧ Int32.toInt bY ≤ 1) (xU : ∀ k : Nat, k = 17 → -1 ≤ Int32.toInt (qG k) ∧ Int32.toInt (qG k) ≤ SB) (xV : ∀ k : Nat, k = 19 → 0 ≤ Int32.toInt (qG k) ∧ Int32.toInt (qG k) ≤ 9) (aAW : ∀ k : Nat, 0 ≤ Int32.toInt (m_x k) ∧ Int32.toInt (m_x k) ≤ 99) (xK : ∀ k : Nat, 0 ≤ Int32.toInt (gR k) ∧ Int32.toInt (gR k) ≤ 99) (zM : ∀ k : Nat, 0 ≤ Int32.toInt (qR k) ∧ Int32.toInt (qR k) ≤ 9) (xT : ∀ k : Nat, 0 ≤ Int32.toInt (nG k) ∧ Int32.toInt (nG k) ≤ 99) (yF : ∀ k : Nat, 0 ≤ Int32.toInt (oO k) ∧ Int32.toInt (oO k) ≤ 99) (yD : ∀ k : Nat, k = 4 → 1 ≤ Int32.toInt (pJ k) ∧ Int32.toInt (pJ k) ≤ 30) (xZ : ∀ k : Nat, k = 3 → 0 ≤ Int32.toInt (pJ k) ∧ Int32.toInt (pJ k) ≤ 9) (hc0 : -1 ≤ SB ∧ SB ≤ 7) (hpost : ∀ (r : Int32) (xM : Int32) (xG : Int32) (aBX : Nat → Int32), (-2 ≤ Int32.toInt r ∧ Int32.toInt r ≤ 16) → (0 ≤ Int32.toInt xM ∧ Int32.toInt xM ≤ 16) → (0 ≤ Int32.toInt xG ∧ Int32.toInt xG ≤ 0) → post r xM xG aBX) : wp_X10_gentle post bT bL bY qG m_x gR qR nG oO pJ sW := by
  have l0 := aI2
  have l1 := li_m2
  have l2 := aE0
  have l3 := aEc
  have l4 := li_17
  have l5 := li_18
  have l6 := li_19
  have q35 := xU (17 : Int32).toNatClampNeg (by have e9 : (17 : Int32).toNatClampNeg = (Int32.toInt (17 : Int32)).toNat := rfl; omega)
  intro v36 ev36
  have hv36 := congrArg Int32.toInt ev36
  refine And.intro (fun c38 => ?_) (fun c38 => ?_)
  · skip
    have c38 := mt (zJ _ _).mpr c38
    refine aKO (by omega) xJ xU xV (by omega) (fun r39 h_r39 ox40 => ?_)
    have q41 := xV (19 : Int32).toNatClampNeg (by have e9 : (19 : Int32).toNatClampNeg = (Int32.toInt (19 : Int32)).toNat := rfl; omega)
    intro v42 ev42
    have hv42 := congrArg Int32.toInt ev42
    refine aXh (by omega) xJ zM (fun r44 h_r44 ox45 => ?_)
    intro v46 ev46
    have f47 := aAQ r39 r44 (by omega)
    have f48 := aBx r39 r44 (by omega)
    have hv46 := congrArg Int32.toInt ev46
    have q49 := xU (17 : Int32).toNatClampNeg (by have e9 : (17 : Int32).toNatClampNeg = (Int32.toInt (17 : Int32)).toNat := rfl; omega)
    intro v50 ev50
    have hv50 := congrArg Int32.toInt ev50
    intro v51 ev51
    have hv51 := congrArg Int32.toInt ev51
    refine aX7 (by omega) (by omega) xJ aAW xK xT yF yD xZ (fun r53 h_r53 => ?_)
    refine aKO (by omega) xJ xU xV (by omega) (fun r54 h_r54 ox55 => ?_)
    have f56 := aAQ v46 r53 (by omega)
    have f57 := aBx v46 r53 (by omega)
    have j58 := pcn_le 16 (v46 &&& r53)
    exact ⟨19, tb_X10_gentle_41 bT qG m_x gR qR nG oO pJ xJ xU xV aAW xK zM xT yF yD xZ hc0 hpost _ (v46 &&& r53) r54 1 0 0 sW (by omega) h_r54 (by omega) (by omega) (by omega) (by omega) (by omega)⟩
  · skip
    have c38 := (zJ _ _).mp c38
    exact hpost _ _ _ _ (by omega) yJ (by omega)
set_option maxHeartbeats 8000000 in
set_option maxRecDepth 200000 in
theorem ts_X10_harm_79 {post : Int32 → Int32 → Int32 → (Nat → Int32) → Prop} {SB : Int} {K39 : Int32 → Int32 → Int32 → Int32 → Int32 → Int32 → (Nat → Int32) → Prop} {n39 : Int} (bT : Int32) (qG m_x gR pW qR nG oO pJ : Nat → Int32) (xJ : 0 ≤ Int32.toInt bT ∧ Int32.toInt bT ≤ 16) (xU : ∀ k : Nat, k = 17 → -1 ≤ Int32.toInt (qG k) ∧ Int32.toInt (qG k) ≤ SB) (xV : ∀ k : Nat, k = 19 → 0 ≤ Int32.toInt (qG k) ∧ Int32.toInt (qG k) ≤ 9) (aAW : ∀ k : Nat, 0 ≤ Int32.toInt (m_x k) ∧ Int32.toInt (m_x k) ≤ 99) (xK : ∀ k : Nat, 0 ≤ Int32.toInt (gR k) ∧ Int32.toInt (gR k) ≤ 99) (yR : ∀ k : Nat, 0 ≤ Int32.toInt (pW k) ∧ Int32.toInt (pW k) ≤ 9) (zM : ∀ k : Nat, 0 ≤ Int32.toInt (qR k) ∧ Int32.toInt (qR k) ≤ 9) (xT : ∀ k : Nat, 0 ≤ Int32.toInt (nG k) ∧ Int32.toInt (nG k) ≤ 99) (yF : ∀ k : Nat, 0 ≤ Int32.toInt (oO k) ∧ Int32.toInt (oO k) ≤ 99) (yD : ∀ k : Nat, k = 4 → 1 ≤ Int32.toInt (pJ k) ∧ Int32.toInt (pJ k) ≤ 30) (xZ : ∀ k : Nat, k = 3 → 0 ≤ Int32.toInt (pJ k) ∧ Int32.toInt (pJ k) ≤ 9) (hc0 : -1 ≤ SB ∧ SB ≤ 7) (hpost : ∀ (r : Int32) (xM : Int32) (xG : Int32) (aBX : Nat → Int32), (-2 ≤ Int32.toInt r ∧ Int32.toInt r ≤ 65535) → (0 ≤ Int32.toInt xM ∧ Int32.toInt xM ≤ 16) → (0 ≤ Int32.toInt xG ∧ Int32.toInt xG ≤ 0) → post r xM xG aBX) (hK39 : ∀ (x1 : Int32) (x2 : Int32) (x3 : Int32) (x4 : Int32) (bL : Int32) (bY : Int32) (sW : Nat → Int32), (0 ≤ Int32.toInt x1 ∧ Int32.toInt x1 ≤ 65535) → (0 ≤ Int32.toInt x2 ∧ Int32.toInt x2 ≤ 65535) → (0 ≤ Int32.toInt x3 ∧ Int32.toInt x3 ≤ 65535) → (0 ≤ Int32.toInt x4 ∧ Int32.toInt x4 ≤ 16) → (0 ≤ Int32.toInt bL ∧ Int32.toInt bL ≤ 16) → (0 ≤ Int32.toInt bY ∧ Int32.toInt bY ≤ 0) → (16 - Int32.toInt x4 < n39) → K39 x1 x2 x3 x4 bL bY sW) (x1 x2 x3 x4 bL bY : Int32) (sW : Nat → Int32) (aBK : 0 ≤ Int32.toInt x1 ∧ Int32.toInt x1 ≤ 65535) (aBN : 0 ≤ Int32.toInt x2 ∧ Int32.toInt x2 ≤ 65535) (aCH : 0 ≤ Int32.toInt x3 ∧ Int32.toInt x3 ≤ 65535) (aDO : 0 ≤ Int32.toInt x4 ∧ Int32.toInt x4 ≤ 15) (yJ : 0 ≤ Int32.toInt bL ∧ Int32.toInt bL ≤ 16) (yG : 0 ≤ Int32.toInt bY ∧ Int32.toInt bY ≤ 0) (hn39 : 16 - Int32.toInt x4 ≤ n39) : ws_X10_harm_79 post K39 bT qG m_x gR pW qR nG oO pJ x1 x2 x3 x4 bL bY sW := by
  have l0 := aEc
  intro v1 ev1
  have f2 : Int32.toInt (x4 + 1) = Int32.toInt x4 + Int32.toInt (1 : Int32) := aAD _ _ (by omega)
  rw [← ev1] at f2
  exact hK39 x1 x2 x3 v1 bL bY sW aBK aBN aCH (by omega) yJ yG (by omega)
set_option maxHeartbeats 8000000 in
set_option maxRecDepth 200000 in
theorem ts_X10_harm_39 {post : Int32 → Int32 → Int32 → (Nat → Int32) → Prop} {SB : Int} {next : Int32 → Int32 → Int32 → Int32 → Int32 → Int32 → (Nat → Int32) → Prop} {n39 : Int} (bT : Int32) (qG m_x gR pW qR nG oO pJ : Nat → Int32) (xJ : 0 ≤ Int32.toInt bT ∧ Int32.toInt bT ≤ 16) (xU : ∀ k : Nat, k = 17 → -1 ≤ Int32.toInt (qG k) ∧ Int32.toInt (qG k) ≤ SB) (xV : ∀ k : Nat, k = 19 → 0 ≤ Int32.toInt (qG k) ∧ Int32.toInt (qG k) ≤ 9) (aAW : ∀ k : Nat, 0 ≤ Int32.toInt (m_x k) ∧ Int32.toInt (m_x k) ≤ 99) (xK : ∀ k : Nat, 0 ≤ Int32.toInt (gR k) ∧ Int32.toInt (gR k) ≤ 99) (yR : ∀ k : Nat, 0 ≤ Int32.toInt (pW k) ∧ Int32.toInt (pW k) ≤ 9) (zM : ∀ k : Nat, 0 ≤ Int32.toInt (qR k) ∧ Int32.toInt (qR k) ≤ 9) (xT : ∀ k : Nat, 0 ≤ Int32.toInt (nG k) ∧ Int32.toInt (nG k) ≤ 99) (yF : ∀ k : Nat, 0 ≤ Int32.toInt (oO k) ∧ Int32.toInt (oO k) ≤ 99) (yD : ∀ k : Nat, k = 4 → 1 ≤ Int32.toInt (pJ k) ∧ Int32.toInt (pJ k) ≤ 30) (xZ : ∀ k : Nat, k = 3 → 0 ≤ Int32.toInt (pJ k) ∧ Int32.toInt (pJ k) ≤ 9) (hc0 : -1 ≤ SB ∧ SB ≤ 7) (hpost : ∀ (r : Int32) (xM : Int32) (xG : Int32) (aBX : Nat → Int32), (-2 ≤ Int32.toInt r ∧ Int32.toInt r ≤ 65535) → (0 ≤ Int32.toInt xM ∧ Int32.toInt xM ≤ 16) → (0 ≤ Int32.toInt xG ∧ Int32.toInt xG ≤ 0) → post r xM xG aBX) (hKn : ∀ (x1 : Int32) (x2 : Int32) (x3 : Int32) (x4 : Int32) (bL : Int32) (bY : Int32) (sW : Nat → Int32), (0 ≤ Int32.toInt x1 ∧ Int32.toInt x1 ≤ 65535) → (0 ≤ Int32.toInt x2 ∧ Int32.toInt x2 ≤ 65535) → (0 ≤ Int32.toInt x3 ∧ Int32.toInt x3 ≤ 65535) → (0 ≤ Int32.toInt x4 ∧ Int32.toInt x4 ≤ 16) → (0 ≤ Int32.toInt bL ∧ Int32.toInt bL ≤ 16) → (0 ≤ Int32.toInt bY ∧ Int32.toInt bY ≤ 0) → (16 - Int32.toInt x4 < n39) → next x1 x2 x3 x4 bL bY sW) (x1 x2 x3 x4 bL bY : Int32) (sW : Nat → Int32) (aBK : 0 ≤ Int32.toInt x1 ∧ Int32.toInt x1 ≤ 65535) (aBN : 0 ≤ Int32.toInt x2 ∧ Int32.toInt x2 ≤ 65535) (aCH : 0 ≤ Int32.toInt x3 ∧ Int32.toInt x3 ≤ 65535) (aDO : 0 ≤ Int32.toInt x4 ∧ Int32.toInt x4 ≤ 16) (yJ : 0 ≤ Int32.toInt bL ∧ Int32.toInt bL ≤ 16) (yG : 0 ≤ Int32.toInt bY ∧ Int32.toInt bY ≤ 0) (hn39 : 16 - Int32.toInt x4 ≤ n39) : ws_X10_harm_39 post next bT qG m_x gR pW qR nG oO pJ x1 x2 x3 x4 bL bY sW := by
  have l0 := aE0
  have l1 := aEc
  have l2 := li_16
  refine And.intro (fun c3 => ?_) (fun c3 => ?_)
  · skip
    have c3 := (aAO _ _).mp c3
    intro v4 ev4
    have hv4 := congrArg Int32.toInt ev4
    intro v6 ev6
    have f8 := aBx x3 (v4 ^^^ (-1)) (by omega)
    have hv6 := congrArg Int32.toInt ev6
    refine aNU (by omega) xJ yR (fun r9 => ?_)
    refine aNU (by omega) xJ yR (fun r10 => ?_)
    intro v11 ev11
    have hv11 := congrArg Int32.toInt ev11
    refine And.intro (aBZ (by omega)) ?_
    intro v13 ev13
    have f14 : Int32.toInt (0 + 1) = Int32.toInt (0 : Int32) + Int32.toInt (1 : Int32) := aAD _ _ (by omega)
    rw [← ev13] at f14
    exact hpost _ _ _ _ (by omega) (by omega) yG
  · skip
    have c3 := mt (aAO _ _).mpr c3
    intro v15 ev15
    have f16 := aRJ x1 x4 (by omega)
    have hv15 := congrArg Int32.toInt ev15
    intro v17 ev17
    have f18 := aAQ v15 1 (by omega)
    have f19 := aBx v15 1 (by omega)
    have hv17 := congrArg Int32.toInt ev17
    refine And.intro (fun c20 => ?_) (fun c20 => ?_)
    · skip
      have c20 := mt (zJ _ _).mpr c20
      refine And.intro (fun h9 => absurd h9 (by decide)) (fun _ => ?_)
      exact ts_X10_harm_79 bT qG m_x gR pW qR nG oO pJ xJ xU xV aAW xK yR zM xT yF yD xZ hc0 hpost hKn x1 x2 x3 x4 bL bY sW aBK aBN aCH (by omega) yJ yG hn39
    · skip
      have c20 := (zJ _ _).mp c20
      refine And.intro (fun _ => ?_) (fun h9 => absurd h9 (by decide))
      refine t_X10_below (by omega) aBN xJ aAW xK (fun r21 h_r21 => ?_)
      intro v22 ev22
      have f23 := ti_or 16 65536 x3 r21 (by decide) (by omega) (by omega)
      have hv22 := congrArg Int32.toInt ev22
      intro v24 ev24
      have f25 := aDv 15 32768 x4 (by decide) (by omega)
      have hv24 := congrArg Int32.toInt ev24
      intro v26 ev26
      have f28 := aBx x2 (v24 ^^^ (-1)) (by omega)
      have hv26 := congrArg Int32.toInt ev26
      exact ts_X10_harm_79 bT qG m_x gR pW qR nG oO pJ xJ xU xV aAW xK yR zM xT yF yD xZ hc0 hpost hKn x1 v26 v22 x4 bL bY sW aBK (by omega) (by omega) (by omega) yJ yG hn39
set_option maxHeartbeats 8000000 in
set_option maxRecDepth 200000 in
theorem tb_X10_harm_39 {post : Int32 → Int32 → Int32 → (Nat → Int32) → Prop} {SB : Int} (bT : Int32) (qG m_x gR pW qR nG oO pJ : Nat → Int32) (xJ : 0 ≤ Int32.toInt bT ∧ Int32.toInt bT ≤ 16) (xU : ∀ k : Nat, k = 17 → -1 ≤ Int32.toInt (qG k) ∧ Int32.toInt (qG k) ≤ SB) (xV : ∀ k : Nat, k = 19 → 0 ≤ Int32.toInt (qG k) ∧ Int32.toInt (qG k) ≤ 9) (aAW : ∀ k : Nat, 0 ≤ Int32.toInt (m_x k) ∧ Int32.toInt (m_x k) ≤ 99) (xK : ∀ k : Nat, 0 ≤ Int32.toInt (gR k) ∧ Int32.toInt (gR k) ≤ 99) (yR : ∀ k : Nat, 0 ≤ Int32.toInt (pW k) ∧ Int32.toInt (pW k) ≤ 9) (zM : ∀ k : Nat, 0 ≤ Int32.toInt (qR k) ∧ Int32.toInt (qR k) ≤ 9) (xT : ∀ k : Nat, 0 ≤ Int32.toInt (nG k) ∧ Int32.toInt (nG k) ≤ 99) (yF : ∀ k : Nat, 0 ≤ Int32.toInt (oO k) ∧ Int32.toInt (oO k) ≤ 99) (yD : ∀ k : Nat, k = 4 → 1 ≤ Int32.toInt (pJ k) ∧ Int32.toInt (pJ k) ≤ 30) (xZ : ∀ k : Nat, k = 3 → 0 ≤ Int32.toInt (pJ k) ∧ Int32.toInt (pJ k) ≤ 9) (hc0 : -1 ≤ SB ∧ SB ≤ 7) (hpost : ∀ (r : Int32) (xM : Int32) (xG : Int32) (aBX : Nat → Int32), (-2 ≤ Int32.toInt r ∧ Int32.toInt r ≤ 65535) → (0 ≤ Int32.toInt xM ∧ Int32.toInt xM ≤ 16) → (0 ≤ Int32.toInt xG ∧ Int32.toInt xG ≤ 0) → post r xM xG aBX) : ∀ (n : Nat) (x1 x2 x3 x4 bL bY : Int32) (sW : Nat → Int32), (0 ≤ Int32.toInt x1 ∧ Int32.toInt x1 ≤ 65535) → (0 ≤ Int32.toInt x2 ∧ Int32.toInt x2 ≤ 65535) → (0 ≤ Int32.toInt x3 ∧ Int32.toInt x3 ≤ 65535) → (0 ≤ Int32.toInt x4 ∧ Int32.toInt x4 ≤ 16) → (0 ≤ Int32.toInt bL ∧ Int32.toInt bL ≤ 16) → (0 ≤ Int32.toInt bY ∧ Int32.toInt bY ≤ 0) → (16 - Int32.toInt x4 < (n : Int)) → wb_X10_harm_39 post bT qG m_x gR pW qR nG oO pJ n x1 x2 x3 x4 bL bY sW := by
  intro n
  induction n with
  | zero =>
    intro x1 x2 x3 x4 bL bY sW aBK aBN aCH aDO yJ yG hm
    exfalso; omega
  | succ n ih =>
    intro x1 x2 x3 x4 bL bY sW aBK aBN aCH aDO yJ yG hm
    exact ts_X10_harm_39 bT qG m_x gR pW qR nG oO pJ xJ xU xV aAW xK yR zM xT yF yD xZ hc0 hpost ih x1 x2 x3 x4 bL bY sW aBK aBN aCH aDO yJ yG (by omega)
set_option maxHeartbeats 8000000 in
set_option maxRecDepth 200000 in
theorem t_X10_harm {post : Int32 → Int32 → Int32 → (Nat → Int32) → Prop} {SB : Int} {bT bL bY : Int32} {qG m_x gR pW qR nG oO pJ sW : Nat → Int32} (xJ : 0 ≤ Int32.toInt bT ∧ Int32.toInt bT ≤ 16) (yJ : 0 ≤ Int32.toInt bL ∧ Int32.toInt bL ≤ 16) (yG : 0 ≤ Int32.toInt bY ∧ Int32.toInt bY ≤ 1) (xU : ∀ k : Nat, k = 17 → -1 ≤ Int32.toInt (qG k) ∧ Int32.toInt (qG k) ≤ SB) (xV : ∀ k : Nat, k = 19 → 0 ≤ Int32.toInt (qG k) ∧ Int32.toInt (qG k) ≤ 9) (aAW : ∀ k : Nat, 0 ≤ Int32.toInt (m_x k) ∧ Int32.toInt (m_x k) ≤ 99) (xK : ∀ k : Nat, 0 ≤ Int32.toInt (gR k) ∧ Int32.toInt (gR k) ≤ 99) (yR : ∀ k : Nat, 0 ≤ Int32.toInt (pW k) ∧ Int32.toInt (pW k) ≤ 9) (zM : ∀ k : Nat, 0 ≤ Int32.toInt (qR k) ∧ Int32.toInt (qR k) ≤ 9) (xT : ∀ k : Nat, 0 ≤ Int32.toInt (nG k) ∧ Int32.toInt (nG k) ≤ 99) (yF : ∀ k : Nat, 0 ≤ Int32.toInt (oO k) ∧ Int32.toInt (oO k) ≤ 99) (yD : ∀ k : Nat, k = 4 → 1 ≤ Int32.toInt (pJ k) ∧ Int32.toInt (pJ k) ≤ 30) (xZ : ∀ k : Nat, k = 3 → 0 ≤ Int32.toInt (pJ k) ∧ Int32.toInt (pJ k) ≤ 9) (hc0 : -1 ≤ SB ∧ SB ≤ 7) (hpost : ∀ (r : Int32) (xM : Int32) (xG : Int32) (aBX : Nat → Int32), (-2 ≤ Int32.toInt r ∧ Int32.toInt r ≤ 65535) → (0 ≤ Int32.toInt xM ∧ Int32.toInt xM ≤ 16) → (0 ≤ Int32.toInt xG ∧ Int32.toInt xG ≤ 0) → post r xM xG aBX) : wp_X10_harm post bT bL bY qG m_x gR pW qR nG oO pJ sW := by
  have l0 := aI2
  have l1 := li_m2
  have l2 := aE0
  have l3 := li_17
  have l4 := li_18
  have l5 := li_19
  have q29 := xU (17 : Int32).toNatClampNeg (by have e9 : (17 : Int32).toNatClampNeg = (Int32.toInt (17 : Int32)).toNat := rfl; omega)
  intro v30 ev30
  have hv30 := congrArg Int32.toInt ev30
  refine And.intro (fun c32 => ?_) (fun c32 => ?_)
  · skip
    have c32 := mt (zJ _ _).mpr c32
    refine aKO (by omega) xJ xU xV (by omega) (fun r33 h_r33 ox34 => ?_)
    have q35 := xV (19 : Int32).toNatClampNeg (by have e9 : (19 : Int32).toNatClampNeg = (Int32.toInt (19 : Int32)).toNat := rfl; omega)
    intro v36 ev36
    have hv36 := congrArg Int32.toInt ev36
    refine aXh (by omega) xJ zM (fun r38 h_r38 ox39 => ?_)
    intro v40 ev40
    have f41 := aAQ r33 r38 (by omega)
    have f42 := aBx r33 r38 (by omega)
    have hv40 := congrArg Int32.toInt ev40
    have q43 := xU (17 : Int32).toNatClampNeg (by have e9 : (17 : Int32).toNatClampNeg = (Int32.toInt (17 : Int32)).toNat := rfl; omega)
    intro v44 ev44
    have hv44 := congrArg Int32.toInt ev44
    intro v45 ev45
    have hv45 := congrArg Int32.toInt ev45
    refine aX7 (by omega) (by omega) xJ aAW xK xT yF yD xZ (fun r47 h_r47 => ?_)
    refine aKO (by omega) xJ xU xV (by omega) (fun r48 h_r48 ox49 => ?_)
    have f50 := aAQ v40 r47 (by omega)
    have f51 := aBx v40 r47 (by omega)
    exact ⟨18, tb_X10_harm_39 bT qG m_x gR pW qR nG oO pJ xJ xU xV aAW xK yR zM xT yF yD xZ hc0 hpost _ (v40 &&& r47) r48 0 0 bL 0 sW (by omega) h_r48 (by omega) (by omega) yJ (by omega) (by omega)⟩
  · skip
    have c32 := (zJ _ _).mp c32
    exact hpost _ _ _ _ (by omega) yJ (by omega)
