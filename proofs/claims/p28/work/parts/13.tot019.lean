set_option maxHeartbeats 8000000 in
set_option maxRecDepth 200000 in
theorem ts_X10_gentle_117 {post : Int32 -> Int32 -> Int32 -> (Nat -> Int32) -> Prop} {SB : Int} {K41 : Int32 -> Int32 -> Int32 -> Int32 -> Int32 -> (Nat -> Int32) -> Prop} {n41 : Int} (bT : Int32) (qG m_x gR qR nG oO pJ : Nat -> Int32) (xJ : 0 <= Int32.toInt bT /\ Int32.toInt bT <= 16) (xU : ∀ k : Nat, k = 17 -> -1 <= Int32.toInt (qG k) /\ Int32.toInt (qG k) <= SB) (xV : ∀ k : Nat, k = 19 -> 0 <= Int32.toInt (qG k) /\ Int32.toInt (qG k) <= 9) (aAW : ∀ k : Nat, 0 <= Int32.toInt (m_x k) /\ Int32.toInt (m_x k) <= 99) (xK : ∀ k : Nat, 0 <= Int32.toInt (gR k) /\ Int32.toInt (gR k) <= 99) (zM : ∀ k : Nat, 0 <= Int32.toInt (qR k) /\ Int32.toInt (qR k) <= 9) (xT : ∀ k : Nat, 0 <= Int32.toInt (nG k) /\ Int32.toInt (nG k) <= 99) (yF : ∀ k : Nat, 0 <= Int32.toInt (oO k) /\ Int32.toInt (oO k) <= 99) (yD : ∀ k : Nat, k = 4 -> 1 <= Int32.toInt (pJ k) /\ Int32.toInt (pJ k) <= 30) (xZ : ∀ k : Nat, k = 3 -> 0 <= Int32.toInt (pJ k) /\ Int32.toInt (pJ k) <= 9) (hc0 : -1 <= SB /\ SB <= 7) (hpost : ∀ (r : Int32) (xM : Int32) (xG : Int32) (aBX : Nat -> Int32), (-2 <= Int32.toInt r /\ Int32.toInt r <= 16) -> (0 <= Int32.toInt xM /\ Int32.toInt xM <= 16) -> (0 <= Int32.toInt xG /\ Int32.toInt xG <= 0) -> post r xM xG aBX) (hK41 : ∀ (x1 : Int32) (x2 : Int32) (x3 : Int32) (bL : Int32) (bY : Int32) (sW : Nat -> Int32), (0 <= Int32.toInt x1 /\ Int32.toInt x1 <= 65535) -> (0 <= Int32.toInt x2 /\ Int32.toInt x2 <= 65535) -> (0 <= Int32.toInt x3 /\ Int32.toInt x3 <= 1) -> (0 <= Int32.toInt bL /\ Int32.toInt bL <= 16) -> (0 <= Int32.toInt bY /\ Int32.toInt bY <= 0) -> (Int32.toInt bL + ((pcn 16 x1 : Nat) : Int) <= 16) -> (((pcn 16 x1 : Nat) : Int) + Int32.toInt x3 < n41) -> K41 x1 x2 x3 bL bY sW) (x1 x2 x3 bL bY : Int32) (sW : Nat -> Int32) (aBK : 0 <= Int32.toInt x1 /\ Int32.toInt x1 <= 65535) (aBN : 0 <= Int32.toInt x2 /\ Int32.toInt x2 <= 65535) (aCH : 0 <= Int32.toInt x3 /\ Int32.toInt x3 <= 1) (yJ : 0 <= Int32.toInt bL /\ Int32.toInt bL <= 16) (yG : 0 <= Int32.toInt bY /\ Int32.toInt bY <= 0) (hx0 : Int32.toInt bL + ((pcn 16 x1 : Nat) : Int) <= 16) (hx1 : ((pcn 16 x1 : Nat) : Int) + Int32.toInt x3 < n41) (hn41 : ((pcn 16 x1 : Nat) : Int) + Int32.toInt x3 <= n41) : ws_X10_gentle_117 post K41 bT qG m_x gR qR nG oO pJ x1 x2 x3 bL bY sW := by
  have j1 := pcn_le 16 (x1)
  exact hK41 x1 x2 x3 bL bY sW aBK aBN aCH yJ yG hx0 (by omega)
set_option maxHeartbeats 8000000 in
set_option maxRecDepth 200000 in
theorem ts_X10_gentle_111 {post : Int32 -> Int32 -> Int32 -> (Nat -> Int32) -> Prop} {SB : Int} {K41 : Int32 -> Int32 -> Int32 -> Int32 -> Int32 -> (Nat -> Int32) -> Prop} {K50 : Int32 -> Int32 -> Int32 -> Int32 -> Int32 -> Int32 -> (Nat -> Int32) -> Prop} {n41 n50 : Int} (bT : Int32) (qG m_x gR qR nG oO pJ : Nat -> Int32) (xJ : 0 <= Int32.toInt bT /\ Int32.toInt bT <= 16) (xU : ∀ k : Nat, k = 17 -> -1 <= Int32.toInt (qG k) /\ Int32.toInt (qG k) <= SB) (xV : ∀ k : Nat, k = 19 -> 0 <= Int32.toInt (qG k) /\ Int32.toInt (qG k) <= 9) (aAW : ∀ k : Nat, 0 <= Int32.toInt (m_x k) /\ Int32.toInt (m_x k) <= 99) (xK : ∀ k : Nat, 0 <= Int32.toInt (gR k) /\ Int32.toInt (gR k) <= 99) (zM : ∀ k : Nat, 0 <= Int32.toInt (qR k) /\ Int32.toInt (qR k) <= 9) (xT : ∀ k : Nat, 0 <= Int32.toInt (nG k) /\ Int32.toInt (nG k) <= 99) (yF : ∀ k : Nat, 0 <= Int32.toInt (oO k) /\ Int32.toInt (oO k) <= 99) (yD : ∀ k : Nat, k = 4 -> 1 <= Int32.toInt (pJ k) /\ Int32.toInt (pJ k) <= 30) (xZ : ∀ k : Nat, k = 3 -> 0 <= Int32.toInt (pJ k) /\ Int32.toInt (pJ k) <= 9) (hc0 : -1 <= SB /\ SB <= 7) (hpost : ∀ (r : Int32) (xM : Int32) (xG : Int32) (aBX : Nat -> Int32), (-2 <= Int32.toInt r /\ Int32.toInt r <= 16) -> (0 <= Int32.toInt xM /\ Int32.toInt xM <= 16) -> (0 <= Int32.toInt xG /\ Int32.toInt xG <= 0) -> post r xM xG aBX) (hK41 : ∀ (x1 : Int32) (x2 : Int32) (x3 : Int32) (bL : Int32) (bY : Int32) (sW : Nat -> Int32), (0 <= Int32.toInt x1 /\ Int32.toInt x1 <= 65535) -> (0 <= Int32.toInt x2 /\ Int32.toInt x2 <= 65535) -> (0 <= Int32.toInt x3 /\ Int32.toInt x3 <= 1) -> (0 <= Int32.toInt bL /\ Int32.toInt bL <= 16) -> (0 <= Int32.toInt bY /\ Int32.toInt bY <= 0) -> (Int32.toInt bL + ((pcn 16 x1 : Nat) : Int) <= 16) -> (((pcn 16 x1 : Nat) : Int) + Int32.toInt x3 < n41) -> K41 x1 x2 x3 bL bY sW) (hK50 : ∀ (x1 : Int32) (x2 : Int32) (x3 : Int32) (x4 : Int32) (bL : Int32) (bY : Int32) (sW : Nat -> Int32), (0 <= Int32.toInt x1 /\ Int32.toInt x1 <= 65535) -> (0 <= Int32.toInt x2 /\ Int32.toInt x2 <= 65535) -> (0 <= Int32.toInt x3 /\ Int32.toInt x3 <= 1) -> (0 <= Int32.toInt x4 /\ Int32.toInt x4 <= 16) -> (0 <= Int32.toInt bL /\ Int32.toInt bL <= 16) -> (0 <= Int32.toInt bY /\ Int32.toInt bY <= 0) -> (Int32.toInt bL + ((pcn 16 x1 : Nat) : Int) <= 16) -> (((pcn 16 x1 : Nat) : Int) + Int32.toInt x3 < n41) -> (((pcn 16 x1 : Nat) : Int) + Int32.toInt x3 <= n41) -> (16 - Int32.toInt x4 < n50) -> K50 x1 x2 x3 x4 bL bY sW) (x1 x2 x3 x4 bL bY : Int32) (sW : Nat -> Int32) (aBK : 0 <= Int32.toInt x1 /\ Int32.toInt x1 <= 65535) (aBN : 0 <= Int32.toInt x2 /\ Int32.toInt x2 <= 65535) (aCH : 0 <= Int32.toInt x3 /\ Int32.toInt x3 <= 1) (aDO : 0 <= Int32.toInt x4 /\ Int32.toInt x4 <= 15) (yJ : 0 <= Int32.toInt bL /\ Int32.toInt bL <= 16) (yG : 0 <= Int32.toInt bY /\ Int32.toInt bY <= 0) (hx0 : Int32.toInt bL + ((pcn 16 x1 : Nat) : Int) <= 16) (hx1 : ((pcn 16 x1 : Nat) : Int) + Int32.toInt x3 < n41) (hn41 : ((pcn 16 x1 : Nat) : Int) + Int32.toInt x3 <= n41) (hn50 : 16 - Int32.toInt x4 <= n50) : ws_X10_gentle_111 post K41 K50 bT qG m_x gR qR nG oO pJ x1 x2 x3 x4 bL bY sW := by
  have l0 := aEc
  intro v2 ev2
  have f3 : Int32.toInt (x4 + 1) = Int32.toInt x4 + Int32.toInt (1 : Int32) := aAD _ _ (by omega)
  rw [<- ev2] at f3
  have j4 := pcn_le 16 (x1)
  exact hK50 x1 x2 x3 v2 bL bY sW aBK aBN aCH (by omega) yJ yG hx0 hx1 hn41 (by omega)
set_option maxHeartbeats 8000000 in
set_option maxRecDepth 200000 in
theorem ts_X10_gentle_50 {post : Int32 -> Int32 -> Int32 -> (Nat -> Int32) -> Prop} {SB : Int} {K41 : Int32 -> Int32 -> Int32 -> Int32 -> Int32 -> (Nat -> Int32) -> Prop} {next : Int32 -> Int32 -> Int32 -> Int32 -> Int32 -> Int32 -> (Nat -> Int32) -> Prop} {n50 n41 : Int} (bT : Int32) (qG m_x gR qR nG oO pJ : Nat -> Int32) (xJ : 0 <= Int32.toInt bT /\ Int32.toInt bT <= 16) (xU : ∀ k : Nat, k = 17 -> -1 <= Int32.toInt (qG k) /\ Int32.toInt (qG k) <= SB) (xV : ∀ k : Nat, k = 19 -> 0 <= Int32.toInt (qG k) /\ Int32.toInt (qG k) <= 9) (aAW : ∀ k : Nat, 0 <= Int32.toInt (m_x k) /\ Int32.toInt (m_x k) <= 99) (xK : ∀ k : Nat, 0 <= Int32.toInt (gR k) /\ Int32.toInt (gR k) <= 99) (zM : ∀ k : Nat, 0 <= Int32.toInt (qR k) /\ Int32.toInt (qR k) <= 9) (xT : ∀ k : Nat, 0 <= Int32.toInt (nG k) /\ Int32.toInt (nG k) <= 99) (yF : ∀ k : Nat, 0 <= Int32.toInt (oO k) /\ Int32.toInt (oO k) <= 99) (yD : ∀ k : Nat, k = 4 -> 1 <= Int32.toInt (pJ k) /\ Int32.toInt (pJ k) <= 30) (xZ : ∀ k : Nat, k = 3 -> 0 <= Int32.toInt (pJ k) /\ Int32.toInt (pJ k) <= 9) (hc0 : -1 <= SB /\ SB <= 7) (hpost : ∀ (r : Int32) (xM : Int32) (xG : Int32) (aBX : Nat -> Int32), (-2 <= Int32.toInt r /\ Int32.toInt r <= 16) -> (0 <= Int32.toInt xM /\ Int32.toInt xM <= 16) -> (0 <= Int32.toInt xG /\ Int32.toInt xG <= 0) -> post r xM xG aBX) (hK41 : ∀ (x1 : Int32) (x2 : Int32) (x3 : Int32) (bL : Int32) (bY : Int32) (sW : Nat -> Int32), (0 <= Int32.toInt x1 /\ Int32.toInt x1 <= 65535) -> (0 <= Int32.toInt x2 /\ Int32.toInt x2 <= 65535) -> (0 <= Int32.toInt x3 /\ Int32.toInt x3 <= 1) -> (0 <= Int32.toInt bL /\ Int32.toInt bL <= 16) -> (0 <= Int32.toInt bY /\ Int32.toInt bY <= 0) -> (Int32.toInt bL + ((pcn 16 x1 : Nat) : Int) <= 16) -> (((pcn 16 x1 : Nat) : Int) + Int32.toInt x3 < n41) -> K41 x1 x2 x3 bL bY sW) (hKn : ∀ (x1 : Int32) (x2 : Int32) (x3 : Int32) (x4 : Int32) (bL : Int32) (bY : Int32) (sW : Nat -> Int32), (0 <= Int32.toInt x1 /\ Int32.toInt x1 <= 65535) -> (0 <= Int32.toInt x2 /\ Int32.toInt x2 <= 65535) -> (0 <= Int32.toInt x3 /\ Int32.toInt x3 <= 1) -> (0 <= Int32.toInt x4 /\ Int32.toInt x4 <= 16) -> (0 <= Int32.toInt bL /\ Int32.toInt bL <= 16) -> (0 <= Int32.toInt bY /\ Int32.toInt bY <= 0) -> (Int32.toInt bL + ((pcn 16 x1 : Nat) : Int) <= 16) -> (((pcn 16 x1 : Nat) : Int) + Int32.toInt x3 < n41) -> (((pcn 16 x1 : Nat) : Int) + Int32.toInt x3 <= n41) -> (16 - Int32.toInt x4 < n50) -> next x1 x2 x3 x4 bL bY sW) (x1 x2 x3 x4 bL bY : Int32) (sW : Nat -> Int32) (aBK : 0 <= Int32.toInt x1 /\ Int32.toInt x1 <= 65535) (aBN : 0 <= Int32.toInt x2 /\ Int32.toInt x2 <= 65535) (aCH : 0 <= Int32.toInt x3 /\ Int32.toInt x3 <= 1) (aDO : 0 <= Int32.toInt x4 /\ Int32.toInt x4 <= 16) (yJ : 0 <= Int32.toInt bL /\ Int32.toInt bL <= 16) (yG : 0 <= Int32.toInt bY /\ Int32.toInt bY <= 0) (hx0 : Int32.toInt bL + ((pcn 16 x1 : Nat) : Int) <= 16) (hx1 : ((pcn 16 x1 : Nat) : Int) + Int32.toInt x3 < n41) (hn41 : ((pcn 16 x1 : Nat) : Int) + Int32.toInt x3 <= n41) (hn50 : 16 - Int32.toInt x4 <= n50) : ws_X10_gentle_50 post K41 next bT qG m_x gR qR nG oO pJ x1 x2 x3 x4 bL bY sW := by
  have l0 := aE0
  have l1 := aEc
  refine And.intro (fun c5 => ?_) (fun c5 => ?_)
  · skip
    have c5 := (aAO _ _).mp c5
    have j6 := pcn_le 16 (x1)
    exact ts_X10_gentle_117 bT qG m_x gR qR nG oO pJ xJ xU xV aAW xK zM xT yF yD xZ hc0 hpost hK41 x1 x2 x3 bL bY sW aBK aBN aCH yJ yG hx0 hx1 hn41
  · skip
    have c5 := mt (aAO _ _).mpr c5
    refine And.intro (fun c7 => ?_) (fun c7 => ?_)
    · skip
      have c7 := mt (zJ _ _).mpr c7
      have j8 := pcn_le 16 (x1)
      exact ts_X10_gentle_117 bT qG m_x gR qR nG oO pJ xJ xU xV aAW xK zM xT yF yD xZ hc0 hpost hK41 x1 x2 x3 bL bY sW aBK aBN aCH yJ yG hx0 hx1 hn41
    · skip
      have c7 := (zJ _ _).mp c7
      intro v9 ev9
      have f10 := aRJ x1 x4 (by omega)
      have hv9 := congrArg Int32.toInt ev9
      intro v11 ev11
      have f12 := aAQ v9 1 (by omega)
      have f13 := aBx v9 1 (by omega)
      have hv11 := congrArg Int32.toInt ev11
      refine And.intro (fun c14 => ?_) (fun c14 => ?_)
      · skip
        have c14 := mt (zJ _ _).mpr c14
        refine And.intro (fun _ => ?_) (fun h9 => absurd h9 (by decide))
        have j15 := pcn_le 16 (x1)
        exact ts_X10_gentle_111 bT qG m_x gR qR nG oO pJ xJ xU xV aAW xK zM xT yF yD xZ hc0 hpost hK41 hKn x1 x2 x3 x4 bL bY sW aBK aBN aCH (by omega) yJ yG hx0 hx1 hn41 hn50
      · skip
        have c14 := (zJ _ _).mp c14
        refine And.intro (fun h9 => absurd h9 (by decide)) (fun _ => ?_)
        have j16 := pcn_pos x1 x4 (by assumption) (by assumption) (by omega) (by omega)
        refine t_X10_below (by omega) aBN xJ aAW xK (fun r17 h_r17 => ?_)
        refine And.intro (fun c18 => ?_) (fun c18 => ?_)
        · skip
          have c18 := (zJ _ _).mp c18
          refine And.intro (aBZ (by omega)) ?_
          intro v19 ev19
          have f20 : Int32.toInt (bL + 1) = Int32.toInt bL + Int32.toInt (1 : Int32) := aAD _ _ (by omega)
          rw [<- ev19] at f20
          intro v21 ev21
          have f22 := aDv 15 32768 x4 (by decide) (by omega)
          have hv21 := congrArg Int32.toInt ev21
          intro v23 ev23
          have f25 := aBx x1 (v21 ^^^ (-1)) (by omega)
          have hv23 := congrArg Int32.toInt ev23
          have j26 := pcn_clr v23 x4 (by assumption) (by assumption) (by omega) (by assumption) (by assumption) (by omega)
          intro v27 ev27
          have hv27 := congrArg Int32.toInt ev27
          intro v28 ev28
          have f30 := aBx x2 (v27 ^^^ (-1)) (by omega)
          have hv28 := congrArg Int32.toInt ev28
          have j31 := pcn_le 16 (v23)
          exact ts_X10_gentle_111 bT qG m_x gR qR nG oO pJ xJ xU xV aAW xK zM xT yF yD xZ hc0 hpost hK41 hKn v23 v28 1 x4 v19 bY (upd sW bL.toNatClampNeg x4) (by omega) (by omega) (by omega) (by omega) (by omega) yG (by omega) (by omega) (by omega) hn50
        · skip
          have c18 := mt (zJ _ _).mpr c18
          have j32 := pcn_le 16 (x1)
          exact ts_X10_gentle_111 bT qG m_x gR qR nG oO pJ xJ xU xV aAW xK zM xT yF yD xZ hc0 hpost hK41 hKn x1 x2 x3 x4 bL bY sW aBK aBN aCH (by omega) yJ yG hx0 hx1 hn41 hn50
set_option maxHeartbeats 8000000 in
set_option maxRecDepth 200000 in
theorem tb_X10_gentle_50 {post : Int32 -> Int32 -> Int32 -> (Nat -> Int32) -> Prop} {SB : Int} {K41 : Int32 -> Int32 -> Int32 -> Int32 -> Int32 -> (Nat -> Int32) -> Prop} {n41 : Int} (bT : Int32) (qG m_x gR qR nG oO pJ : Nat -> Int32) (xJ : 0 <= Int32.toInt bT /\ Int32.toInt bT <= 16) (xU : ∀ k : Nat, k = 17 -> -1 <= Int32.toInt (qG k) /\ Int32.toInt (qG k) <= SB) (xV : ∀ k : Nat, k = 19 -> 0 <= Int32.toInt (qG k) /\ Int32.toInt (qG k) <= 9) (aAW : ∀ k : Nat, 0 <= Int32.toInt (m_x k) /\ Int32.toInt (m_x k) <= 99) (xK : ∀ k : Nat, 0 <= Int32.toInt (gR k) /\ Int32.toInt (gR k) <= 99) (zM : ∀ k : Nat, 0 <= Int32.toInt (qR k) /\ Int32.toInt (qR k) <= 9) (xT : ∀ k : Nat, 0 <= Int32.toInt (nG k) /\ Int32.toInt (nG k) <= 99) (yF : ∀ k : Nat, 0 <= Int32.toInt (oO k) /\ Int32.toInt (oO k) <= 99) (yD : ∀ k : Nat, k = 4 -> 1 <= Int32.toInt (pJ k) /\ Int32.toInt (pJ k) <= 30) (xZ : ∀ k : Nat, k = 3 -> 0 <= Int32.toInt (pJ k) /\ Int32.toInt (pJ k) <= 9) (hc0 : -1 <= SB /\ SB <= 7) (hpost : ∀ (r : Int32) (xM : Int32) (xG : Int32) (aBX : Nat -> Int32), (-2 <= Int32.toInt r /\ Int32.toInt r <= 16) -> (0 <= Int32.toInt xM /\ Int32.toInt xM <= 16) -> (0 <= Int32.toInt xG /\ Int32.toInt xG <= 0) -> post r xM xG aBX) (hK41 : ∀ (x1 : Int32) (x2 : Int32) (x3 : Int32) (bL : Int32) (bY : Int32) (sW : Nat -> Int32), (0 <= Int32.toInt x1 /\ Int32.toInt x1 <= 65535) -> (0 <= Int32.toInt x2 /\ Int32.toInt x2 <= 65535) -> (0 <= Int32.toInt x3 /\ Int32.toInt x3 <= 1) -> (0 <= Int32.toInt bL /\ Int32.toInt bL <= 16) -> (0 <= Int32.toInt bY /\ Int32.toInt bY <= 0) -> (Int32.toInt bL + ((pcn 16 x1 : Nat) : Int) <= 16) -> (((pcn 16 x1 : Nat) : Int) + Int32.toInt x3 < n41) -> K41 x1 x2 x3 bL bY sW) : ∀ (n : Nat) (x1 x2 x3 x4 bL bY : Int32) (sW : Nat -> Int32), (0 <= Int32.toInt x1 /\ Int32.toInt x1 <= 65535) -> (0 <= Int32.toInt x2 /\ Int32.toInt x2 <= 65535) -> (0 <= Int32.toInt x3 /\ Int32.toInt x3 <= 1) -> (0 <= Int32.toInt x4 /\ Int32.toInt x4 <= 16) -> (0 <= Int32.toInt bL /\ Int32.toInt bL <= 16) -> (0 <= Int32.toInt bY /\ Int32.toInt bY <= 0) -> (Int32.toInt bL + ((pcn 16 x1 : Nat) : Int) <= 16) -> (((pcn 16 x1 : Nat) : Int) + Int32.toInt x3 < n41) -> (((pcn 16 x1 : Nat) : Int) + Int32.toInt x3 <= n41) -> (16 - Int32.toInt x4 < (n : Int)) -> wb_X10_gentle_50 post K41 bT qG m_x gR qR nG oO pJ n x1 x2 x3 x4 bL bY sW := by
  intro n
  induction n with
  | zero =>
    intro x1 x2 x3 x4 bL bY sW aBK aBN aCH aDO yJ yG hx0 hx1 hn41 hm
    exfalso; omega
  | succ n ih =>
    intro x1 x2 x3 x4 bL bY sW aBK aBN aCH aDO yJ yG hx0 hx1 hn41 hm
    exact ts_X10_gentle_50 bT qG m_x gR qR nG oO pJ xJ xU xV aAW xK zM xT yF yD xZ hc0 hpost hK41 ih x1 x2 x3 x4 bL bY sW aBK aBN aCH aDO yJ yG hx0 hx1 hn41 (by omega)
set_option maxHeartbeats 8000000 in
set_option maxRecDepth 200000 in
theorem ts_X10_gentle_41 {post : Int32 -> Int32 -> Int32 -> (Nat -> Int32) -> Prop} {SB : Int} {next : Int32 -> Int32 -> Int32 -> Int32 -> Int32 -> (Nat -> Int32) -> Prop} {n41 : Int} (bT : Int32) (qG m_x gR qR nG oO pJ : Nat -> Int32) (xJ : 0 <= Int32.toInt bT /\ Int32.toInt bT <= 16) (xU : ∀ k : Nat, k = 17 -> -1 <= Int32.toInt (qG k) /\ Int32.toInt (qG k) <= SB) (xV : ∀ k : Nat, k = 19 -> 0 <= Int32.toInt (qG k) /\ Int32.toInt (qG k) <= 9) (aAW : ∀ k : Nat, 0 <= Int32.toInt (m_x k) /\ Int32.toInt (m_x k) <= 99) (xK : ∀ k : Nat, 0 <= Int32.toInt (gR k) /\ Int32.toInt (gR k) <= 99) (zM : ∀ k : Nat, 0 <= Int32.toInt (qR k) /\ Int32.toInt (qR k) <= 9) (xT : ∀ k : Nat, 0 <= Int32.toInt (nG k) /\ Int32.toInt (nG k) <= 99) (yF : ∀ k : Nat, 0 <= Int32.toInt (oO k) /\ Int32.toInt (oO k) <= 99) (yD : ∀ k : Nat, k = 4 -> 1 <= Int32.toInt (pJ k) /\ Int32.toInt (pJ k) <= 30) (xZ : ∀ k : Nat, k = 3 -> 0 <= Int32.toInt (pJ k) /\ Int32.toInt (pJ k) <= 9) (hc0 : -1 <= SB /\ SB <= 7) (hpost : ∀ (r : Int32) (xM : Int32) (xG : Int32) (aBX : Nat -> Int32), (-2 <= Int32.toInt r /\ Int32.toInt r <= 16) -> (0 <= Int32.toInt xM /\ Int32.toInt xM <= 16) -> (0 <= Int32.toInt xG /\ Int32.toInt xG <= 0) -> post r xM xG aBX) (hKn : ∀ (x1 : Int32) (x2 : Int32) (x3 : Int32) (bL : Int32) (bY : Int32) (sW : Nat -> Int32), (0 <= Int32.toInt x1 /\ Int32.toInt x1 <= 65535) -> (0 <= Int32.toInt x2 /\ Int32.toInt x2 <= 65535) -> (0 <= Int32.toInt x3 /\ Int32.toInt x3 <= 1) -> (0 <= Int32.toInt bL /\ Int32.toInt bL <= 16) -> (0 <= Int32.toInt bY /\ Int32.toInt bY <= 0) -> (Int32.toInt bL + ((pcn 16 x1 : Nat) : Int) <= 16) -> (((pcn 16 x1 : Nat) : Int) + Int32.toInt x3 < n41) -> next x1 x2 x3 bL bY sW) (x1 x2 x3 bL bY : Int32) (sW : Nat -> Int32) (aBK : 0 <= Int32.toInt x1 /\ Int32.toInt x1 <= 65535) (aBN : 0 <= Int32.toInt x2 /\ Int32.toInt x2 <= 65535) (aCH : 0 <= Int32.toInt x3 /\ Int32.toInt x3 <= 1) (yJ : 0 <= Int32.toInt bL /\ Int32.toInt bL <= 16) (yG : 0 <= Int32.toInt bY /\ Int32.toInt bY <= 0) (hx0 : Int32.toInt bL + ((pcn 16 x1 : Nat) : Int) <= 16) (hn41 : ((pcn 16 x1 : Nat) : Int) + Int32.toInt x3 <= n41) : ws_X10_gentle_41 post next bT qG m_x gR qR nG oO pJ x1 x2 x3 bL bY sW := by
  have l0 := aE0
  refine And.intro (fun c33 => ?_) (fun c33 => ?_)
  · skip
    have c33 := (zJ _ _).mp c33
    exact hpost _ _ _ _ (by omega) yJ yG
  · skip
    have c33 := mt (zJ _ _).mpr c33
    have j34 := pcn_le 16 (x1)
    exact ⟨18, tb_X10_gentle_50 bT qG m_x gR qR nG oO pJ xJ xU xV aAW xK zM xT yF yD xZ hc0 hpost hKn _ x1 x2 0 0 bL bY sW aBK aBN (by omega) (by omega) yJ yG hx0 (by omega) (by omega) (by omega)⟩
set_option maxHeartbeats 8000000 in
set_option maxRecDepth 200000 in
theorem tb_X10_gentle_41 {post : Int32 -> Int32 -> Int32 -> (Nat -> Int32) -> Prop} {SB : Int} (bT : Int32) (qG m_x gR qR nG oO pJ : Nat -> Int32) (xJ : 0 <= Int32.toInt bT /\ Int32.toInt bT <= 16) (xU : ∀ k : Nat, k = 17 -> -1 <= Int32.toInt (qG k) /\ Int32.toInt (qG k) <= SB) (xV : ∀ k : Nat, k = 19 -> 0 <= Int32.toInt (qG k) /\ Int32.toInt (qG k) <= 9) (aAW : ∀ k : Nat, 0 <= Int32.toInt (m_x k) /\ Int32.toInt (m_x k) <= 99) (xK : ∀ k : Nat, 0 <= Int32.toInt (gR k) /\ Int32.toInt (gR k) <= 99) (zM : ∀ k : Nat, 0 <= Int32.toInt (qR k) /\ Int32.toInt (qR k) <= 9) (xT : ∀ k : Nat, 0 <= Int32.toInt (nG k) /\ Int32.toInt (nG k) <= 99) (yF : ∀ k : Nat, 0 <= Int32.toInt (oO k) /\ Int32.toInt (oO k) <= 99) (yD : ∀ k : Nat, k = 4 -> 1 <= Int32.toInt (pJ k) /\ Int32.toInt (pJ k) <= 30) (xZ : ∀ k : Nat, k = 3 -> 0 <= Int32.toInt (pJ k) /\ Int32.toInt (pJ k) <= 9) (hc0 : -1 <= SB /\ SB <= 7) (hpost : ∀ (r : Int32) (xM : Int32) (xG : Int32) (aBX : Nat -> Int32), (-2 <= Int32.toInt r /\ Int32.toInt r <= 16) -> (0 <= Int32.toInt xM /\ Int32.toInt xM <= 16) -> (0 <= Int32.toInt xG /\ Int32.toInt xG <= 0) -> post r xM xG aBX) : ∀ (n : Nat) (x1 x2 x3 bL bY : Int32) (sW : Nat -> Int32), (0 <= Int32.toInt x1 /\ Int32.toInt x1 <= 65535) -> (0 <= Int32.toInt x2 /\ Int32.toInt x2 <= 65535) -> (0 <= Int32.toInt x3 /\ Int32.toInt x3 <= 1) -> (0 <= Int32.toInt bL /\ Int32.toInt bL <= 16) -> (0 <= Int32.toInt bY /\ Int32.toInt bY <= 0) -> (Int32.toInt bL + ((pcn 16 x1 : Nat) : Int) <= 16) -> (((pcn 16 x1 : Nat) : Int) + Int32.toInt x3 < (n : Int)) -> wb_X10_gentle_41 post bT qG m_x gR qR nG oO pJ n x1 x2 x3 bL bY sW := by
  intro n
  induction n with
  | zero =>
    intro x1 x2 x3 bL bY sW aBK aBN aCH yJ yG hx0 hm
    exfalso; omega
  | succ n ih =>
    intro x1 x2 x3 bL bY sW aBK aBN aCH yJ yG hx0 hm
    exact ts_X10_gentle_41 bT qG m_x gR qR nG oO pJ xJ xU xV aAW xK zM xT yF yD xZ hc0 hpost ih x1 x2 x3 bL bY sW aBK aBN aCH yJ yG hx0 (by omega)
set_option maxHeartbeats 8000000 in
set_option maxRecDepth 200000 in
theorem t_X10_gentle {post : Int32 -> Int32 -> Int32 -> (Nat -> Int32) -> Prop} {SB : Int} {bT bL bY : Int32} {qG m_x gR qR nG oO pJ sW : Nat -> Int32} (xJ : 0 <= Int32.toInt bT /\ Int32.toInt bT <= 16) (yJ : 0 <= Int32.toInt bL /\ Int32.toInt bL <= 16) (yG : 0 <= Int32.toInt bY /\ Int32.toInt bY <= 1) (xU : ∀ k : Nat, k = 17 -> -1 <= Int32.toInt (qG k) /\ Int32.toInt (qG k) <= SB) (xV : ∀ k : Nat, k = 19 -> 0 <= Int32.toInt (qG k) /\ Int32.toInt (qG k) <= 9) (aAW : ∀ k : Nat, 0 <= Int32.toInt (m_x k) /\ Int32.toInt (m_x k) <= 99) (xK : ∀ k : Nat, 0 <= Int32.toInt (gR k) /\ Int32.toInt (gR k) <= 99) (zM : ∀ k : Nat, 0 <= Int32.toInt (qR k) /\ Int32.toInt (qR k) <= 9) (xT : ∀ k : Nat, 0 <= Int32.toInt (nG k) /\ Int32.toInt (nG k) <= 99) (yF : ∀ k : Nat, 0 <= Int32.toInt (oO k) /\ Int32.toInt (oO k) <= 99) (yD : ∀ k : Nat, k = 4 -> 1 <= Int32.toInt (pJ k) /\ Int32.toInt (pJ k) <= 30) (xZ : ∀ k : Nat, k = 3 -> 0 <= Int32.toInt (pJ k) /\ Int32.toInt (pJ k) <= 9) (hc0 : -1 <= SB /\ SB <= 7) (hpost : ∀ (r : Int32) (xM : Int32) (xG : Int32) (aBX : Nat -> Int32), (-2 <= Int32.toInt r /\ Int32.toInt r <= 16) -> (0 <= Int32.toInt xM /\ Int32.toInt xM <= 16) -> (0 <= Int32.toInt xG /\ Int32.toInt xG <= 0) -> post r xM xG aBX) : wp_X10_gentle post bT bL bY qG m_x gR qR nG oO pJ sW := by
  have l0 := aI2
  have l1 := li_m2
  have l2 := aE0
  have l3 := aEc
  have l4 := li_17
  have l5 := li_18
  have l6 := li_19
  have q35 := xU (17 : Int32).toNatClampNeg (by have e9 : (17 : Int32).toNatClampNeg = (Int32.toInt (17 : Int32)).toNat := rfl; omega)
  intro v36 ev36
  have hv36 := congrArg Int32.toInt ev36
  refine And.intro (fun c38 => ?_) (fun c38 => ?_)
  · skip
    have c38 := mt (zJ _ _).mpr c38
    refine aKO (by omega) xJ xU xV (by omega) (fun r39 h_r39 ox40 => ?_)
    have q41 := xV (19 : Int32).toNatClampNeg (by have e9 : (19 : Int32).toNatClampNeg = (Int32.toInt (19 : Int32)).toNat := rfl; omega)
    intro v42 ev42
    have hv42 := congrArg Int32.toInt ev42
    refine aXh (by omega) xJ zM (fun r44 h_r44 ox45 => ?_)
    intro v46 ev46
    have f47 := aAQ r39 r44 (by omega)
    have f48 := aBx r39 r44 (by omega)
    have hv46 := congrArg Int32.toInt ev46
    have q49 := xU (17 : Int32).toNatClampNeg (by have e9 : (17 : Int32).toNatClampNeg = (Int32.toInt (17 : Int32)).toNat := rfl; omega)
    intro v50 ev50
    have hv50 := congrArg Int32.toInt ev50
    intro v51 ev51
    have hv51 := congrArg Int32.toInt ev51
    refine aX7 (by omega) (by omega) xJ aAW xK xT yF yD xZ (fun r53 h_r53 => ?_)
    refine aKO (by omega) xJ xU xV (by omega) (fun r54 h_r54 ox55 => ?_)
    have f56 := aAQ v46 r53 (by omega)
    have f57 := aBx v46 r53 (by omega)
    have j58 := pcn_le 16 (v46 &&& r53)
    exact ⟨19, tb_X10_gentle_41 bT qG m_x gR qR nG oO pJ xJ xU xV aAW xK zM xT yF yD xZ hc0 hpost _ (v46 &&& r53) r54 1 0 0 sW (by omega) h_r54 (by omega) (by omega) (by omega) (by omega) (by omega)⟩
  · skip
    have c38 := (zJ _ _).mp c38
    exact hpost _ _ _ _ (by omega) yJ (by omega)
set_option maxHeartbeats 8000000 in
set_option maxRecDepth 200000 in
theorem ts_X10_harm_79 {post : Int32 -> Int32 -> Int32 -> (Nat -> Int32) -> Prop} {SB : Int} {K39 : Int32 -> Int32 -> Int32 -> Int32 -> Int32 -> Int32 -> (Nat -> Int32) -> Prop} {n39 : Int} (bT : Int32) (qG m_x gR pW qR nG oO pJ : Nat -> Int32) (xJ : 0 <= Int32.toInt bT /\ Int32.toInt bT <= 16) (xU : ∀ k : Nat, k = 17 -> -1 <= Int32.toInt (qG k) /\ Int32.toInt (qG k) <= SB) (xV : ∀ k : Nat, k = 19 -> 0 <= Int32.toInt (qG k) /\ Int32.toInt (qG k) <= 9) (aAW : ∀ k : Nat, 0 <= Int32.toInt (m_x k) /\ Int32.toInt (m_x k) <= 99) (xK : ∀ k : Nat, 0 <= Int32.toInt (gR k) /\ Int32.toInt (gR k) <= 99) (yR : ∀ k : Nat, 0 <= Int32.toInt (pW k) /\ Int32.toInt (pW k) <= 9) (zM : ∀ k : Nat, 0 <= Int32.toInt (qR k) /\ Int32.toInt (qR k) <= 9) (xT : ∀ k : Nat, 0 <= Int32.toInt (nG k) /\ Int32.toInt (nG k) <= 99) (yF : ∀ k : Nat, 0 <= Int32.toInt (oO k) /\ Int32.toInt (oO k) <= 99) (yD : ∀ k : Nat, k = 4 -> 1 <= Int32.toInt (pJ k) /\ Int32.toInt (pJ k) <= 30) (xZ : ∀ k : Nat, k = 3 -> 0 <= Int32.toInt (pJ k) /\ Int32.toInt (pJ k) <= 9) (hc0 : -1 <= SB /\ SB <= 7) (hpost : ∀ (r : Int32) (xM : Int32) (xG : Int32) (aBX : Nat -> Int32), (-2 <= Int32.toInt r /\ Int32.toInt r <= 65535) -> (0 <= Int32.toInt xM /\ Int32.toInt xM <= 16) -> (0 <= Int32.toInt xG /\ Int32.toInt xG <= 0) -> post r xM xG aBX) (hK39 : ∀ (x1 : Int32) (x2 : Int32) (x3 : Int32) (x4 : Int32) (bL : Int32) (bY : Int32) (sW : Nat -> Int32), (0 <= Int32.toInt x1 /\ Int32.toInt x1 <= 65535) -> (0 <= Int32.toInt x2 /\ Int32.toInt x2 <= 65535) -> (0 <= Int32.toInt x3 /\ Int32.toInt x3 <= 65535) -> (0 <= Int32.toInt x4 /\ Int32.toInt x4 <= 16) -> (0 <= Int32.toInt bL /\ Int32.toInt bL <= 16) -> (0 <= Int32.toInt bY /\ Int32.toInt bY <= 0) -> (16 - Int32.toInt x4 < n39) -> K39 x1 x2 x3 x4 bL bY sW) (x1 x2 x3 x4 bL bY : Int32) (sW : Nat -> Int32) (aBK : 0 <= Int32.toInt x1 /\ Int32.toInt x1 <= 65535) (aBN : 0 <= Int32.toInt x2 /\ Int32.toInt x2 <= 65535) (aCH : 0 <= Int32.toInt x3 /\ Int32.toInt x3 <= 65535) (aDO : 0 <= Int32.toInt x4 /\ Int32.toInt x4 <= 15) (yJ : 0 <= Int32.toInt bL /\ Int32.toInt bL <= 16) (yG : 0 <= Int32.toInt bY /\ Int32.toInt bY <= 0) (hn39 : 16 - Int32.toInt x4 <= n39) : ws_X10_harm_79 post K39 bT qG m_x gR pW qR nG oO pJ x1 x2 x3 x4 bL bY sW := by
  have l0 := aEc
  intro v1 ev1
  have f2 : Int32.toInt (x4 + 1) = Int32.toInt x4 + Int32.toInt (1 : Int32) := aAD _ _ (by omega)
  rw [<- ev1] at f2
  exact hK39 x1 x2 x3 v1 bL bY sW aBK aBN aCH (by omega) yJ yG (by omega)
set_option maxHeartbeats 8000000 in
set_option maxRecDepth 200000 in
theorem ts_X10_harm_39 {post : Int32 -> Int32 -> Int32 -> (Nat -> Int32) -> Prop} {SB : Int} {next : Int32 -> Int32 -> Int32 -> Int32 -> Int32 -> Int32 -> (Nat -> Int32) -> Prop} {n39 : Int} (bT : Int32) (qG m_x gR pW qR nG oO pJ : Nat -> Int32) (xJ : 0 <= Int32.toInt bT /\ Int32.toInt bT <= 16) (xU : ∀ k : Nat, k = 17 -> -1 <= Int32.toInt (qG k) /\ Int32.toInt (qG k) <= SB) (xV : ∀ k : Nat, k = 19 -> 0 <= Int32.toInt (qG k) /\ Int32.toInt (qG k) <= 9) (aAW : ∀ k : Nat, 0 <= Int32.toInt (m_x k) /\ Int32.toInt (m_x k) <= 99) (xK : ∀ k : Nat, 0 <= Int32.toInt (gR k) /\ Int32.toInt (gR k) <= 99) (yR : ∀ k : Nat, 0 <= Int32.toInt (pW k) /\ Int32.toInt (pW k) <= 9) (zM : ∀ k : Nat, 0 <= Int32.toInt (qR k) /\ Int32.toInt (qR k) <= 9) (xT : ∀ k : Nat, 0 <= Int32.toInt (nG k) /\ Int32.toInt (nG k) <= 99) (yF : ∀ k : Nat, 0 <= Int32.toInt (oO k) /\ Int32.toInt (oO k) <= 99) (yD : ∀ k : Nat, k = 4 -> 1 <= Int32.toInt (pJ k) /\ Int32.toInt (pJ k) <= 30) (xZ : ∀ k : Nat, k = 3 -> 0 <= Int32.toInt (pJ k) /\ Int32.toInt (pJ k) <= 9) (hc0 : -1 <= SB /\ SB <= 7) (hpost : ∀ (r : Int32) (xM : Int32) (xG : Int32) (aBX : Nat -> Int32), (-2 <= Int32.toInt r /\ Int32.toInt r <= 65535) -> (0 <= Int32.toInt xM /\ Int32.toInt xM <= 16) -> (0 <= Int32.toInt xG /\ Int32.toInt xG <= 0) -> post r xM xG aBX) (hKn : ∀ (x1 : Int32) (x2 : Int32) (x3 : Int32) (x4 : Int32) (bL : Int32) (bY : Int32) (sW : Nat -> Int32), (0 <= Int32.toInt x1 /\ Int32.toInt x1 <= 65535) -> (0 <= Int32.toInt x2 /\ Int32.toInt x2 <= 65535) -> (0 <= Int32.toInt x3 /\ Int32.toInt x3 <= 65535) -> (0 <= Int32.toInt x4 /\ Int32.toInt x4 <= 16) -> (0 <= Int32.toInt bL /\ Int32.toInt bL <= 16) -> (0 <= Int32.toInt bY /\ Int32.toInt bY <= 0) -> (16 - Int32.toInt x4 < n39) -> next x1 x2 x3 x4 bL bY sW) (x1 x2 x3 x4 bL bY : Int32) (sW : Nat -> Int32) (aBK : 0 <= Int32.toInt x1 /\ Int32.toInt x1 <= 65535) (aBN : 0 <= Int32.toInt x2 /\ Int32.toInt x2 <= 65535) (aCH : 0 <= Int32.toInt x3 /\ Int32.toInt x3 <= 65535) (aDO : 0 <= Int32.toInt x4 /\ Int32.toInt x4 <= 16) (yJ : 0 <= Int32.toInt bL /\ Int32.toInt bL <= 16) (yG : 0 <= Int32.toInt bY /\ Int32.toInt bY <= 0) (hn39 : 16 - Int32.toInt x4 <= n39) : ws_X10_harm_39 post next bT qG m_x gR pW qR nG oO pJ x1 x2 x3 x4 bL bY sW := by
  have l0 := aE0
  have l1 := aEc
  have l2 := li_16
  refine And.intro (fun c3 => ?_) (fun c3 => ?_)
  · skip
    have c3 := (aAO _ _).mp c3
    intro v4 ev4
    have hv4 := congrArg Int32.toInt ev4
    intro v6 ev6
    have f8 := aBx x3 (v4 ^^^ (-1)) (by omega)
    have hv6 := congrArg Int32.toInt ev6
    refine aNU (by omega) xJ yR (fun r9 => ?_)
    refine aNU (by omega) xJ yR (fun r10 => ?_)
    intro v11 ev11
    have hv11 := congrArg Int32.toInt ev11
    refine And.intro (aBZ (by omega)) ?_
    intro v13 ev13
    have f14 : Int32.toInt (0 + 1) = Int32.toInt (0 : Int32) + Int32.toInt (1 : Int32) := aAD _ _ (by omega)
    rw [<- ev13] at f14
    exact hpost _ _ _ _ (by omega) (by omega) yG
  · skip
    have c3 := mt (aAO _ _).mpr c3
    intro v15 ev15
    have f16 := aRJ x1 x4 (by omega)
    have hv15 := congrArg Int32.toInt ev15
    intro v17 ev17
    have f18 := aAQ v15 1 (by omega)
    have f19 := aBx v15 1 (by omega)
    have hv17 := congrArg Int32.toInt ev17
    refine And.intro (fun c20 => ?_) (fun c20 => ?_)
    · skip
      have c20 := mt (zJ _ _).mpr c20
      refine And.intro (fun h9 => absurd h9 (by decide)) (fun _ => ?_)
      exact ts_X10_harm_79 bT qG m_x gR pW qR nG oO pJ xJ xU xV aAW xK yR zM xT yF yD xZ hc0 hpost hKn x1 x2 x3 x4 bL bY sW aBK aBN aCH (by omega) yJ yG hn39
    · skip
      have c20 := (zJ _ _).mp c20
      refine And.intro (fun _ => ?_) (fun h9 => absurd h9 (by decide))
      refine t_X10_below (by omega) aBN xJ aAW xK (fun r21 h_r21 => ?_)
      intro v22 ev22
      have f23 := ti_or 16 65536 x3 r21 (by decide) (by omega) (by omega)
      have hv22 := congrArg Int32.toInt ev22
      intro v24 ev24
      have f25 := aDv 15 32768 x4 (by decide) (by omega)
      have hv24 := congrArg Int32.toInt ev24
      intro v26 ev26
      have f28 := aBx x2 (v24 ^^^ (-1)) (by omega)
      have hv26 := congrArg Int32.toInt ev26
      exact ts_X10_harm_79 bT qG m_x gR pW qR nG oO pJ xJ xU xV aAW xK yR zM xT yF yD xZ hc0 hpost hKn x1 v26 v22 x4 bL bY sW aBK (by omega) (by omega) (by omega) yJ yG hn39
set_option maxHeartbeats 8000000 in
set_option maxRecDepth 200000 in
theorem tb_X10_harm_39 {post : Int32 -> Int32 -> Int32 -> (Nat -> Int32) -> Prop} {SB : Int} (bT : Int32) (qG m_x gR pW qR nG oO pJ : Nat -> Int32) (xJ : 0 <= Int32.toInt bT /\ Int32.toInt bT <= 16) (xU : ∀ k : Nat, k = 17 -> -1 <= Int32.toInt (qG k) /\ Int32.toInt (qG k) <= SB) (xV : ∀ k : Nat, k = 19 -> 0 <= Int32.toInt (qG k) /\ Int32.toInt (qG k) <= 9) (aAW : ∀ k : Nat, 0 <= Int32.toInt (m_x k) /\ Int32.toInt (m_x k) <= 99) (xK : ∀ k : Nat, 0 <= Int32.toInt (gR k) /\ Int32.toInt (gR k) <= 99) (yR : ∀ k : Nat, 0 <= Int32.toInt (pW k) /\ Int32.toInt (pW k) <= 9) (zM : ∀ k : Nat, 0 <= Int32.toInt (qR k) /\ Int32.toInt (qR k) <= 9) (xT : ∀ k : Nat, 0 <= Int32.toInt (nG k) /\ Int32.toInt (nG k) <= 99) (yF : ∀ k : Nat, 0 <= Int32.toInt (oO k) /\ Int32.toInt (oO k) <= 99) (yD : ∀ k : Nat, k = 4 -> 1 <= Int32.toInt (pJ k) /\ Int32.toInt (pJ k) <= 30) (xZ : ∀ k : Nat, k = 3 -> 0 <= Int32.toInt (pJ k) /\ Int32.toInt (pJ k) <= 9) (hc0 : -1 <= SB /\ SB <= 7) (hpost : ∀ (r : Int32) (xM : Int32) (xG : Int32) (aBX : Nat -> Int32), (-2 <= Int32.toInt r /\ Int32.toInt r <= 65535) -> (0 <= Int32.toInt xM /\ Int32.toInt xM <= 16) -> (0 <= Int32.toInt xG /\ Int32.toInt xG <= 0) -> post r xM xG aBX) : ∀ (n : Nat) (x1 x2 x3 x4 bL bY : Int32) (sW : Nat -> Int32), (0 <= Int32.toInt x1 /\ Int32.toInt x1 <= 65535) -> (0 <= Int32.toInt x2 /\ Int32.toInt x2 <= 65535) -> (0 <= Int32.toInt x3 /\ Int32.toInt x3 <= 65535) -> (0 <= Int32.toInt x4 /\ Int32.toInt x4 <= 16) -> (0 <= Int32.toInt bL /\ Int32.toInt bL <= 16) -> (0 <= Int32.toInt bY /\ Int32.toInt bY <= 0) -> (16 - Int32.toInt x4 < (n : Int)) -> wb_X10_harm_39 post bT qG m_x gR pW qR nG oO pJ n x1 x2 x3 x4 bL bY sW := by
  intro n
  induction n with
  | zero =>
    intro x1 x2 x3 x4 bL bY sW aBK aBN aCH aDO yJ yG hm
    exfalso; omega
  | succ n ih =>
    intro x1 x2 x3 x4 bL bY sW aBK aBN aCH aDO yJ yG hm
    exact ts_X10_harm_39 bT qG m_x gR pW qR nG oO pJ xJ xU xV aAW xK yR zM xT yF yD xZ hc0 hpost ih x1 x2 x3 x4 bL bY sW aBK aBN aCH aDO yJ yG (by omega)
set_option maxHeartbeats 8000000 in
set_option maxRecDepth 200000 in
theorem t_X10_harm {post : Int32 -> Int32 -> Int32 -> (Nat -> Int32) -> Prop} {SB : Int} {bT bL bY : Int32} {qG m_x gR pW qR nG oO pJ sW : Nat -> Int32} (xJ : 0 <= Int32.toInt bT /\ Int32.toInt bT <= 16) (yJ : 0 <= Int32.toInt bL /\ Int32.toInt bL <= 16) (yG : 0 <= Int32.toInt bY /\ Int32.toInt bY <= 1) (xU : ∀ k : Nat, k = 17 -> -1 <= Int32.toInt (qG k) /\ Int32.toInt (qG k) <= SB) (xV : ∀ k : Nat, k = 19 -> 0 <= Int32.toInt (qG k) /\ Int32.toInt (qG k) <= 9) (aAW : ∀ k : Nat, 0 <= Int32.toInt (m_x k) /\ Int32.toInt (m_x k) <= 99) (xK : ∀ k : Nat, 0 <= Int32.toInt (gR k) /\ Int32.toInt (gR k) <= 99) (yR : ∀ k : Nat, 0 <= Int32.toInt (pW k) /\ Int32.toInt (pW k) <= 9) (zM : ∀ k : Nat, 0 <= Int32.toInt (qR k) /\ Int32.toInt (qR k) <= 9) (xT : ∀ k : Nat, 0 <= Int32.toInt (nG k) /\ Int32.toInt (nG k) <= 99) (yF : ∀ k : Nat, 0 <= Int32.toInt (oO k) /\ Int32.toInt (oO k) <= 99) (yD : ∀ k : Nat, k = 4 -> 1 <= Int32.toInt (pJ k) /\ Int32.toInt (pJ k) <= 30) (xZ : ∀ k : Nat, k = 3 -> 0 <= Int32.toInt (pJ k) /\ Int32.toInt (pJ k) <= 9) (hc0 : -1 <= SB /\ SB <= 7) (hpost : ∀ (r : Int32) (xM : Int32) (xG : Int32) (aBX : Nat -> Int32), (-2 <= Int32.toInt r /\ Int32.toInt r <= 65535) -> (0 <= Int32.toInt xM /\ Int32.toInt xM <= 16) -> (0 <= Int32.toInt xG /\ Int32.toInt xG <= 0) -> post r xM xG aBX) : wp_X10_harm post bT bL bY qG m_x gR pW qR nG oO pJ sW := by
  have l0 := aI2
  have l1 := li_m2
  have l2 := aE0
  have l3 := li_17
  have l4 := li_18
  have l5 := li_19
  have q29 := xU (17 : Int32).toNatClampNeg (by have e9 : (17 : Int32).toNatClampNeg = (Int32.toInt (17 : Int32)).toNat := rfl; omega)
  intro v30 ev30
  have hv30 := congrArg Int32.toInt ev30
  refine And.intro (fun c32 => ?_) (fun c32 => ?_)
  · skip
    have c32 := mt (zJ _ _).mpr c32
    refine aKO (by omega) xJ xU xV (by omega) (fun r33 h_r33 ox34 => ?_)
    have q35 := xV (19 : Int32).toNatClampNeg (by have e9 : (19 : Int32).toNatClampNeg = (Int32.toInt (19 : Int32)).toNat := rfl; omega)
    intro v36 ev36
    have hv36 := congrArg Int32.toInt ev36
    refine aXh (by omega) xJ zM (fun r38 h_r38 ox39 => ?_)
    intro v40 ev40
    have f41 := aAQ r33 r38 (by omega)
    have f42 := aBx r33 r38 (by omega)
    have hv40 := congrArg Int32.toInt ev40
    have q43 := xU (17 : Int32).toNatClampNeg (by have e9 : (17 : Int32).toNatClampNeg = (Int32.toInt (17 : Int32)).toNat := rfl; omega)
    intro v44 ev44
    have hv44 := congrArg Int32.toInt ev44
    intro v45 ev45
    have hv45 := congrArg Int32.toInt ev45
    refine aX7 (by omega) (by omega) xJ aAW xK xT yF yD xZ (fun r47 h_r47 => ?_)
    refine aKO (by omega) xJ xU xV (by omega) (fun r48 h_r48 ox49 => ?_)
    have f50 := aAQ v40 r47 (by omega)
    have f51 := aBx v40 r47 (by omega)
    exact ⟨18, tb_X10_harm_39 bT qG m_x gR pW qR nG oO pJ xJ xU xV aAW xK yR zM xT yF yD xZ hc0 hpost _ (v40 &&& r47) r48 0 0 bL 0 sW (by omega) h_r48 (by omega) (by omega) yJ (by omega) (by omega)⟩
  · skip
    have c32 := (zJ _ _).mp c32
    exact hpost _ _ _ _ (by omega) yJ (by omega)
set_option maxHeartbeats 8000000 in
set_option maxRecDepth 200000 in
theorem ts_X10_loadOf_31 {post : Int32 -> Prop} {K4 : Int32 -> Int32 -> Int32 -> Prop} {n4 : Int} (aG : Int32) (vK : Nat -> Int32) (vZ : 0 <= Int32.toInt aG /\ Int32.toInt aG <= 8) (hpost : ∀ (r : Int32) , post r) (hK4 : ∀ (x1 : Int32) (x2 : Int32) (x3 : Int32), (0 <= Int32.toInt x1 /\ Int32.toInt x1 <= 255) -> (0 <= Int32.toInt x3 /\ Int32.toInt x3 <= 8) -> (8 - Int32.toInt x3 < n4) -> K4 x1 x2 x3) (x1 x3 k0 k1 : Int32) (aBK : 0 <= Int32.toInt x1 /\ Int32.toInt x1 <= 255) (aCH : 0 <= Int32.toInt x3 /\ Int32.toInt x3 <= 7) (hn4 : 8 - Int32.toInt x3 <= n4) : ws_X10_loadOf_31 post K4 aG vK x1 x3 k0 k1 := by
  have l0 := aEc
  intro v1 ev1
  have hv1 := congrArg Int32.toInt ev1
  intro v3 ev3
  have f4 : Int32.toInt (x3 + 1) = Int32.toInt x3 + Int32.toInt (1 : Int32) := aAD _ _ (by omega)
  rw [<- ev3] at f4
  have f5 := aAT v1
  exact hK4 x1 v1 v3 aBK (by omega) (by omega)
set_option maxHeartbeats 8000000 in
set_option maxRecDepth 200000 in
theorem ts_X10_loadOf_4 {post : Int32 -> Prop} {next : Int32 -> Int32 -> Int32 -> Prop} {n4 : Int} (aG : Int32) (vK : Nat -> Int32) (vZ : 0 <= Int32.toInt aG /\ Int32.toInt aG <= 8) (hpost : ∀ (r : Int32) , post r) (hKn : ∀ (x1 : Int32) (x2 : Int32) (x3 : Int32), (0 <= Int32.toInt x1 /\ Int32.toInt x1 <= 255) -> (0 <= Int32.toInt x3 /\ Int32.toInt x3 <= 8) -> (8 - Int32.toInt x3 < n4) -> next x1 x2 x3) (x1 x2 x3 : Int32) (aBK : 0 <= Int32.toInt x1 /\ Int32.toInt x1 <= 255) (aCH : 0 <= Int32.toInt x3 /\ Int32.toInt x3 <= 8) (hn4 : 8 - Int32.toInt x3 <= n4) : ws_X10_loadOf_4 post next aG vK x1 x2 x3 := by
  have l0 := aE0
  have l1 := aEc
  refine And.intro (fun c6 => ?_) (fun c6 => ?_)
  · skip
    have c6 := (aAO _ _).mp c6
    exact hpost _ 
  · skip
    have c6 := mt (aAO _ _).mpr c6
    intro v7 ev7
    have f8 := aRJ x1 x3 (by omega)
    have hv7 := congrArg Int32.toInt ev7
    intro v9 ev9
    have f10 := aAQ v7 1 (by omega)
    have f11 := aBx v7 1 (by omega)
    have hv9 := congrArg Int32.toInt ev9
    refine And.intro (fun c12 => ?_) (fun c12 => ?_)
    · skip
      have c12 := mt (zJ _ _).mpr c12
      refine And.intro (fun _ => ?_) (fun h9 => absurd h9 (by decide))
      have f13 := aAT x2
      exact ts_X10_loadOf_31 aG vK vZ hpost hKn x1 x3 x2 0 aBK (by omega) hn4
    · skip
      have c12 := (zJ _ _).mp c12
      refine And.intro (fun h9 => absurd h9 (by decide)) (fun _ => ?_)
      refine And.intro (aBZ (by omega)) ?_
      intro v14 ev14
      have hv14 := congrArg Int32.toInt ev14
      have f16 := aAT x2
      have f17 := aAT v14
      exact ts_X10_loadOf_31 aG vK vZ hpost hKn x1 x3 x2 v14 aBK (by omega) hn4
set_option maxHeartbeats 8000000 in
set_option maxRecDepth 200000 in
theorem tb_X10_loadOf_4 {post : Int32 -> Prop} (aG : Int32) (vK : Nat -> Int32) (vZ : 0 <= Int32.toInt aG /\ Int32.toInt aG <= 8) (hpost : ∀ (r : Int32) , post r) : ∀ (n : Nat) (x1 x2 x3 : Int32), (0 <= Int32.toInt x1 /\ Int32.toInt x1 <= 255) -> (0 <= Int32.toInt x3 /\ Int32.toInt x3 <= 8) -> (8 - Int32.toInt x3 < (n : Int)) -> wb_X10_loadOf_4 post aG vK n x1 x2 x3 := by
  intro n
  induction n with
  | zero =>
    intro x1 x2 x3 aBK aCH hm
    exfalso; omega
  | succ n ih =>
    intro x1 x2 x3 aBK aCH hm
    exact ts_X10_loadOf_4 aG vK vZ hpost ih x1 x2 x3 aBK aCH (by omega)
set_option maxHeartbeats 8000000 in
set_option maxRecDepth 200000 in
theorem t_X10_loadOf {post : Int32 -> Prop} {p0 aG : Int32} {vK : Nat -> Int32} (h_p0 : 0 <= Int32.toInt p0 /\ Int32.toInt p0 <= 255) (vZ : 0 <= Int32.toInt aG /\ Int32.toInt aG <= 8) (hpost : ∀ (r : Int32) , post r) : wp_X10_loadOf post p0 aG vK := by
  have l0 := aE0
  exact ⟨10, tb_X10_loadOf_4 aG vK vZ hpost _ p0 0 0 h_p0 (by omega) (by omega)⟩
set_option maxHeartbeats 8000000 in
set_option maxRecDepth 200000 in
theorem ts_X10_share_130 {post : Int32 -> Int32 -> Int32 -> Nat -> Int32 -> Int32 -> Int32 -> Int32 -> Int32 -> Int32 -> Int32 -> Int32 -> Int32 -> Int32 -> (Nat -> Int32) -> (Nat -> Int32) -> (Nat -> Int32) -> Prop} {SB : Int} {K46 : Int32 -> Int32 -> Int32 -> Int32 -> Nat -> Int32 -> Int32 -> Int32 -> Int32 -> Int32 -> Int32 -> Int32 -> Int32 -> Int32 -> Int32 -> (Nat -> Int32) -> (Nat -> Int32) -> (Nat -> Int32) -> Prop} {n46 : Int} (bT aG bW : Int32) (qG m_x gR pW qR nG oO pJ qO qQ : Nat -> Int32) (xJ : 0 <= Int32.toInt bT /\ Int32.toInt bT <= 16) (vZ : 0 <= Int32.toInt aG /\ Int32.toInt aG <= 8) (zQ : 0 <= Int32.toInt bW /\ Int32.toInt bW <= 40) (xU : ∀ k : Nat, k = 17 -> -1 <= Int32.toInt (qG k) /\ Int32.toInt (qG k) <= SB) (xV : ∀ k : Nat, k = 19 -> 0 <= Int32.toInt (qG k) /\ Int32.toInt (qG k) <= 9) (aAW : ∀ k : Nat, 0 <= Int32.toInt (m_x k) /\ Int32.toInt (m_x k) <= 99) (xK : ∀ k : Nat, 0 <= Int32.toInt (gR k) /\ Int32.toInt (gR k) <= 99) (yR : ∀ k : Nat, 0 <= Int32.toInt (pW k) /\ Int32.toInt (pW k) <= 9) (zM : ∀ k : Nat, 0 <= Int32.toInt (qR k) /\ Int32.toInt (qR k) <= 9) (xT : ∀ k : Nat, 0 <= Int32.toInt (nG k) /\ Int32.toInt (nG k) <= 99) (yF : ∀ k : Nat, 0 <= Int32.toInt (oO k) /\ Int32.toInt (oO k) <= 99) (yD : ∀ k : Nat, k = 4 -> 1 <= Int32.toInt (pJ k) /\ Int32.toInt (pJ k) <= 30) (xZ : ∀ k : Nat, k = 3 -> 0 <= Int32.toInt (pJ k) /\ Int32.toInt (pJ k) <= 9) (zG : ∀ k : Nat, -128 <= Int32.toInt (qO k) /\ Int32.toInt (qO k) <= 127) (zI : ∀ k : Nat, -128 <= Int32.toInt (qQ k) /\ Int32.toInt (qQ k) <= 127) (hc0 : -1 <= SB /\ SB <= 7) (hc1 : (Int32.toInt aG <= 0 /\ SB = 0) \/ (1 <= Int32.toInt aG /\ SB = Int32.toInt aG - 1)) (hpost : ∀ (r : Int32) (xM : Int32) (xG : Int32) (aAP : Nat) (zS : Int32) (aAz : Int32) (aAm : Int32) (zH : Int32) (aAM : Int32) (zP : Int32) (yO : Int32) (zZ : Int32) (zO : Int32) (aAS : Int32) (aBX : Nat -> Int32) (aA5 : Nat -> Int32) (aGb : Nat -> Int32), (-2147483648 <= Int32.toInt r /\ Int32.toInt r <= 1000000) -> (0 <= Int32.toInt xM /\ Int32.toInt xM <= 16) -> (0 <= Int32.toInt xG /\ Int32.toInt xG <= 0) -> (aAP = 0 \/ aAP = 1 \/ aAP = 2) -> (0 <= Int32.toInt zS /\ Int32.toInt zS <= 80) -> (0 <= Int32.toInt aAz /\ Int32.toInt aAz <= 80) -> (0 <= Int32.toInt aAm /\ Int32.toInt aAm <= 80) -> (-1 <= Int32.toInt zH /\ Int32.toInt zH <= 80) -> (0 <= Int32.toInt aAM /\ Int32.toInt aAM <= 0) -> (0 <= Int32.toInt zP /\ Int32.toInt zP <= 15) -> (0 <= Int32.toInt yO /\ Int32.toInt yO <= 7) -> (0 <= Int32.toInt zZ /\ Int32.toInt zZ <= 1) -> (0 <= Int32.toInt zO /\ Int32.toInt zO <= 63) -> (0 <= Int32.toInt aAS /\ Int32.toInt aAS <= 65535) -> (∀ k : Nat, 0 <= Int32.toInt (aA5 k) /\ Int32.toInt (aA5 k) <= 65535) -> post r xM xG aAP zS aAz aAm zH aAM zP yO zZ zO aAS aBX aA5 aGb) (hK46 : ∀ (x1 : Int32) (x2 : Int32) (bL : Int32) (bY : Int32) (jD : Nat) (mLn : Int32) (oF : Int32) (rP : Int32) (dQ : Int32) (bZ : Int32) (aR : Int32) (aE : Int32) (bI : Int32) (aW : Int32) (dO : Int32) (sW : Nat -> Int32) (sH : Nat -> Int32) (vK : Nat -> Int32), (0 <= Int32.toInt x1 /\ Int32.toInt x1 <= 255) -> (0 <= Int32.toInt x2 /\ Int32.toInt x2 <= 16) -> (0 <= Int32.toInt bL /\ Int32.toInt bL <= 16) -> (0 <= Int32.toInt bY /\ Int32.toInt bY <= 0) -> (jD = 0 \/ jD = 1 \/ jD = 2) -> (0 <= Int32.toInt mLn /\ Int32.toInt mLn <= 80) -> (0 <= Int32.toInt oF /\ Int32.toInt oF <= 80) -> (0 <= Int32.toInt rP /\ Int32.toInt rP <= 80) -> (-1 <= Int32.toInt dQ /\ Int32.toInt dQ <= 80) -> (0 <= Int32.toInt bZ /\ Int32.toInt bZ <= 0) -> (0 <= Int32.toInt aR /\ Int32.toInt aR <= 15) -> (0 <= Int32.toInt aE /\ Int32.toInt aE <= 7) -> (0 <= Int32.toInt bI /\ Int32.toInt bI <= 1) -> (0 <= Int32.toInt aW /\ Int32.toInt aW <= 63) -> (0 <= Int32.toInt dO /\ Int32.toInt dO <= 65535) -> (∀ k : Nat, 0 <= Int32.toInt (sH k) /\ Int32.toInt (sH k) <= 65535) -> (16 - Int32.toInt x2 < n46) -> K46 x1 x2 bL bY jD mLn oF rP dQ bZ aR aE bI aW dO sW sH vK) (x1 x2 bL bY : Int32) (jD : Nat) (mLn oF rP dQ bZ aR aE bI aW dO : Int32) (sW sH vK : Nat -> Int32) (aBK : 0 <= Int32.toInt x1 /\ Int32.toInt x1 <= 255) (aBN : 0 <= Int32.toInt x2 /\ Int32.toInt x2 <= 15) (yJ : 0 <= Int32.toInt bL /\ Int32.toInt bL <= 16) (yG : 0 <= Int32.toInt bY /\ Int32.toInt bY <= 0) (yM : jD = 0 \/ jD = 1 \/ jD = 2) (zE : 0 <= Int32.toInt mLn /\ Int32.toInt mLn <= 80) (aAR : 0 <= Int32.toInt oF /\ Int32.toInt oF <= 80) (aA1 : 0 <= Int32.toInt rP /\ Int32.toInt rP <= 80) (aAA : -1 <= Int32.toInt dQ /\ Int32.toInt dQ <= 80) (zT : 0 <= Int32.toInt bZ /\ Int32.toInt bZ <= 0) (yL : 0 <= Int32.toInt aR /\ Int32.toInt aR <= 15) (xQ : 0 <= Int32.toInt aE /\ Int32.toInt aE <= 7) (yY : 0 <= Int32.toInt bI /\ Int32.toInt bI <= 1) (yK : 0 <= Int32.toInt aW /\ Int32.toInt aW <= 63) (aAH : 0 <= Int32.toInt dO /\ Int32.toInt dO <= 65535) (zY : ∀ k : Nat, 0 <= Int32.toInt (sH k) /\ Int32.toInt (sH k) <= 65535) (hn46 : 16 - Int32.toInt x2 <= n46) : ws_X10_share_130 post K46 bT aG bW qG m_x gR pW qR nG oO pJ qO qQ x1 x2 bL bY jD mLn oF rP dQ bZ aR aE bI aW dO sW sH vK := by
  have l0 := aEc
  intro v1 ev1
  have f2 : Int32.toInt (x2 + 1) = Int32.toInt x2 + Int32.toInt (1 : Int32) := aAD _ _ (by omega)
  rw [<- ev1] at f2
  exact hK46 x1 v1 bL bY jD mLn oF rP dQ bZ aR aE bI aW dO sW sH vK aBK (by omega) yJ yG yM zE aAR aA1 aAA zT yL xQ yY yK aAH zY (by omega)
set_option maxHeartbeats 8000000 in
set_option maxRecDepth 200000 in
theorem ts_X10_share_215 {post : Int32 -> Int32 -> Int32 -> Nat -> Int32 -> Int32 -> Int32 -> Int32 -> Int32 -> Int32 -> Int32 -> Int32 -> Int32 -> Int32 -> (Nat -> Int32) -> (Nat -> Int32) -> (Nat -> Int32) -> Prop} {SB : Int} {K148 : Int32 -> Int32 -> Int32 -> Int32 -> Int32 -> Int32 -> Int32 -> Nat -> Int32 -> Int32 -> Int32 -> Int32 -> Int32 -> Int32 -> Int32 -> Int32 -> Int32 -> Int32 -> (Nat -> Int32) -> (Nat -> Int32) -> (Nat -> Int32) -> Prop} {n148 : Int} (bT aG bW : Int32) (qG m_x gR pW qR nG oO pJ qO qQ : Nat -> Int32) (xJ : 0 <= Int32.toInt bT /\ Int32.toInt bT <= 16) (vZ : 0 <= Int32.toInt aG /\ Int32.toInt aG <= 8) (zQ : 0 <= Int32.toInt bW /\ Int32.toInt bW <= 40) (xU : ∀ k : Nat, k = 17 -> -1 <= Int32.toInt (qG k) /\ Int32.toInt (qG k) <= SB) (xV : ∀ k : Nat, k = 19 -> 0 <= Int32.toInt (qG k) /\ Int32.toInt (qG k) <= 9) (aAW : ∀ k : Nat, 0 <= Int32.toInt (m_x k) /\ Int32.toInt (m_x k) <= 99) (xK : ∀ k : Nat, 0 <= Int32.toInt (gR k) /\ Int32.toInt (gR k) <= 99) (yR : ∀ k : Nat, 0 <= Int32.toInt (pW k) /\ Int32.toInt (pW k) <= 9) (zM : ∀ k : Nat, 0 <= Int32.toInt (qR k) /\ Int32.toInt (qR k) <= 9) (xT : ∀ k : Nat, 0 <= Int32.toInt (nG k) /\ Int32.toInt (nG k) <= 99) (yF : ∀ k : Nat, 0 <= Int32.toInt (oO k) /\ Int32.toInt (oO k) <= 99) (yD : ∀ k : Nat, k = 4 -> 1 <= Int32.toInt (pJ k) /\ Int32.toInt (pJ k) <= 30) (xZ : ∀ k : Nat, k = 3 -> 0 <= Int32.toInt (pJ k) /\ Int32.toInt (pJ k) <= 9) (zG : ∀ k : Nat, -128 <= Int32.toInt (qO k) /\ Int32.toInt (qO k) <= 127) (zI : ∀ k : Nat, -128 <= Int32.toInt (qQ k) /\ Int32.toInt (qQ k) <= 127) (hc0 : -1 <= SB /\ SB <= 7) (hc1 : (Int32.toInt aG <= 0 /\ SB = 0) \/ (1 <= Int32.toInt aG /\ SB = Int32.toInt aG - 1)) (hpost : ∀ (r : Int32) (xM : Int32) (xG : Int32) (aAP : Nat) (zS : Int32) (aAz : Int32) (aAm : Int32) (zH : Int32) (aAM : Int32) (zP : Int32) (yO : Int32) (zZ : Int32) (zO : Int32) (aAS : Int32) (aBX : Nat -> Int32) (aA5 : Nat -> Int32) (aGb : Nat -> Int32), (-2147483648 <= Int32.toInt r /\ Int32.toInt r <= 1000000) -> (0 <= Int32.toInt xM /\ Int32.toInt xM <= 16) -> (0 <= Int32.toInt xG /\ Int32.toInt xG <= 0) -> (aAP = 0 \/ aAP = 1 \/ aAP = 2) -> (0 <= Int32.toInt zS /\ Int32.toInt zS <= 80) -> (0 <= Int32.toInt aAz /\ Int32.toInt aAz <= 80) -> (0 <= Int32.toInt aAm /\ Int32.toInt aAm <= 80) -> (-1 <= Int32.toInt zH /\ Int32.toInt zH <= 80) -> (0 <= Int32.toInt aAM /\ Int32.toInt aAM <= 0) -> (0 <= Int32.toInt zP /\ Int32.toInt zP <= 15) -> (0 <= Int32.toInt yO /\ Int32.toInt yO <= 7) -> (0 <= Int32.toInt zZ /\ Int32.toInt zZ <= 1) -> (0 <= Int32.toInt zO /\ Int32.toInt zO <= 63) -> (0 <= Int32.toInt aAS /\ Int32.toInt aAS <= 65535) -> (∀ k : Nat, 0 <= Int32.toInt (aA5 k) /\ Int32.toInt (aA5 k) <= 65535) -> post r xM xG aAP zS aAz aAm zH aAM zP yO zZ zO aAS aBX aA5 aGb) (hK148 : ∀ (x1 : Int32) (x2 : Int32) (x3 : Int32) (x4 : Int32) (x5 : Int32) (bL : Int32) (bY : Int32) (jD : Nat) (mLn : Int32) (oF : Int32) (rP : Int32) (dQ : Int32) (bZ : Int32) (aR : Int32) (aE : Int32) (bI : Int32) (aW : Int32) (dO : Int32) (sW : Nat -> Int32) (sH : Nat -> Int32) (vK : Nat -> Int32), (0 <= Int32.toInt x1 /\ Int32.toInt x1 <= 255) -> (0 <= Int32.toInt x2 /\ Int32.toInt x2 <= 255) -> (-2147483648 <= Int32.toInt x3 /\ Int32.toInt x3 <= 1000000) -> (0 <= Int32.toInt x5 /\ Int32.toInt x5 <= 256) -> (0 <= Int32.toInt bL /\ Int32.toInt bL <= 16) -> (0 <= Int32.toInt bY /\ Int32.toInt bY <= 0) -> (jD = 0 \/ jD = 1 \/ jD = 2) -> (0 <= Int32.toInt mLn /\ Int32.toInt mLn <= 80) -> (0 <= Int32.toInt oF /\ Int32.toInt oF <= 80) -> (0 <= Int32.toInt rP /\ Int32.toInt rP <= 80) -> (-1 <= Int32.toInt dQ /\ Int32.toInt dQ <= 80) -> (0 <= Int32.toInt bZ /\ Int32.toInt bZ <= 0) -> (0 <= Int32.toInt aR /\ Int32.toInt aR <= 15) -> (0 <= Int32.toInt aE /\ Int32.toInt aE <= 7) -> (0 <= Int32.toInt bI /\ Int32.toInt bI <= 1) -> (0 <= Int32.toInt aW /\ Int32.toInt aW <= 63) -> (0 <= Int32.toInt dO /\ Int32.toInt dO <= 65535) -> (∀ k : Nat, 0 <= Int32.toInt (sH k) /\ Int32.toInt (sH k) <= 65535) -> (256 - Int32.toInt x5 < n148) -> K148 x1 x2 x3 x4 x5 bL bY jD mLn oF rP dQ bZ aR aE bI aW dO sW sH vK) (x1 x2 x3 x4 x5 bL bY : Int32) (jD : Nat) (mLn oF rP dQ bZ aR aE bI aW dO : Int32) (sW sH vK : Nat -> Int32) (aBK : 0 <= Int32.toInt x1 /\ Int32.toInt x1 <= 255) (aBN : 0 <= Int32.toInt x2 /\ Int32.toInt x2 <= 255) (aCH : -2147483648 <= Int32.toInt x3 /\ Int32.toInt x3 <= 1000000) (aF7 : 0 <= Int32.toInt x5 /\ Int32.toInt x5 <= 255) (yJ : 0 <= Int32.toInt bL /\ Int32.toInt bL <= 16) (yG : 0 <= Int32.toInt bY /\ Int32.toInt bY <= 0) (yM : jD = 0 \/ jD = 1 \/ jD = 2) (zE : 0 <= Int32.toInt mLn /\ Int32.toInt mLn <= 80) (aAR : 0 <= Int32.toInt oF /\ Int32.toInt oF <= 80) (aA1 : 0 <= Int32.toInt rP /\ Int32.toInt rP <= 80) (aAA : -1 <= Int32.toInt dQ /\ Int32.toInt dQ <= 80) (zT : 0 <= Int32.toInt bZ /\ Int32.toInt bZ <= 0) (yL : 0 <= Int32.toInt aR /\ Int32.toInt aR <= 15) (xQ : 0 <= Int32.toInt aE /\ Int32.toInt aE <= 7) (yY : 0 <= Int32.toInt bI /\ Int32.toInt bI <= 1) (yK : 0 <= Int32.toInt aW /\ Int32.toInt aW <= 63) (aAH : 0 <= Int32.toInt dO /\ Int32.toInt dO <= 65535) (zY : ∀ k : Nat, 0 <= Int32.toInt (sH k) /\ Int32.toInt (sH k) <= 65535) (hn148 : 256 - Int32.toInt x5 <= n148) : ws_X10_share_215 post K148 bT aG bW qG m_x gR pW qR nG oO pJ qO qQ x1 x2 x3 x4 x5 bL bY jD mLn oF rP dQ bZ aR aE bI aW dO sW sH vK := by
  have l0 := aEc
  intro v3 ev3
  have f4 : Int32.toInt (x5 + 1) = Int32.toInt x5 + Int32.toInt (1 : Int32) := aAD _ _ (by omega)
  rw [<- ev3] at f4
  have f5 := aAT x3
  have f6 := aAT x4
  exact hK148 x1 x2 x3 x4 v3 bL bY jD mLn oF rP dQ bZ aR aE bI aW dO sW sH vK aBK aBN aCH (by omega) yJ yG yM zE aAR aA1 aAA zT yL xQ yY yK aAH zY (by omega)
set_option maxHeartbeats 8000000 in
set_option maxRecDepth 200000 in
theorem ts_X10_share_148 {post : Int32 -> Int32 -> Int32 -> Nat -> Int32 -> Int32 -> Int32 -> Int32 -> Int32 -> Int32 -> Int32 -> Int32 -> Int32 -> Int32 -> (Nat -> Int32) -> (Nat -> Int32) -> (Nat -> Int32) -> Prop} {SB : Int} {next : Int32 -> Int32 -> Int32 -> Int32 -> Int32 -> Int32 -> Int32 -> Nat -> Int32 -> Int32 -> Int32 -> Int32 -> Int32 -> Int32 -> Int32 -> Int32 -> Int32 -> Int32 -> (Nat -> Int32) -> (Nat -> Int32) -> (Nat -> Int32) -> Prop} {n148 : Int} (bT aG bW : Int32) (qG m_x gR pW qR nG oO pJ qO qQ : Nat -> Int32) (xJ : 0 <= Int32.toInt bT /\ Int32.toInt bT <= 16) (vZ : 0 <= Int32.toInt aG /\ Int32.toInt aG <= 8) (zQ : 0 <= Int32.toInt bW /\ Int32.toInt bW <= 40) (xU : ∀ k : Nat, k = 17 -> -1 <= Int32.toInt (qG k) /\ Int32.toInt (qG k) <= SB) (xV : ∀ k : Nat, k = 19 -> 0 <= Int32.toInt (qG k) /\ Int32.toInt (qG k) <= 9) (aAW : ∀ k : Nat, 0 <= Int32.toInt (m_x k) /\ Int32.toInt (m_x k) <= 99) (xK : ∀ k : Nat, 0 <= Int32.toInt (gR k) /\ Int32.toInt (gR k) <= 99) (yR : ∀ k : Nat, 0 <= Int32.toInt (pW k) /\ Int32.toInt (pW k) <= 9) (zM : ∀ k : Nat, 0 <= Int32.toInt (qR k) /\ Int32.toInt (qR k) <= 9) (xT : ∀ k : Nat, 0 <= Int32.toInt (nG k) /\ Int32.toInt (nG k) <= 99) (yF : ∀ k : Nat, 0 <= Int32.toInt (oO k) /\ Int32.toInt (oO k) <= 99) (yD : ∀ k : Nat, k = 4 -> 1 <= Int32.toInt (pJ k) /\ Int32.toInt (pJ k) <= 30) (xZ : ∀ k : Nat, k = 3 -> 0 <= Int32.toInt (pJ k) /\ Int32.toInt (pJ k) <= 9) (zG : ∀ k : Nat, -128 <= Int32.toInt (qO k) /\ Int32.toInt (qO k) <= 127) (zI : ∀ k : Nat, -128 <= Int32.toInt (qQ k) /\ Int32.toInt (qQ k) <= 127) (hc0 : -1 <= SB /\ SB <= 7) (hc1 : (Int32.toInt aG <= 0 /\ SB = 0) \/ (1 <= Int32.toInt aG /\ SB = Int32.toInt aG - 1)) (hpost : ∀ (r : Int32) (xM : Int32) (xG : Int32) (aAP : Nat) (zS : Int32) (aAz : Int32) (aAm : Int32) (zH : Int32) (aAM : Int32) (zP : Int32) (yO : Int32) (zZ : Int32) (zO : Int32) (aAS : Int32) (aBX : Nat -> Int32) (aA5 : Nat -> Int32) (aGb : Nat -> Int32), (-2147483648 <= Int32.toInt r /\ Int32.toInt r <= 1000000) -> (0 <= Int32.toInt xM /\ Int32.toInt xM <= 16) -> (0 <= Int32.toInt xG /\ Int32.toInt xG <= 0) -> (aAP = 0 \/ aAP = 1 \/ aAP = 2) -> (0 <= Int32.toInt zS /\ Int32.toInt zS <= 80) -> (0 <= Int32.toInt aAz /\ Int32.toInt aAz <= 80) -> (0 <= Int32.toInt aAm /\ Int32.toInt aAm <= 80) -> (-1 <= Int32.toInt zH /\ Int32.toInt zH <= 80) -> (0 <= Int32.toInt aAM /\ Int32.toInt aAM <= 0) -> (0 <= Int32.toInt zP /\ Int32.toInt zP <= 15) -> (0 <= Int32.toInt yO /\ Int32.toInt yO <= 7) -> (0 <= Int32.toInt zZ /\ Int32.toInt zZ <= 1) -> (0 <= Int32.toInt zO /\ Int32.toInt zO <= 63) -> (0 <= Int32.toInt aAS /\ Int32.toInt aAS <= 65535) -> (∀ k : Nat, 0 <= Int32.toInt (aA5 k) /\ Int32.toInt (aA5 k) <= 65535) -> post r xM xG aAP zS aAz aAm zH aAM zP yO zZ zO aAS aBX aA5 aGb) (hKn : ∀ (x1 : Int32) (x2 : Int32) (x3 : Int32) (x4 : Int32) (x5 : Int32) (bL : Int32) (bY : Int32) (jD : Nat) (mLn : Int32) (oF : Int32) (rP : Int32) (dQ : Int32) (bZ : Int32) (aR : Int32) (aE : Int32) (bI : Int32) (aW : Int32) (dO : Int32) (sW : Nat -> Int32) (sH : Nat -> Int32) (vK : Nat -> Int32), (0 <= Int32.toInt x1 /\ Int32.toInt x1 <= 255) -> (0 <= Int32.toInt x2 /\ Int32.toInt x2 <= 255) -> (-2147483648 <= Int32.toInt x3 /\ Int32.toInt x3 <= 1000000) -> (0 <= Int32.toInt x5 /\ Int32.toInt x5 <= 256) -> (0 <= Int32.toInt bL /\ Int32.toInt bL <= 16) -> (0 <= Int32.toInt bY /\ Int32.toInt bY <= 0) -> (jD = 0 \/ jD = 1 \/ jD = 2) -> (0 <= Int32.toInt mLn /\ Int32.toInt mLn <= 80) -> (0 <= Int32.toInt oF /\ Int32.toInt oF <= 80) -> (0 <= Int32.toInt rP /\ Int32.toInt rP <= 80) -> (-1 <= Int32.toInt dQ /\ Int32.toInt dQ <= 80) -> (0 <= Int32.toInt bZ /\ Int32.toInt bZ <= 0) -> (0 <= Int32.toInt aR /\ Int32.toInt aR <= 15) -> (0 <= Int32.toInt aE /\ Int32.toInt aE <= 7) -> (0 <= Int32.toInt bI /\ Int32.toInt bI <= 1) -> (0 <= Int32.toInt aW /\ Int32.toInt aW <= 63) -> (0 <= Int32.toInt dO /\ Int32.toInt dO <= 65535) -> (∀ k : Nat, 0 <= Int32.toInt (sH k) /\ Int32.toInt (sH k) <= 65535) -> (256 - Int32.toInt x5 < n148) -> next x1 x2 x3 x4 x5 bL bY jD mLn oF rP dQ bZ aR aE bI aW dO sW sH vK) (x1 x2 x3 x4 x5 bL bY : Int32) (jD : Nat) (mLn oF rP dQ bZ aR aE bI aW dO : Int32) (sW sH vK : Nat -> Int32) (aBK : 0 <= Int32.toInt x1 /\ Int32.toInt x1 <= 255) (aBN : 0 <= Int32.toInt x2 /\ Int32.toInt x2 <= 255) (aCH : -2147483648 <= Int32.toInt x3 /\ Int32.toInt x3 <= 1000000) (aF7 : 0 <= Int32.toInt x5 /\ Int32.toInt x5 <= 256) (yJ : 0 <= Int32.toInt bL /\ Int32.toInt bL <= 16) (yG : 0 <= Int32.toInt bY /\ Int32.toInt bY <= 0) (yM : jD = 0 \/ jD = 1 \/ jD = 2) (zE : 0 <= Int32.toInt mLn /\ Int32.toInt mLn <= 80) (aAR : 0 <= Int32.toInt oF /\ Int32.toInt oF <= 80) (aA1 : 0 <= Int32.toInt rP /\ Int32.toInt rP <= 80) (aAA : -1 <= Int32.toInt dQ /\ Int32.toInt dQ <= 80) (zT : 0 <= Int32.toInt bZ /\ Int32.toInt bZ <= 0) (yL : 0 <= Int32.toInt aR /\ Int32.toInt aR <= 15) (xQ : 0 <= Int32.toInt aE /\ Int32.toInt aE <= 7) (yY : 0 <= Int32.toInt bI /\ Int32.toInt bI <= 1) (yK : 0 <= Int32.toInt aW /\ Int32.toInt aW <= 63) (aAH : 0 <= Int32.toInt dO /\ Int32.toInt dO <= 65535) (zY : ∀ k : Nat, 0 <= Int32.toInt (sH k) /\ Int32.toInt (sH k) <= 65535) (hn148 : 256 - Int32.toInt x5 <= n148) : ws_X10_share_148 post next bT aG bW qG m_x gR pW qR nG oO pJ qO qQ x1 x2 x3 x4 x5 bL bY jD mLn oF rP dQ bZ aR aE bI aW dO sW sH vK := by
  have l0 := aE0
  have l1 := aEc
  refine And.intro (fun c7 => ?_) (fun c7 => ?_)
  · skip
    have c7 := (aAd _ _).mp c7
    refine And.intro (aBZ (by omega)) ?_
    intro v8 ev8
    have f9 : Int32.toInt (0 + 1) = Int32.toInt (0 : Int32) + Int32.toInt (1 : Int32) := aAD _ _ (by omega)
    rw [<- ev8] at f9
    refine And.intro (aBZ (by omega)) ?_
    intro v10 ev10
    have f11 : Int32.toInt (v8 + 1) = Int32.toInt v8 + Int32.toInt (1 : Int32) := aAD _ _ (by omega)
    rw [<- ev10] at f11
    have f12 := aAT x3
    exact hpost _ _ _ _ _ _ _ _ _ _ _ _ _ _ _ _ _ aCH (by omega) yG yM zE aAR aA1 aAA zT yL xQ yY yK aAH zY
  · skip
    have c7 := mt (aAd _ _).mpr c7
    have f15 := aBx x5 (x1 ^^^ (-1)) (by omega)
    refine And.intro (fun c13 => ?_) (fun c13 => ?_)
    · skip
      have c13Z := c13
      have c13 := (zJ _ _).mp c13
      have s16 := ti_subset x5 x1 (c13Z) (by omega)
      refine t_X10_loadOf (by omega) vZ (fun r17 => ?_)
      intro v18 ev18
      have f20 := aBx x1 (x5 ^^^ (-1)) (by omega)
      have hv18 := congrArg Int32.toInt ev18
      refine t_X10_loadOf (by omega) vZ (fun r21 => ?_)
      intro v22 ev22
      have f24 := aAT r17
      have f25 := aAT r21
      have f23 := ti_max r17 r21
      have hv22 := congrArg Int32.toInt ev22
      have f27 := aAT v22
      have f28 := aAT x3
      refine And.intro (fun c26 => ?_) (fun c26 => ?_)
      · skip
        have c26 := (aAd _ _).mp c26
        intro v29 ev29
        have hv29 := congrArg Int32.toInt ev29
        have f30 := aAT v29
        exact ts_X10_share_215 bT aG bW qG m_x gR pW qR nG oO pJ qO qQ xJ vZ zQ xU xV aAW xK yR zM xT yF yD xZ zG zI hc0 hc1 hpost hKn x1 x5 v29 r21 x5 bL bY jD mLn oF rP dQ bZ aR aE bI aW dO sW sH vK aBK (by omega) (by omega) (by omega) yJ yG yM zE aAR aA1 aAA zT yL xQ yY yK aAH zY hn148
      · skip
        have c26 := mt (aAd _ _).mpr c26
        have f31 := aAT x4
        exact ts_X10_share_215 bT aG bW qG m_x gR pW qR nG oO pJ qO qQ xJ vZ zQ xU xV aAW xK yR zM xT yF yD xZ zG zI hc0 hc1 hpost hKn x1 x2 x3 x4 x5 bL bY jD mLn oF rP dQ bZ aR aE bI aW dO sW sH vK aBK aBN aCH (by omega) yJ yG yM zE aAR aA1 aAA zT yL xQ yY yK aAH zY hn148
    · skip
      have c13 := mt (zJ _ _).mpr c13
      have f32 := aAT x3
      have f33 := aAT x4
      exact ts_X10_share_215 bT aG bW qG m_x gR pW qR nG oO pJ qO qQ xJ vZ zQ xU xV aAW xK yR zM xT yF yD xZ zG zI hc0 hc1 hpost hKn x1 x2 x3 x4 x5 bL bY jD mLn oF rP dQ bZ aR aE bI aW dO sW sH vK aBK aBN aCH (by omega) yJ yG yM zE aAR aA1 aAA zT yL xQ yY yK aAH zY hn148
set_option maxHeartbeats 8000000 in
set_option maxRecDepth 200000 in
theorem tb_X10_share_148 {post : Int32 -> Int32 -> Int32 -> Nat -> Int32 -> Int32 -> Int32 -> Int32 -> Int32 -> Int32 -> Int32 -> Int32 -> Int32 -> Int32 -> (Nat -> Int32) -> (Nat -> Int32) -> (Nat -> Int32) -> Prop} {SB : Int} (bT aG bW : Int32) (qG m_x gR pW qR nG oO pJ qO qQ : Nat -> Int32) (xJ : 0 <= Int32.toInt bT /\ Int32.toInt bT <= 16) (vZ : 0 <= Int32.toInt aG /\ Int32.toInt aG <= 8) (zQ : 0 <= Int32.toInt bW /\ Int32.toInt bW <= 40) (xU : ∀ k : Nat, k = 17 -> -1 <= Int32.toInt (qG k) /\ Int32.toInt (qG k) <= SB) (xV : ∀ k : Nat, k = 19 -> 0 <= Int32.toInt (qG k) /\ Int32.toInt (qG k) <= 9) (aAW : ∀ k : Nat, 0 <= Int32.toInt (m_x k) /\ Int32.toInt (m_x k) <= 99) (xK : ∀ k : Nat, 0 <= Int32.toInt (gR k) /\ Int32.toInt (gR k) <= 99) (yR : ∀ k : Nat, 0 <= Int32.toInt (pW k) /\ Int32.toInt (pW k) <= 9) (zM : ∀ k : Nat, 0 <= Int32.toInt (qR k) /\ Int32.toInt (qR k) <= 9) (xT : ∀ k : Nat, 0 <= Int32.toInt (nG k) /\ Int32.toInt (nG k) <= 99) (yF : ∀ k : Nat, 0 <= Int32.toInt (oO k) /\ Int32.toInt (oO k) <= 99) (yD : ∀ k : Nat, k = 4 -> 1 <= Int32.toInt (pJ k) /\ Int32.toInt (pJ k) <= 30) (xZ : ∀ k : Nat, k = 3 -> 0 <= Int32.toInt (pJ k) /\ Int32.toInt (pJ k) <= 9) (zG : ∀ k : Nat, -128 <= Int32.toInt (qO k) /\ Int32.toInt (qO k) <= 127) (zI : ∀ k : Nat, -128 <= Int32.toInt (qQ k) /\ Int32.toInt (qQ k) <= 127) (hc0 : -1 <= SB /\ SB <= 7) (hc1 : (Int32.toInt aG <= 0 /\ SB = 0) \/ (1 <= Int32.toInt aG /\ SB = Int32.toInt aG - 1)) (hpost : ∀ (r : Int32) (xM : Int32) (xG : Int32) (aAP : Nat) (zS : Int32) (aAz : Int32) (aAm : Int32) (zH : Int32) (aAM : Int32) (zP : Int32) (yO : Int32) (zZ : Int32) (zO : Int32) (aAS : Int32) (aBX : Nat -> Int32) (aA5 : Nat -> Int32) (aGb : Nat -> Int32), (-2147483648 <= Int32.toInt r /\ Int32.toInt r <= 1000000) -> (0 <= Int32.toInt xM /\ Int32.toInt xM <= 16) -> (0 <= Int32.toInt xG /\ Int32.toInt xG <= 0) -> (aAP = 0 \/ aAP = 1 \/ aAP = 2) -> (0 <= Int32.toInt zS /\ Int32.toInt zS <= 80) -> (0 <= Int32.toInt aAz /\ Int32.toInt aAz <= 80) -> (0 <= Int32.toInt aAm /\ Int32.toInt aAm <= 80) -> (-1 <= Int32.toInt zH /\ Int32.toInt zH <= 80) -> (0 <= Int32.toInt aAM /\ Int32.toInt aAM <= 0) -> (0 <= Int32.toInt zP /\ Int32.toInt zP <= 15) -> (0 <= Int32.toInt yO /\ Int32.toInt yO <= 7) -> (0 <= Int32.toInt zZ /\ Int32.toInt zZ <= 1) -> (0 <= Int32.toInt zO /\ Int32.toInt zO <= 63) -> (0 <= Int32.toInt aAS /\ Int32.toInt aAS <= 65535) -> (∀ k : Nat, 0 <= Int32.toInt (aA5 k) /\ Int32.toInt (aA5 k) <= 65535) -> post r xM xG aAP zS aAz aAm zH aAM zP yO zZ zO aAS aBX aA5 aGb) : ∀ (n : Nat) (x1 x2 x3 x4 x5 bL bY : Int32) (jD : Nat) (mLn oF rP dQ bZ aR aE bI aW dO : Int32) (sW sH vK : Nat -> Int32), (0 <= Int32.toInt x1 /\ Int32.toInt x1 <= 255) -> (0 <= Int32.toInt x2 /\ Int32.toInt x2 <= 255) -> (-2147483648 <= Int32.toInt x3 /\ Int32.toInt x3 <= 1000000) -> (0 <= Int32.toInt x5 /\ Int32.toInt x5 <= 256) -> (0 <= Int32.toInt bL /\ Int32.toInt bL <= 16) -> (0 <= Int32.toInt bY /\ Int32.toInt bY <= 0) -> (jD = 0 \/ jD = 1 \/ jD = 2) -> (0 <= Int32.toInt mLn /\ Int32.toInt mLn <= 80) -> (0 <= Int32.toInt oF /\ Int32.toInt oF <= 80) -> (0 <= Int32.toInt rP /\ Int32.toInt rP <= 80) -> (-1 <= Int32.toInt dQ /\ Int32.toInt dQ <= 80) -> (0 <= Int32.toInt bZ /\ Int32.toInt bZ <= 0) -> (0 <= Int32.toInt aR /\ Int32.toInt aR <= 15) -> (0 <= Int32.toInt aE /\ Int32.toInt aE <= 7) -> (0 <= Int32.toInt bI /\ Int32.toInt bI <= 1) -> (0 <= Int32.toInt aW /\ Int32.toInt aW <= 63) -> (0 <= Int32.toInt dO /\ Int32.toInt dO <= 65535) -> (∀ k : Nat, 0 <= Int32.toInt (sH k) /\ Int32.toInt (sH k) <= 65535) -> (256 - Int32.toInt x5 < (n : Int)) -> wb_X10_share_148 post bT aG bW qG m_x gR pW qR nG oO pJ qO qQ n x1 x2 x3 x4 x5 bL bY jD mLn oF rP dQ bZ aR aE bI aW dO sW sH vK := by
  intro n
  induction n with
  | zero =>
    intro x1 x2 x3 x4 x5 bL bY jD mLn oF rP dQ bZ aR aE bI aW dO sW sH vK aBK aBN aCH aF7 yJ yG yM zE aAR aA1 aAA zT yL xQ yY yK aAH zY hm
    exfalso; omega
  | succ n ih =>
    intro x1 x2 x3 x4 x5 bL bY jD mLn oF rP dQ bZ aR aE bI aW dO sW sH vK aBK aBN aCH aF7 yJ yG yM zE aAR aA1 aAA zT yL xQ yY yK aAH zY hm
    exact ts_X10_share_148 bT aG bW qG m_x gR pW qR nG oO pJ qO qQ xJ vZ zQ xU xV aAW xK yR zM xT yF yD xZ zG zI hc0 hc1 hpost ih x1 x2 x3 x4 x5 bL bY jD mLn oF rP dQ bZ aR aE bI aW dO sW sH vK aBK aBN aCH aF7 yJ yG yM zE aAR aA1 aAA zT yL xQ yY yK aAH zY (by omega)
set_option maxHeartbeats 8000000 in
set_option maxRecDepth 200000 in
theorem ts_X10_share_105 {post : Int32 -> Int32 -> Int32 -> Nat -> Int32 -> Int32 -> Int32 -> Int32 -> Int32 -> Int32 -> Int32 -> Int32 -> Int32 -> Int32 -> (Nat -> Int32) -> (Nat -> Int32) -> (Nat -> Int32) -> Prop} {SB : Int} {K46 : Int32 -> Int32 -> Int32 -> Int32 -> Nat -> Int32 -> Int32 -> Int32 -> Int32 -> Int32 -> Int32 -> Int32 -> Int32 -> Int32 -> Int32 -> (Nat -> Int32) -> (Nat -> Int32) -> (Nat -> Int32) -> Prop} {n46 : Int} (bT aG bW : Int32) (qG m_x gR pW qR nG oO pJ qO qQ : Nat -> Int32) (xJ : 0 <= Int32.toInt bT /\ Int32.toInt bT <= 16) (vZ : 0 <= Int32.toInt aG /\ Int32.toInt aG <= 8) (zQ : 0 <= Int32.toInt bW /\ Int32.toInt bW <= 40) (xU : ∀ k : Nat, k = 17 -> -1 <= Int32.toInt (qG k) /\ Int32.toInt (qG k) <= SB) (xV : ∀ k : Nat, k = 19 -> 0 <= Int32.toInt (qG k) /\ Int32.toInt (qG k) <= 9) (aAW : ∀ k : Nat, 0 <= Int32.toInt (m_x k) /\ Int32.toInt (m_x k) <= 99) (xK : ∀ k : Nat, 0 <= Int32.toInt (gR k) /\ Int32.toInt (gR k) <= 99) (yR : ∀ k : Nat, 0 <= Int32.toInt (pW k) /\ Int32.toInt (pW k) <= 9) (zM : ∀ k : Nat, 0 <= Int32.toInt (qR k) /\ Int32.toInt (qR k) <= 9) (xT : ∀ k : Nat, 0 <= Int32.toInt (nG k) /\ Int32.toInt (nG k) <= 99) (yF : ∀ k : Nat, 0 <= Int32.toInt (oO k) /\ Int32.toInt (oO k) <= 99) (yD : ∀ k : Nat, k = 4 -> 1 <= Int32.toInt (pJ k) /\ Int32.toInt (pJ k) <= 30) (xZ : ∀ k : Nat, k = 3 -> 0 <= Int32.toInt (pJ k) /\ Int32.toInt (pJ k) <= 9) (zG : ∀ k : Nat, -128 <= Int32.toInt (qO k) /\ Int32.toInt (qO k) <= 127) (zI : ∀ k : Nat, -128 <= Int32.toInt (qQ k) /\ Int32.toInt (qQ k) <= 127) (hc0 : -1 <= SB /\ SB <= 7) (hc1 : (Int32.toInt aG <= 0 /\ SB = 0) \/ (1 <= Int32.toInt aG /\ SB = Int32.toInt aG - 1)) (hpost : ∀ (r : Int32) (xM : Int32) (xG : Int32) (aAP : Nat) (zS : Int32) (aAz : Int32) (aAm : Int32) (zH : Int32) (aAM : Int32) (zP : Int32) (yO : Int32) (zZ : Int32) (zO : Int32) (aAS : Int32) (aBX : Nat -> Int32) (aA5 : Nat -> Int32) (aGb : Nat -> Int32), (-2147483648 <= Int32.toInt r /\ Int32.toInt r <= 1000000) -> (0 <= Int32.toInt xM /\ Int32.toInt xM <= 16) -> (0 <= Int32.toInt xG /\ Int32.toInt xG <= 0) -> (aAP = 0 \/ aAP = 1 \/ aAP = 2) -> (0 <= Int32.toInt zS /\ Int32.toInt zS <= 80) -> (0 <= Int32.toInt aAz /\ Int32.toInt aAz <= 80) -> (0 <= Int32.toInt aAm /\ Int32.toInt aAm <= 80) -> (-1 <= Int32.toInt zH /\ Int32.toInt zH <= 80) -> (0 <= Int32.toInt aAM /\ Int32.toInt aAM <= 0) -> (0 <= Int32.toInt zP /\ Int32.toInt zP <= 15) -> (0 <= Int32.toInt yO /\ Int32.toInt yO <= 7) -> (0 <= Int32.toInt zZ /\ Int32.toInt zZ <= 1) -> (0 <= Int32.toInt zO /\ Int32.toInt zO <= 63) -> (0 <= Int32.toInt aAS /\ Int32.toInt aAS <= 65535) -> (∀ k : Nat, 0 <= Int32.toInt (aA5 k) /\ Int32.toInt (aA5 k) <= 65535) -> post r xM xG aAP zS aAz aAm zH aAM zP yO zZ zO aAS aBX aA5 aGb) (hK46 : ∀ (x1 : Int32) (x2 : Int32) (bL : Int32) (bY : Int32) (jD : Nat) (mLn : Int32) (oF : Int32) (rP : Int32) (dQ : Int32) (bZ : Int32) (aR : Int32) (aE : Int32) (bI : Int32) (aW : Int32) (dO : Int32) (sW : Nat -> Int32) (sH : Nat -> Int32) (vK : Nat -> Int32), (0 <= Int32.toInt x1 /\ Int32.toInt x1 <= 255) -> (0 <= Int32.toInt x2 /\ Int32.toInt x2 <= 16) -> (0 <= Int32.toInt bL /\ Int32.toInt bL <= 16) -> (0 <= Int32.toInt bY /\ Int32.toInt bY <= 0) -> (jD = 0 \/ jD = 1 \/ jD = 2) -> (0 <= Int32.toInt mLn /\ Int32.toInt mLn <= 80) -> (0 <= Int32.toInt oF /\ Int32.toInt oF <= 80) -> (0 <= Int32.toInt rP /\ Int32.toInt rP <= 80) -> (-1 <= Int32.toInt dQ /\ Int32.toInt dQ <= 80) -> (0 <= Int32.toInt bZ /\ Int32.toInt bZ <= 0) -> (0 <= Int32.toInt aR /\ Int32.toInt aR <= 15) -> (0 <= Int32.toInt aE /\ Int32.toInt aE <= 7) -> (0 <= Int32.toInt bI /\ Int32.toInt bI <= 1) -> (0 <= Int32.toInt aW /\ Int32.toInt aW <= 63) -> (0 <= Int32.toInt dO /\ Int32.toInt dO <= 65535) -> (∀ k : Nat, 0 <= Int32.toInt (sH k) /\ Int32.toInt (sH k) <= 65535) -> (16 - Int32.toInt x2 < n46) -> K46 x1 x2 bL bY jD mLn oF rP dQ bZ aR aE bI aW dO sW sH vK) (x1 x2 x3 bL bY : Int32) (jD : Nat) (mLn oF rP dQ bZ aR aE bI aW dO : Int32) (sW sH vK : Nat -> Int32) (aBK : 0 <= Int32.toInt x1 /\ Int32.toInt x1 <= 255) (aBN : 0 <= Int32.toInt x2 /\ Int32.toInt x2 <= 15) (aCH : 0 <= Int32.toInt x3 /\ Int32.toInt x3 <= 8) (yJ : 0 <= Int32.toInt bL /\ Int32.toInt bL <= 16) (yG : 0 <= Int32.toInt bY /\ Int32.toInt bY <= 0) (yM : jD = 0 \/ jD = 1 \/ jD = 2) (zE : 0 <= Int32.toInt mLn /\ Int32.toInt mLn <= 80) (aAR : 0 <= Int32.toInt oF /\ Int32.toInt oF <= 80) (aA1 : 0 <= Int32.toInt rP /\ Int32.toInt rP <= 80) (aAA : -1 <= Int32.toInt dQ /\ Int32.toInt dQ <= 80) (zT : 0 <= Int32.toInt bZ /\ Int32.toInt bZ <= 0) (yL : 0 <= Int32.toInt aR /\ Int32.toInt aR <= 15) (xQ : 0 <= Int32.toInt aE /\ Int32.toInt aE <= 7) (yY : 0 <= Int32.toInt bI /\ Int32.toInt bI <= 1) (yK : 0 <= Int32.toInt aW /\ Int32.toInt aW <= 63) (aAH : 0 <= Int32.toInt dO /\ Int32.toInt dO <= 65535) (zY : ∀ k : Nat, 0 <= Int32.toInt (sH k) /\ Int32.toInt (sH k) <= 65535) (hn46 : 16 - Int32.toInt x2 <= n46) : ws_X10_share_105 post K46 bT aG bW qG m_x gR pW qR nG oO pJ qO qQ x1 x2 x3 bL bY jD mLn oF rP dQ bZ aR aE bI aW dO sW sH vK := by
  have l0 := aE0
  refine And.intro (fun c34 => ?_) (fun c34 => ?_)
  · skip
    have c34 := (aAO _ _).mp c34
    exact ts_X10_share_130 bT aG bW qG m_x gR pW qR nG oO pJ qO qQ xJ vZ zQ xU xV aAW xK yR zM xT yF yD xZ zG zI hc0 hc1 hpost hK46 x1 x2 bL bY jD mLn oF rP dQ bZ aR aE bI aW dO sW sH vK aBK aBN yJ yG yM zE aAR aA1 aAA zT yL xQ yY yK aAH zY hn46
  · skip
    have c34 := mt (aAO _ _).mpr c34
    refine And.intro (aBZ (by omega)) ?_
    intro v35 ev35
    have hv35 := congrArg Int32.toInt ev35
    refine t_X10_secondsOf aBN (by omega) (by omega) (by omega) yM zE aAR aA1 aAA zQ zT yL xQ yY yK aAW xK yR xT yF zG zI (fun r47 m_read_37 m_length_38 m_top_39 m_at_40 m_wrong_41 m_isAsked_42 m_askedFruit_43 m_askedStanding_44 m_askedHook_45 m_askedApron_46 h_r47 h_m_read_37 h_m_length_38 h_m_top_39 h_m_at_40 h_m_wrong_41 h_m_isAsked_42 h_m_askedFruit_43 h_m_askedStanding_44 h_m_askedHook_45 h_m_askedApron_46 => ?_)
    intro v48 ev48
    have hv48 := congrArg Int32.toInt ev48
    refine And.intro (aBZ (by omega)) ?_
    exact ts_X10_share_130 bT aG bW qG m_x gR pW qR nG oO pJ qO qQ xJ vZ zQ xU xV aAW xK yR zM xT yF yD xZ zG zI hc0 hc1 hpost hK46 x1 x2 bL bY m_read_37 m_length_38 m_top_39 m_at_40 m_wrong_41 m_isAsked_42 m_askedFruit_43 m_askedStanding_44 m_askedHook_45 m_askedApron_46 dO sW sH (upd vK x3.toNatClampNeg v48) aBK aBN yJ yG h_m_read_37 h_m_length_38 h_m_top_39 h_m_at_40 h_m_wrong_41 h_m_isAsked_42 h_m_askedFruit_43 h_m_askedStanding_44 h_m_askedHook_45 h_m_askedApron_46 aAH zY hn46
set_option maxHeartbeats 8000000 in
set_option maxRecDepth 200000 in
theorem ts_X10_share_99 {post : Int32 -> Int32 -> Int32 -> Nat -> Int32 -> Int32 -> Int32 -> Int32 -> Int32 -> Int32 -> Int32 -> Int32 -> Int32 -> Int32 -> (Nat -> Int32) -> (Nat -> Int32) -> (Nat -> Int32) -> Prop} {SB : Int} {K46 : Int32 -> Int32 -> Int32 -> Int32 -> Nat -> Int32 -> Int32 -> Int32 -> Int32 -> Int32 -> Int32 -> Int32 -> Int32 -> Int32 -> Int32 -> (Nat -> Int32) -> (Nat -> Int32) -> (Nat -> Int32) -> Prop} {K70 : Int32 -> Int32 -> Int32 -> Int32 -> Int32 -> Nat -> Int32 -> Int32 -> Int32 -> Int32 -> Int32 -> Int32 -> Int32 -> Int32 -> Int32 -> Int32 -> (Nat -> Int32) -> (Nat -> Int32) -> (Nat -> Int32) -> Prop} {n46 n70 : Int} (bT aG bW : Int32) (qG m_x gR pW qR nG oO pJ qO qQ : Nat -> Int32) (xJ : 0 <= Int32.toInt bT /\ Int32.toInt bT <= 16) (vZ : 0 <= Int32.toInt aG /\ Int32.toInt aG <= 8) (zQ : 0 <= Int32.toInt bW /\ Int32.toInt bW <= 40) (xU : ∀ k : Nat, k = 17 -> -1 <= Int32.toInt (qG k) /\ Int32.toInt (qG k) <= SB) (xV : ∀ k : Nat, k = 19 -> 0 <= Int32.toInt (qG k) /\ Int32.toInt (qG k) <= 9) (aAW : ∀ k : Nat, 0 <= Int32.toInt (m_x k) /\ Int32.toInt (m_x k) <= 99) (xK : ∀ k : Nat, 0 <= Int32.toInt (gR k) /\ Int32.toInt (gR k) <= 99) (yR : ∀ k : Nat, 0 <= Int32.toInt (pW k) /\ Int32.toInt (pW k) <= 9) (zM : ∀ k : Nat, 0 <= Int32.toInt (qR k) /\ Int32.toInt (qR k) <= 9) (xT : ∀ k : Nat, 0 <= Int32.toInt (nG k) /\ Int32.toInt (nG k) <= 99) (yF : ∀ k : Nat, 0 <= Int32.toInt (oO k) /\ Int32.toInt (oO k) <= 99) (yD : ∀ k : Nat, k = 4 -> 1 <= Int32.toInt (pJ k) /\ Int32.toInt (pJ k) <= 30) (xZ : ∀ k : Nat, k = 3 -> 0 <= Int32.toInt (pJ k) /\ Int32.toInt (pJ k) <= 9) (zG : ∀ k : Nat, -128 <= Int32.toInt (qO k) /\ Int32.toInt (qO k) <= 127) (zI : ∀ k : Nat, -128 <= Int32.toInt (qQ k) /\ Int32.toInt (qQ k) <= 127) (hc0 : -1 <= SB /\ SB <= 7) (hc1 : (Int32.toInt aG <= 0 /\ SB = 0) \/ (1 <= Int32.toInt aG /\ SB = Int32.toInt aG - 1)) (hpost : ∀ (r : Int32) (xM : Int32) (xG : Int32) (aAP : Nat) (zS : Int32) (aAz : Int32) (aAm : Int32) (zH : Int32) (aAM : Int32) (zP : Int32) (yO : Int32) (zZ : Int32) (zO : Int32) (aAS : Int32) (aBX : Nat -> Int32) (aA5 : Nat -> Int32) (aGb : Nat -> Int32), (-2147483648 <= Int32.toInt r /\ Int32.toInt r <= 1000000) -> (0 <= Int32.toInt xM /\ Int32.toInt xM <= 16) -> (0 <= Int32.toInt xG /\ Int32.toInt xG <= 0) -> (aAP = 0 \/ aAP = 1 \/ aAP = 2) -> (0 <= Int32.toInt zS /\ Int32.toInt zS <= 80) -> (0 <= Int32.toInt aAz /\ Int32.toInt aAz <= 80) -> (0 <= Int32.toInt aAm /\ Int32.toInt aAm <= 80) -> (-1 <= Int32.toInt zH /\ Int32.toInt zH <= 80) -> (0 <= Int32.toInt aAM /\ Int32.toInt aAM <= 0) -> (0 <= Int32.toInt zP /\ Int32.toInt zP <= 15) -> (0 <= Int32.toInt yO /\ Int32.toInt yO <= 7) -> (0 <= Int32.toInt zZ /\ Int32.toInt zZ <= 1) -> (0 <= Int32.toInt zO /\ Int32.toInt zO <= 63) -> (0 <= Int32.toInt aAS /\ Int32.toInt aAS <= 65535) -> (∀ k : Nat, 0 <= Int32.toInt (aA5 k) /\ Int32.toInt (aA5 k) <= 65535) -> post r xM xG aAP zS aAz aAm zH aAM zP yO zZ zO aAS aBX aA5 aGb) (hK46 : ∀ (x1 : Int32) (x2 : Int32) (bL : Int32) (bY : Int32) (jD : Nat) (mLn : Int32) (oF : Int32) (rP : Int32) (dQ : Int32) (bZ : Int32) (aR : Int32) (aE : Int32) (bI : Int32) (aW : Int32) (dO : Int32) (sW : Nat -> Int32) (sH : Nat -> Int32) (vK : Nat -> Int32), (0 <= Int32.toInt x1 /\ Int32.toInt x1 <= 255) -> (0 <= Int32.toInt x2 /\ Int32.toInt x2 <= 16) -> (0 <= Int32.toInt bL /\ Int32.toInt bL <= 16) -> (0 <= Int32.toInt bY /\ Int32.toInt bY <= 0) -> (jD = 0 \/ jD = 1 \/ jD = 2) -> (0 <= Int32.toInt mLn /\ Int32.toInt mLn <= 80) -> (0 <= Int32.toInt oF /\ Int32.toInt oF <= 80) -> (0 <= Int32.toInt rP /\ Int32.toInt rP <= 80) -> (-1 <= Int32.toInt dQ /\ Int32.toInt dQ <= 80) -> (0 <= Int32.toInt bZ /\ Int32.toInt bZ <= 0) -> (0 <= Int32.toInt aR /\ Int32.toInt aR <= 15) -> (0 <= Int32.toInt aE /\ Int32.toInt aE <= 7) -> (0 <= Int32.toInt bI /\ Int32.toInt bI <= 1) -> (0 <= Int32.toInt aW /\ Int32.toInt aW <= 63) -> (0 <= Int32.toInt dO /\ Int32.toInt dO <= 65535) -> (∀ k : Nat, 0 <= Int32.toInt (sH k) /\ Int32.toInt (sH k) <= 65535) -> (16 - Int32.toInt x2 < n46) -> K46 x1 x2 bL bY jD mLn oF rP dQ bZ aR aE bI aW dO sW sH vK) (hK70 : ∀ (x1 : Int32) (x2 : Int32) (x3 : Int32) (bL : Int32) (bY : Int32) (jD : Nat) (mLn : Int32) (oF : Int32) (rP : Int32) (dQ : Int32) (bZ : Int32) (aR : Int32) (aE : Int32) (bI : Int32) (aW : Int32) (dO : Int32) (sW : Nat -> Int32) (sH : Nat -> Int32) (vK : Nat -> Int32), (0 <= Int32.toInt x1 /\ Int32.toInt x1 <= 255) -> (0 <= Int32.toInt x2 /\ Int32.toInt x2 <= 15) -> (0 <= Int32.toInt x3 /\ Int32.toInt x3 <= 8) -> (0 <= Int32.toInt bL /\ Int32.toInt bL <= 16) -> (0 <= Int32.toInt bY /\ Int32.toInt bY <= 0) -> (jD = 0 \/ jD = 1 \/ jD = 2) -> (0 <= Int32.toInt mLn /\ Int32.toInt mLn <= 80) -> (0 <= Int32.toInt oF /\ Int32.toInt oF <= 80) -> (0 <= Int32.toInt rP /\ Int32.toInt rP <= 80) -> (-1 <= Int32.toInt dQ /\ Int32.toInt dQ <= 80) -> (0 <= Int32.toInt bZ /\ Int32.toInt bZ <= 0) -> (0 <= Int32.toInt aR /\ Int32.toInt aR <= 15) -> (0 <= Int32.toInt aE /\ Int32.toInt aE <= 7) -> (0 <= Int32.toInt bI /\ Int32.toInt bI <= 1) -> (0 <= Int32.toInt aW /\ Int32.toInt aW <= 63) -> (0 <= Int32.toInt dO /\ Int32.toInt dO <= 65535) -> (∀ k : Nat, 0 <= Int32.toInt (sH k) /\ Int32.toInt (sH k) <= 65535) -> (16 - Int32.toInt x2 <= n46) -> (8 - Int32.toInt x3 < n70) -> K70 x1 x2 x3 bL bY jD mLn oF rP dQ bZ aR aE bI aW dO sW sH vK) (x1 x2 x3 bL bY : Int32) (jD : Nat) (mLn oF rP dQ bZ aR aE bI aW dO : Int32) (sW sH vK : Nat -> Int32) (aBK : 0 <= Int32.toInt x1 /\ Int32.toInt x1 <= 255) (aBN : 0 <= Int32.toInt x2 /\ Int32.toInt x2 <= 15) (aCH : 0 <= Int32.toInt x3 /\ Int32.toInt x3 <= 7) (yJ : 0 <= Int32.toInt bL /\ Int32.toInt bL <= 16) (yG : 0 <= Int32.toInt bY /\ Int32.toInt bY <= 0) (yM : jD = 0 \/ jD = 1 \/ jD = 2) (zE : 0 <= Int32.toInt mLn /\ Int32.toInt mLn <= 80) (aAR : 0 <= Int32.toInt oF /\ Int32.toInt oF <= 80) (aA1 : 0 <= Int32.toInt rP /\ Int32.toInt rP <= 80) (aAA : -1 <= Int32.toInt dQ /\ Int32.toInt dQ <= 80) (zT : 0 <= Int32.toInt bZ /\ Int32.toInt bZ <= 0) (yL : 0 <= Int32.toInt aR /\ Int32.toInt aR <= 15) (xQ : 0 <= Int32.toInt aE /\ Int32.toInt aE <= 7) (yY : 0 <= Int32.toInt bI /\ Int32.toInt bI <= 1) (yK : 0 <= Int32.toInt aW /\ Int32.toInt aW <= 63) (aAH : 0 <= Int32.toInt dO /\ Int32.toInt dO <= 65535) (zY : ∀ k : Nat, 0 <= Int32.toInt (sH k) /\ Int32.toInt (sH k) <= 65535) (hn46 : 16 - Int32.toInt x2 <= n46) (hn70 : 8 - Int32.toInt x3 <= n70) : ws_X10_share_99 post K46 K70 bT aG bW qG m_x gR pW qR nG oO pJ qO qQ x1 x2 x3 bL bY jD mLn oF rP dQ bZ aR aE bI aW dO sW sH vK := by
  have l0 := aEc
  intro v50 ev50
  have f51 : Int32.toInt (x3 + 1) = Int32.toInt x3 + Int32.toInt (1 : Int32) := aAD _ _ (by omega)
  rw [<- ev50] at f51
  exact hK70 x1 x2 v50 bL bY jD mLn oF rP dQ bZ aR aE bI aW dO sW sH vK aBK aBN (by omega) yJ yG yM zE aAR aA1 aAA zT yL xQ yY yK aAH zY hn46 (by omega)
set_option maxHeartbeats 8000000 in
set_option maxRecDepth 200000 in
theorem ts_X10_share_70 {post : Int32 -> Int32 -> Int32 -> Nat -> Int32 -> Int32 -> Int32 -> Int32 -> Int32 -> Int32 -> Int32 -> Int32 -> Int32 -> Int32 -> (Nat -> Int32) -> (Nat -> Int32) -> (Nat -> Int32) -> Prop} {SB : Int} {K46 : Int32 -> Int32 -> Int32 -> Int32 -> Nat -> Int32 -> Int32 -> Int32 -> Int32 -> Int32 -> Int32 -> Int32 -> Int32 -> Int32 -> Int32 -> (Nat -> Int32) -> (Nat -> Int32) -> (Nat -> Int32) -> Prop} {next : Int32 -> Int32 -> Int32 -> Int32 -> Int32 -> Nat -> Int32 -> Int32 -> Int32 -> Int32 -> Int32 -> Int32 -> Int32 -> Int32 -> Int32 -> Int32 -> (Nat -> Int32) -> (Nat -> Int32) -> (Nat -> Int32) -> Prop} {n70 n46 : Int} (bT aG bW : Int32) (qG m_x gR pW qR nG oO pJ qO qQ : Nat -> Int32) (xJ : 0 <= Int32.toInt bT /\ Int32.toInt bT <= 16) (vZ : 0 <= Int32.toInt aG /\ Int32.toInt aG <= 8) (zQ : 0 <= Int32.toInt bW /\ Int32.toInt bW <= 40) (xU : ∀ k : Nat, k = 17 -> -1 <= Int32.toInt (qG k) /\ Int32.toInt (qG k) <= SB) (xV : ∀ k : Nat, k = 19 -> 0 <= Int32.toInt (qG k) /\ Int32.toInt (qG k) <= 9) (aAW : ∀ k : Nat, 0 <= Int32.toInt (m_x k) /\ Int32.toInt (m_x k) <= 99) (xK : ∀ k : Nat, 0 <= Int32.toInt (gR k) /\ Int32.toInt (gR k) <= 99) (yR : ∀ k : Nat, 0 <= Int32.toInt (pW k) /\ Int32.toInt (pW k) <= 9) (zM : ∀ k : Nat, 0 <= Int32.toInt (qR k) /\ Int32.toInt (qR k) <= 9) (xT : ∀ k : Nat, 0 <= Int32.toInt (nG k) /\ Int32.toInt (nG k) <= 99) (yF : ∀ k : Nat, 0 <= Int32.toInt (oO k) /\ Int32.toInt (oO k) <= 99) (yD : ∀ k : Nat, k = 4 -> 1 <= Int32.toInt (pJ k) /\ Int32.toInt (pJ k) <= 30) (xZ : ∀ k : Nat, k = 3 -> 0 <= Int32.toInt (pJ k) /\ Int32.toInt (pJ k) <= 9) (zG : ∀ k : Nat, -128 <= Int32.toInt (qO k) /\ Int32.toInt (qO k) <= 127) (zI : ∀ k : Nat, -128 <= Int32.toInt (qQ k) /\ Int32.toInt (qQ k) <= 127) (hc0 : -1 <= SB /\ SB <= 7) (hc1 : (Int32.toInt aG <= 0 /\ SB = 0) \/ (1 <= Int32.toInt aG /\ SB = Int32.toInt aG - 1)) (hpost : ∀ (r : Int32) (xM : Int32) (xG : Int32) (aAP : Nat) (zS : Int32) (aAz : Int32) (aAm : Int32) (zH : Int32) (aAM : Int32) (zP : Int32) (yO : Int32) (zZ : Int32) (zO : Int32) (aAS : Int32) (aBX : Nat -> Int32) (aA5 : Nat -> Int32) (aGb : Nat -> Int32), (-2147483648 <= Int32.toInt r /\ Int32.toInt r <= 1000000) -> (0 <= Int32.toInt xM /\ Int32.toInt xM <= 16) -> (0 <= Int32.toInt xG /\ Int32.toInt xG <= 0) -> (aAP = 0 \/ aAP = 1 \/ aAP = 2) -> (0 <= Int32.toInt zS /\ Int32.toInt zS <= 80) -> (0 <= Int32.toInt aAz /\ Int32.toInt aAz <= 80) -> (0 <= Int32.toInt aAm /\ Int32.toInt aAm <= 80) -> (-1 <= Int32.toInt zH /\ Int32.toInt zH <= 80) -> (0 <= Int32.toInt aAM /\ Int32.toInt aAM <= 0) -> (0 <= Int32.toInt zP /\ Int32.toInt zP <= 15) -> (0 <= Int32.toInt yO /\ Int32.toInt yO <= 7) -> (0 <= Int32.toInt zZ /\ Int32.toInt zZ <= 1) -> (0 <= Int32.toInt zO /\ Int32.toInt zO <= 63) -> (0 <= Int32.toInt aAS /\ Int32.toInt aAS <= 65535) -> (∀ k : Nat, 0 <= Int32.toInt (aA5 k) /\ Int32.toInt (aA5 k) <= 65535) -> post r xM xG aAP zS aAz aAm zH aAM zP yO zZ zO aAS aBX aA5 aGb) (hK46 : ∀ (x1 : Int32) (x2 : Int32) (bL : Int32) (bY : Int32) (jD : Nat) (mLn : Int32) (oF : Int32) (rP : Int32) (dQ : Int32) (bZ : Int32) (aR : Int32) (aE : Int32) (bI : Int32) (aW : Int32) (dO : Int32) (sW : Nat -> Int32) (sH : Nat -> Int32) (vK : Nat -> Int32), (0 <= Int32.toInt x1 /\ Int32.toInt x1 <= 255) -> (0 <= Int32.toInt x2 /\ Int32.toInt x2 <= 16) -> (0 <= Int32.toInt bL /\ Int32.toInt bL <= 16) -> (0 <= Int32.toInt bY /\ Int32.toInt bY <= 0) -> (jD = 0 \/ jD = 1 \/ jD = 2) -> (0 <= Int32.toInt mLn /\ Int32.toInt mLn <= 80) -> (0 <= Int32.toInt oF /\ Int32.toInt oF <= 80) -> (0 <= Int32.toInt rP /\ Int32.toInt rP <= 80) -> (-1 <= Int32.toInt dQ /\ Int32.toInt dQ <= 80) -> (0 <= Int32.toInt bZ /\ Int32.toInt bZ <= 0) -> (0 <= Int32.toInt aR /\ Int32.toInt aR <= 15) -> (0 <= Int32.toInt aE /\ Int32.toInt aE <= 7) -> (0 <= Int32.toInt bI /\ Int32.toInt bI <= 1) -> (0 <= Int32.toInt aW /\ Int32.toInt aW <= 63) -> (0 <= Int32.toInt dO /\ Int32.toInt dO <= 65535) -> (∀ k : Nat, 0 <= Int32.toInt (sH k) /\ Int32.toInt (sH k) <= 65535) -> (16 - Int32.toInt x2 < n46) -> K46 x1 x2 bL bY jD mLn oF rP dQ bZ aR aE bI aW dO sW sH vK) (hKn : ∀ (x1 : Int32) (x2 : Int32) (x3 : Int32) (bL : Int32) (bY : Int32) (jD : Nat) (mLn : Int32) (oF : Int32) (rP : Int32) (dQ : Int32) (bZ : Int32) (aR : Int32) (aE : Int32) (bI : Int32) (aW : Int32) (dO : Int32) (sW : Nat -> Int32) (sH : Nat -> Int32) (vK : Nat -> Int32), (0 <= Int32.toInt x1 /\ Int32.toInt x1 <= 255) -> (0 <= Int32.toInt x2 /\ Int32.toInt x2 <= 15) -> (0 <= Int32.toInt x3 /\ Int32.toInt x3 <= 8) -> (0 <= Int32.toInt bL /\ Int32.toInt bL <= 16) -> (0 <= Int32.toInt bY /\ Int32.toInt bY <= 0) -> (jD = 0 \/ jD = 1 \/ jD = 2) -> (0 <= Int32.toInt mLn /\ Int32.toInt mLn <= 80) -> (0 <= Int32.toInt oF /\ Int32.toInt oF <= 80) -> (0 <= Int32.toInt rP /\ Int32.toInt rP <= 80) -> (-1 <= Int32.toInt dQ /\ Int32.toInt dQ <= 80) -> (0 <= Int32.toInt bZ /\ Int32.toInt bZ <= 0) -> (0 <= Int32.toInt aR /\ Int32.toInt aR <= 15) -> (0 <= Int32.toInt aE /\ Int32.toInt aE <= 7) -> (0 <= Int32.toInt bI /\ Int32.toInt bI <= 1) -> (0 <= Int32.toInt aW /\ Int32.toInt aW <= 63) -> (0 <= Int32.toInt dO /\ Int32.toInt dO <= 65535) -> (∀ k : Nat, 0 <= Int32.toInt (sH k) /\ Int32.toInt (sH k) <= 65535) -> (16 - Int32.toInt x2 <= n46) -> (8 - Int32.toInt x3 < n70) -> next x1 x2 x3 bL bY jD mLn oF rP dQ bZ aR aE bI aW dO sW sH vK) (x1 x2 x3 bL bY : Int32) (jD : Nat) (mLn oF rP dQ bZ aR aE bI aW dO : Int32) (sW sH vK : Nat -> Int32) (aBK : 0 <= Int32.toInt x1 /\ Int32.toInt x1 <= 255) (aBN : 0 <= Int32.toInt x2 /\ Int32.toInt x2 <= 15) (aCH : 0 <= Int32.toInt x3 /\ Int32.toInt x3 <= 8) (yJ : 0 <= Int32.toInt bL /\ Int32.toInt bL <= 16) (yG : 0 <= Int32.toInt bY /\ Int32.toInt bY <= 0) (yM : jD = 0 \/ jD = 1 \/ jD = 2) (zE : 0 <= Int32.toInt mLn /\ Int32.toInt mLn <= 80) (aAR : 0 <= Int32.toInt oF /\ Int32.toInt oF <= 80) (aA1 : 0 <= Int32.toInt rP /\ Int32.toInt rP <= 80) (aAA : -1 <= Int32.toInt dQ /\ Int32.toInt dQ <= 80) (zT : 0 <= Int32.toInt bZ /\ Int32.toInt bZ <= 0) (yL : 0 <= Int32.toInt aR /\ Int32.toInt aR <= 15) (xQ : 0 <= Int32.toInt aE /\ Int32.toInt aE <= 7) (yY : 0 <= Int32.toInt bI /\ Int32.toInt bI <= 1) (yK : 0 <= Int32.toInt aW /\ Int32.toInt aW <= 63) (aAH : 0 <= Int32.toInt dO /\ Int32.toInt dO <= 65535) (zY : ∀ k : Nat, 0 <= Int32.toInt (sH k) /\ Int32.toInt (sH k) <= 65535) (hn46 : 16 - Int32.toInt x2 <= n46) (hn70 : 8 - Int32.toInt x3 <= n70) : ws_X10_share_70 post K46 next bT aG bW qG m_x gR pW qR nG oO pJ qO qQ x1 x2 x3 bL bY jD mLn oF rP dQ bZ aR aE bI aW dO sW sH vK := by
  have l0 := aEc
  refine And.intro (fun c52 => ?_) (fun c52 => ?_)
  · skip
    have c52 := (aAO _ _).mp c52
    exact ts_X10_share_105 bT aG bW qG m_x gR pW qR nG oO pJ qO qQ xJ vZ zQ xU xV aAW xK yR zM xT yF yD xZ zG zI hc0 hc1 hpost hK46 x1 x2 x3 bL bY jD mLn oF rP dQ bZ aR aE bI aW dO sW sH vK aBK aBN aCH yJ yG yM zE aAR aA1 aAA zT yL xQ yY yK aAH zY hn46
  · skip
    have c52 := mt (aAO _ _).mpr c52
    intro v53 ev53
    have f54 := aRJ x1 x3 (by omega)
    have hv53 := congrArg Int32.toInt ev53
    intro v55 ev55
    have f56 := aAQ v53 1 (by omega)
    have f57 := aBx v53 1 (by omega)
    have hv55 := congrArg Int32.toInt ev55
    refine And.intro (fun c58 => ?_) (fun c58 => ?_)
    · skip
      have c58 := mt (zJ _ _).mpr c58
      refine And.intro (fun _ => ?_) (fun h9 => absurd h9 (by decide))
      exact ts_X10_share_99 bT aG bW qG m_x gR pW qR nG oO pJ qO qQ xJ vZ zQ xU xV aAW xK yR zM xT yF yD xZ zG zI hc0 hc1 hpost hK46 hKn x1 x2 x3 bL bY jD mLn oF rP dQ bZ aR aE bI aW dO sW sH vK aBK aBN (by omega) yJ yG yM zE aAR aA1 aAA zT yL xQ yY yK aAH zY hn46 hn70
    · skip
      have c58 := (zJ _ _).mp c58
      refine And.intro (fun h9 => absurd h9 (by decide)) (fun _ => ?_)
      refine And.intro (aBZ (by omega)) ?_
      intro v59 ev59
      have f60 := zY x3.toNatClampNeg
      have hv59 := congrArg Int32.toInt ev59
      intro v61 ev61
      have f62 := aRJ v59 x2 (by omega)
      have hv61 := congrArg Int32.toInt ev61
      intro v63 ev63
      have f64 := aAQ v61 1 (by omega)
      have f65 := aBx v61 1 (by omega)
      have hv63 := congrArg Int32.toInt ev63
      refine And.intro (fun c66 => ?_) (fun c66 => ?_)
      · skip
        have c66 := mt (zJ _ _).mpr c66
        refine And.intro (fun h9 => absurd h9 (by decide)) (fun _ => ?_)
        exact ts_X10_share_99 bT aG bW qG m_x gR pW qR nG oO pJ qO qQ xJ vZ zQ xU xV aAW xK yR zM xT yF yD xZ zG zI hc0 hc1 hpost hK46 hKn x1 x2 x3 bL bY jD mLn oF rP dQ bZ aR aE bI aW dO sW sH vK aBK aBN (by omega) yJ yG yM zE aAR aA1 aAA zT yL xQ yY yK aAH zY hn46 hn70
      · skip
        have c66 := (zJ _ _).mp c66
        refine And.intro (fun _ => ?_) (fun h9 => absurd h9 (by decide))
        exact ts_X10_share_105 bT aG bW qG m_x gR pW qR nG oO pJ qO qQ xJ vZ zQ xU xV aAW xK yR zM xT yF yD xZ zG zI hc0 hc1 hpost hK46 x1 x2 x3 bL bY jD mLn oF rP dQ bZ aR aE bI aW dO sW sH vK aBK aBN aCH yJ yG yM zE aAR aA1 aAA zT yL xQ yY yK aAH zY hn46
set_option maxHeartbeats 8000000 in
set_option maxRecDepth 200000 in
theorem tb_X10_share_70 {post : Int32 -> Int32 -> Int32 -> Nat -> Int32 -> Int32 -> Int32 -> Int32 -> Int32 -> Int32 -> Int32 -> Int32 -> Int32 -> Int32 -> (Nat -> Int32) -> (Nat -> Int32) -> (Nat -> Int32) -> Prop} {SB : Int} {K46 : Int32 -> Int32 -> Int32 -> Int32 -> Nat -> Int32 -> Int32 -> Int32 -> Int32 -> Int32 -> Int32 -> Int32 -> Int32 -> Int32 -> Int32 -> (Nat -> Int32) -> (Nat -> Int32) -> (Nat -> Int32) -> Prop} {n46 : Int} (bT aG bW : Int32) (qG m_x gR pW qR nG oO pJ qO qQ : Nat -> Int32) (xJ : 0 <= Int32.toInt bT /\ Int32.toInt bT <= 16) (vZ : 0 <= Int32.toInt aG /\ Int32.toInt aG <= 8) (zQ : 0 <= Int32.toInt bW /\ Int32.toInt bW <= 40) (xU : ∀ k : Nat, k = 17 -> -1 <= Int32.toInt (qG k) /\ Int32.toInt (qG k) <= SB) (xV : ∀ k : Nat, k = 19 -> 0 <= Int32.toInt (qG k) /\ Int32.toInt (qG k) <= 9) (aAW : ∀ k : Nat, 0 <= Int32.toInt (m_x k) /\ Int32.toInt (m_x k) <= 99) (xK : ∀ k : Nat, 0 <= Int32.toInt (gR k) /\ Int32.toInt (gR k) <= 99) (yR : ∀ k : Nat, 0 <= Int32.toInt (pW k) /\ Int32.toInt (pW k) <= 9) (zM : ∀ k : Nat, 0 <= Int32.toInt (qR k) /\ Int32.toInt (qR k) <= 9) (xT : ∀ k : Nat, 0 <= Int32.toInt (nG k) /\ Int32.toInt (nG k) <= 99) (yF : ∀ k : Nat, 0 <= Int32.toInt (oO k) /\ Int32.toInt (oO k) <= 99) (yD : ∀ k : Nat, k = 4 -> 1 <= Int32.toInt (pJ k) /\ Int32.toInt (pJ k) <= 30) (xZ : ∀ k : Nat, k = 3 -> 0 <= Int32.toInt (pJ k) /\ Int32.toInt (pJ k) <= 9) (zG : ∀ k : Nat, -128 <= Int32.toInt (qO k) /\ Int32.toInt (qO k) <= 127) (zI : ∀ k : Nat, -128 <= Int32.toInt (qQ k) /\ Int32.toInt (qQ k) <= 127) (hc0 : -1 <= SB /\ SB <= 7) (hc1 : (Int32.toInt aG <= 0 /\ SB = 0) \/ (1 <= Int32.toInt aG /\ SB = Int32.toInt aG - 1)) (hpost : ∀ (r : Int32) (xM : Int32) (xG : Int32) (aAP : Nat) (zS : Int32) (aAz : Int32) (aAm : Int32) (zH : Int32) (aAM : Int32) (zP : Int32) (yO : Int32) (zZ : Int32) (zO : Int32) (aAS : Int32) (aBX : Nat -> Int32) (aA5 : Nat -> Int32) (aGb : Nat -> Int32), (-2147483648 <= Int32.toInt r /\ Int32.toInt r <= 1000000) -> (0 <= Int32.toInt xM /\ Int32.toInt xM <= 16) -> (0 <= Int32.toInt xG /\ Int32.toInt xG <= 0) -> (aAP = 0 \/ aAP = 1 \/ aAP = 2) -> (0 <= Int32.toInt zS /\ Int32.toInt zS <= 80) -> (0 <= Int32.toInt aAz /\ Int32.toInt aAz <= 80) -> (0 <= Int32.toInt aAm /\ Int32.toInt aAm <= 80) -> (-1 <= Int32.toInt zH /\ Int32.toInt zH <= 80) -> (0 <= Int32.toInt aAM /\ Int32.toInt aAM <= 0) -> (0 <= Int32.toInt zP /\ Int32.toInt zP <= 15) -> (0 <= Int32.toInt yO /\ Int32.toInt yO <= 7) -> (0 <= Int32.toInt zZ /\ Int32.toInt zZ <= 1) -> (0 <= Int32.toInt zO /\ Int32.toInt zO <= 63) -> (0 <= Int32.toInt aAS /\ Int32.toInt aAS <= 65535) -> (∀ k : Nat, 0 <= Int32.toInt (aA5 k) /\ Int32.toInt (aA5 k) <= 65535) -> post r xM xG aAP zS aAz aAm zH aAM zP yO zZ zO aAS aBX aA5 aGb) (hK46 : ∀ (x1 : Int32) (x2 : Int32) (bL : Int32) (bY : Int32) (jD : Nat) (mLn : Int32) (oF : Int32) (rP : Int32) (dQ : Int32) (bZ : Int32) (aR : Int32) (aE : Int32) (bI : Int32) (aW : Int32) (dO : Int32) (sW : Nat -> Int32) (sH : Nat -> Int32) (vK : Nat -> Int32), (0 <= Int32.toInt x1 /\ Int32.toInt x1 <= 255) -> (0 <= Int32.toInt x2 /\ Int32.toInt x2 <= 16) -> (0 <= Int32.toInt bL /\ Int32.toInt bL <= 16) -> (0 <= Int32.toInt bY /\ Int32.toInt bY <= 0) -> (jD = 0 \/ jD = 1 \/ jD = 2) -> (0 <= Int32.toInt mLn /\ Int32.toInt mLn <= 80) -> (0 <= Int32.toInt oF /\ Int32.toInt oF <= 80) -> (0 <= Int32.toInt rP /\ Int32.toInt rP <= 80) -> (-1 <= Int32.toInt dQ /\ Int32.toInt dQ <= 80) -> (0 <= Int32.toInt bZ /\ Int32.toInt bZ <= 0) -> (0 <= Int32.toInt aR /\ Int32.toInt aR <= 15) -> (0 <= Int32.toInt aE /\ Int32.toInt aE <= 7) -> (0 <= Int32.toInt bI /\ Int32.toInt bI <= 1) -> (0 <= Int32.toInt aW /\ Int32.toInt aW <= 63) -> (0 <= Int32.toInt dO /\ Int32.toInt dO <= 65535) -> (∀ k : Nat, 0 <= Int32.toInt (sH k) /\ Int32.toInt (sH k) <= 65535) -> (16 - Int32.toInt x2 < n46) -> K46 x1 x2 bL bY jD mLn oF rP dQ bZ aR aE bI aW dO sW sH vK) : ∀ (n : Nat) (x1 x2 x3 bL bY : Int32) (jD : Nat) (mLn oF rP dQ bZ aR aE bI aW dO : Int32) (sW sH vK : Nat -> Int32), (0 <= Int32.toInt x1 /\ Int32.toInt x1 <= 255) -> (0 <= Int32.toInt x2 /\ Int32.toInt x2 <= 15) -> (0 <= Int32.toInt x3 /\ Int32.toInt x3 <= 8) -> (0 <= Int32.toInt bL /\ Int32.toInt bL <= 16) -> (0 <= Int32.toInt bY /\ Int32.toInt bY <= 0) -> (jD = 0 \/ jD = 1 \/ jD = 2) -> (0 <= Int32.toInt mLn /\ Int32.toInt mLn <= 80) -> (0 <= Int32.toInt oF /\ Int32.toInt oF <= 80) -> (0 <= Int32.toInt rP /\ Int32.toInt rP <= 80) -> (-1 <= Int32.toInt dQ /\ Int32.toInt dQ <= 80) -> (0 <= Int32.toInt bZ /\ Int32.toInt bZ <= 0) -> (0 <= Int32.toInt aR /\ Int32.toInt aR <= 15) -> (0 <= Int32.toInt aE /\ Int32.toInt aE <= 7) -> (0 <= Int32.toInt bI /\ Int32.toInt bI <= 1) -> (0 <= Int32.toInt aW /\ Int32.toInt aW <= 63) -> (0 <= Int32.toInt dO /\ Int32.toInt dO <= 65535) -> (∀ k : Nat, 0 <= Int32.toInt (sH k) /\ Int32.toInt (sH k) <= 65535) -> (16 - Int32.toInt x2 <= n46) -> (8 - Int32.toInt x3 < (n : Int)) -> wb_X10_share_70 post K46 bT aG bW qG m_x gR pW qR nG oO pJ qO qQ n x1 x2 x3 bL bY jD mLn oF rP dQ bZ aR aE bI aW dO sW sH vK := by
  intro n
  induction n with
  | zero =>
    intro x1 x2 x3 bL bY jD mLn oF rP dQ bZ aR aE bI aW dO sW sH vK aBK aBN aCH yJ yG yM zE aAR aA1 aAA zT yL xQ yY yK aAH zY hn46 hm
    exfalso; omega
  | succ n ih =>
    intro x1 x2 x3 bL bY jD mLn oF rP dQ bZ aR aE bI aW dO sW sH vK aBK aBN aCH yJ yG yM zE aAR aA1 aAA zT yL xQ yY yK aAH zY hn46 hm
    exact ts_X10_share_70 bT aG bW qG m_x gR pW qR nG oO pJ qO qQ xJ vZ zQ xU xV aAW xK yR zM xT yF yD xZ zG zI hc0 hc1 hpost hK46 ih x1 x2 x3 bL bY jD mLn oF rP dQ bZ aR aE bI aW dO sW sH vK aBK aBN aCH yJ yG yM zE aAR aA1 aAA zT yL xQ yY yK aAH zY hn46 (by omega)
set_option maxHeartbeats 8000000 in
set_option maxRecDepth 200000 in
theorem ts_X10_share_46 {post : Int32 -> Int32 -> Int32 -> Nat -> Int32 -> Int32 -> Int32 -> Int32 -> Int32 -> Int32 -> Int32 -> Int32 -> Int32 -> Int32 -> (Nat -> Int32) -> (Nat -> Int32) -> (Nat -> Int32) -> Prop} {SB : Int} {next : Int32 -> Int32 -> Int32 -> Int32 -> Nat -> Int32 -> Int32 -> Int32 -> Int32 -> Int32 -> Int32 -> Int32 -> Int32 -> Int32 -> Int32 -> (Nat -> Int32) -> (Nat -> Int32) -> (Nat -> Int32) -> Prop} {n46 : Int} (bT aG bW : Int32) (qG m_x gR pW qR nG oO pJ qO qQ : Nat -> Int32) (xJ : 0 <= Int32.toInt bT /\ Int32.toInt bT <= 16) (vZ : 0 <= Int32.toInt aG /\ Int32.toInt aG <= 8) (zQ : 0 <= Int32.toInt bW /\ Int32.toInt bW <= 40) (xU : ∀ k : Nat, k = 17 -> -1 <= Int32.toInt (qG k) /\ Int32.toInt (qG k) <= SB) (xV : ∀ k : Nat, k = 19 -> 0 <= Int32.toInt (qG k) /\ Int32.toInt (qG k) <= 9) (aAW : ∀ k : Nat, 0 <= Int32.toInt (m_x k) /\ Int32.toInt (m_x k) <= 99) (xK : ∀ k : Nat, 0 <= Int32.toInt (gR k) /\ Int32.toInt (gR k) <= 99) (yR : ∀ k : Nat, 0 <= Int32.toInt (pW k) /\ Int32.toInt (pW k) <= 9) (zM : ∀ k : Nat, 0 <= Int32.toInt (qR k) /\ Int32.toInt (qR k) <= 9) (xT : ∀ k : Nat, 0 <= Int32.toInt (nG k) /\ Int32.toInt (nG k) <= 99) (yF : ∀ k : Nat, 0 <= Int32.toInt (oO k) /\ Int32.toInt (oO k) <= 99) (yD : ∀ k : Nat, k = 4 -> 1 <= Int32.toInt (pJ k) /\ Int32.toInt (pJ k) <= 30) (xZ : ∀ k : Nat, k = 3 -> 0 <= Int32.toInt (pJ k) /\ Int32.toInt (pJ k) <= 9) (zG : ∀ k : Nat, -128 <= Int32.toInt (qO k) /\ Int32.toInt (qO k) <= 127) (zI : ∀ k : Nat, -128 <= Int32.toInt (qQ k) /\ Int32.toInt (qQ k) <= 127) (hc0 : -1 <= SB /\ SB <= 7) (hc1 : (Int32.toInt aG <= 0 /\ SB = 0) \/ (1 <= Int32.toInt aG /\ SB = Int32.toInt aG - 1)) (hpost : ∀ (r : Int32) (xM : Int32) (xG : Int32) (aAP : Nat) (zS : Int32) (aAz : Int32) (aAm : Int32) (zH : Int32) (aAM : Int32) (zP : Int32) (yO : Int32) (zZ : Int32) (zO : Int32) (aAS : Int32) (aBX : Nat -> Int32) (aA5 : Nat -> Int32) (aGb : Nat -> Int32), (-2147483648 <= Int32.toInt r /\ Int32.toInt r <= 1000000) -> (0 <= Int32.toInt xM /\ Int32.toInt xM <= 16) -> (0 <= Int32.toInt xG /\ Int32.toInt xG <= 0) -> (aAP = 0 \/ aAP = 1 \/ aAP = 2) -> (0 <= Int32.toInt zS /\ Int32.toInt zS <= 80) -> (0 <= Int32.toInt aAz /\ Int32.toInt aAz <= 80) -> (0 <= Int32.toInt aAm /\ Int32.toInt aAm <= 80) -> (-1 <= Int32.toInt zH /\ Int32.toInt zH <= 80) -> (0 <= Int32.toInt aAM /\ Int32.toInt aAM <= 0) -> (0 <= Int32.toInt zP /\ Int32.toInt zP <= 15) -> (0 <= Int32.toInt yO /\ Int32.toInt yO <= 7) -> (0 <= Int32.toInt zZ /\ Int32.toInt zZ <= 1) -> (0 <= Int32.toInt zO /\ Int32.toInt zO <= 63) -> (0 <= Int32.toInt aAS /\ Int32.toInt aAS <= 65535) -> (∀ k : Nat, 0 <= Int32.toInt (aA5 k) /\ Int32.toInt (aA5 k) <= 65535) -> post r xM xG aAP zS aAz aAm zH aAM zP yO zZ zO aAS aBX aA5 aGb) (hKn : ∀ (x1 : Int32) (x2 : Int32) (bL : Int32) (bY : Int32) (jD : Nat) (mLn : Int32) (oF : Int32) (rP : Int32) (dQ : Int32) (bZ : Int32) (aR : Int32) (aE : Int32) (bI : Int32) (aW : Int32) (dO : Int32) (sW : Nat -> Int32) (sH : Nat -> Int32) (vK : Nat -> Int32), (0 <= Int32.toInt x1 /\ Int32.toInt x1 <= 255) -> (0 <= Int32.toInt x2 /\ Int32.toInt x2 <= 16) -> (0 <= Int32.toInt bL /\ Int32.toInt bL <= 16) -> (0 <= Int32.toInt bY /\ Int32.toInt bY <= 0) -> (jD = 0 \/ jD = 1 \/ jD = 2) -> (0 <= Int32.toInt mLn /\ Int32.toInt mLn <= 80) -> (0 <= Int32.toInt oF /\ Int32.toInt oF <= 80) -> (0 <= Int32.toInt rP /\ Int32.toInt rP <= 80) -> (-1 <= Int32.toInt dQ /\ Int32.toInt dQ <= 80) -> (0 <= Int32.toInt bZ /\ Int32.toInt bZ <= 0) -> (0 <= Int32.toInt aR /\ Int32.toInt aR <= 15) -> (0 <= Int32.toInt aE /\ Int32.toInt aE <= 7) -> (0 <= Int32.toInt bI /\ Int32.toInt bI <= 1) -> (0 <= Int32.toInt aW /\ Int32.toInt aW <= 63) -> (0 <= Int32.toInt dO /\ Int32.toInt dO <= 65535) -> (∀ k : Nat, 0 <= Int32.toInt (sH k) /\ Int32.toInt (sH k) <= 65535) -> (16 - Int32.toInt x2 < n46) -> next x1 x2 bL bY jD mLn oF rP dQ bZ aR aE bI aW dO sW sH vK) (x1 x2 bL bY : Int32) (jD : Nat) (mLn oF rP dQ bZ aR aE bI aW dO : Int32) (sW sH vK : Nat -> Int32) (aBK : 0 <= Int32.toInt x1 /\ Int32.toInt x1 <= 255) (aBN : 0 <= Int32.toInt x2 /\ Int32.toInt x2 <= 16) (yJ : 0 <= Int32.toInt bL /\ Int32.toInt bL <= 16) (yG : 0 <= Int32.toInt bY /\ Int32.toInt bY <= 0) (yM : jD = 0 \/ jD = 1 \/ jD = 2) (zE : 0 <= Int32.toInt mLn /\ Int32.toInt mLn <= 80) (aAR : 0 <= Int32.toInt oF /\ Int32.toInt oF <= 80) (aA1 : 0 <= Int32.toInt rP /\ Int32.toInt rP <= 80) (aAA : -1 <= Int32.toInt dQ /\ Int32.toInt dQ <= 80) (zT : 0 <= Int32.toInt bZ /\ Int32.toInt bZ <= 0) (yL : 0 <= Int32.toInt aR /\ Int32.toInt aR <= 15) (xQ : 0 <= Int32.toInt aE /\ Int32.toInt aE <= 7) (yY : 0 <= Int32.toInt bI /\ Int32.toInt bI <= 1) (yK : 0 <= Int32.toInt aW /\ Int32.toInt aW <= 63) (aAH : 0 <= Int32.toInt dO /\ Int32.toInt dO <= 65535) (zY : ∀ k : Nat, 0 <= Int32.toInt (sH k) /\ Int32.toInt (sH k) <= 65535) (hn46 : 16 - Int32.toInt x2 <= n46) : ws_X10_share_46 post next bT aG bW qG m_x gR pW qR nG oO pJ qO qQ x1 x2 bL bY jD mLn oF rP dQ bZ aR aE bI aW dO sW sH vK := by
  have l0 := aE0
  have l1 := aEc
  have l2 := li_1000000
  refine And.intro (fun c67 => ?_) (fun c67 => ?_)
  · skip
    have c67 := (aAO _ _).mp c67
    exact ⟨258, tb_X10_share_148 bT aG bW qG m_x gR pW qR nG oO pJ qO qQ xJ vZ zQ xU xV aAW xK yR zM xT yF yD xZ zG zI hc0 hc1 hpost _ x1 0 1000000 0 0 bL bY jD mLn oF rP dQ bZ aR aE bI aW dO sW sH vK aBK (by omega) (by omega) (by omega) yJ yG yM zE aAR aA1 aAA zT yL xQ yY yK aAH zY (by omega)⟩
  · skip
    have c67 := mt (aAO _ _).mpr c67
    intro v68 ev68
    have f69 := aRJ dO x2 (by omega)
    have hv68 := congrArg Int32.toInt ev68
    intro v70 ev70
    have f71 := aAQ v68 1 (by omega)
    have f72 := aBx v68 1 (by omega)
    have hv70 := congrArg Int32.toInt ev70
    refine And.intro (fun c73 => ?_) (fun c73 => ?_)
    · skip
      have c73 := mt (zJ _ _).mpr c73
      refine And.intro (fun h9 => absurd h9 (by decide)) (fun _ => ?_)
      exact ts_X10_share_130 bT aG bW qG m_x gR pW qR nG oO pJ qO qQ xJ vZ zQ xU xV aAW xK yR zM xT yF yD xZ zG zI hc0 hc1 hpost hKn x1 x2 bL bY jD mLn oF rP dQ bZ aR aE bI aW dO sW sH vK aBK (by omega) yJ yG yM zE aAR aA1 aAA zT yL xQ yY yK aAH zY hn46
    · skip
      have c73 := (zJ _ _).mp c73
      refine And.intro (fun _ => ?_) (fun h9 => absurd h9 (by decide))
      exact ⟨10, tb_X10_share_70 bT aG bW qG m_x gR pW qR nG oO pJ qO qQ xJ vZ zQ xU xV aAW xK yR zM xT yF yD xZ zG zI hc0 hc1 hpost hKn _ x1 x2 0 bL bY jD mLn oF rP dQ bZ aR aE bI aW dO sW sH vK aBK (by omega) (by omega) yJ yG yM zE aAR aA1 aAA zT yL xQ yY yK aAH zY hn46 (by omega)⟩
set_option maxHeartbeats 8000000 in
set_option maxRecDepth 200000 in
theorem tb_X10_share_46 {post : Int32 -> Int32 -> Int32 -> Nat -> Int32 -> Int32 -> Int32 -> Int32 -> Int32 -> Int32 -> Int32 -> Int32 -> Int32 -> Int32 -> (Nat -> Int32) -> (Nat -> Int32) -> (Nat -> Int32) -> Prop} {SB : Int} (bT aG bW : Int32) (qG m_x gR pW qR nG oO pJ qO qQ : Nat -> Int32) (xJ : 0 <= Int32.toInt bT /\ Int32.toInt bT <= 16) (vZ : 0 <= Int32.toInt aG /\ Int32.toInt aG <= 8) (zQ : 0 <= Int32.toInt bW /\ Int32.toInt bW <= 40) (xU : ∀ k : Nat, k = 17 -> -1 <= Int32.toInt (qG k) /\ Int32.toInt (qG k) <= SB) (xV : ∀ k : Nat, k = 19 -> 0 <= Int32.toInt (qG k) /\ Int32.toInt (qG k) <= 9) (aAW : ∀ k : Nat, 0 <= Int32.toInt (m_x k) /\ Int32.toInt (m_x k) <= 99) (xK : ∀ k : Nat, 0 <= Int32.toInt (gR k) /\ Int32.toInt (gR k) <= 99) (yR : ∀ k : Nat, 0 <= Int32.toInt (pW k) /\ Int32.toInt (pW k) <= 9) (zM : ∀ k : Nat, 0 <= Int32.toInt (qR k) /\ Int32.toInt (qR k) <= 9) (xT : ∀ k : Nat, 0 <= Int32.toInt (nG k) /\ Int32.toInt (nG k) <= 99) (yF : ∀ k : Nat, 0 <= Int32.toInt (oO k) /\ Int32.toInt (oO k) <= 99) (yD : ∀ k : Nat, k = 4 -> 1 <= Int32.toInt (pJ k) /\ Int32.toInt (pJ k) <= 30) (xZ : ∀ k : Nat, k = 3 -> 0 <= Int32.toInt (pJ k) /\ Int32.toInt (pJ k) <= 9) (zG : ∀ k : Nat, -128 <= Int32.toInt (qO k) /\ Int32.toInt (qO k) <= 127) (zI : ∀ k : Nat, -128 <= Int32.toInt (qQ k) /\ Int32.toInt (qQ k) <= 127) (hc0 : -1 <= SB /\ SB <= 7) (hc1 : (Int32.toInt aG <= 0 /\ SB = 0) \/ (1 <= Int32.toInt aG /\ SB = Int32.toInt aG - 1)) (hpost : ∀ (r : Int32) (xM : Int32) (xG : Int32) (aAP : Nat) (zS : Int32) (aAz : Int32) (aAm : Int32) (zH : Int32) (aAM : Int32) (zP : Int32) (yO : Int32) (zZ : Int32) (zO : Int32) (aAS : Int32) (aBX : Nat -> Int32) (aA5 : Nat -> Int32) (aGb : Nat -> Int32), (-2147483648 <= Int32.toInt r /\ Int32.toInt r <= 1000000) -> (0 <= Int32.toInt xM /\ Int32.toInt xM <= 16) -> (0 <= Int32.toInt xG /\ Int32.toInt xG <= 0) -> (aAP = 0 \/ aAP = 1 \/ aAP = 2) -> (0 <= Int32.toInt zS /\ Int32.toInt zS <= 80) -> (0 <= Int32.toInt aAz /\ Int32.toInt aAz <= 80) -> (0 <= Int32.toInt aAm /\ Int32.toInt aAm <= 80) -> (-1 <= Int32.toInt zH /\ Int32.toInt zH <= 80) -> (0 <= Int32.toInt aAM /\ Int32.toInt aAM <= 0) -> (0 <= Int32.toInt zP /\ Int32.toInt zP <= 15) -> (0 <= Int32.toInt yO /\ Int32.toInt yO <= 7) -> (0 <= Int32.toInt zZ /\ Int32.toInt zZ <= 1) -> (0 <= Int32.toInt zO /\ Int32.toInt zO <= 63) -> (0 <= Int32.toInt aAS /\ Int32.toInt aAS <= 65535) -> (∀ k : Nat, 0 <= Int32.toInt (aA5 k) /\ Int32.toInt (aA5 k) <= 65535) -> post r xM xG aAP zS aAz aAm zH aAM zP yO zZ zO aAS aBX aA5 aGb) : ∀ (n : Nat) (x1 x2 bL bY : Int32) (jD : Nat) (mLn oF rP dQ bZ aR aE bI aW dO : Int32) (sW sH vK : Nat -> Int32), (0 <= Int32.toInt x1 /\ Int32.toInt x1 <= 255) -> (0 <= Int32.toInt x2 /\ Int32.toInt x2 <= 16) -> (0 <= Int32.toInt bL /\ Int32.toInt bL <= 16) -> (0 <= Int32.toInt bY /\ Int32.toInt bY <= 0) -> (jD = 0 \/ jD = 1 \/ jD = 2) -> (0 <= Int32.toInt mLn /\ Int32.toInt mLn <= 80) -> (0 <= Int32.toInt oF /\ Int32.toInt oF <= 80) -> (0 <= Int32.toInt rP /\ Int32.toInt rP <= 80) -> (-1 <= Int32.toInt dQ /\ Int32.toInt dQ <= 80) -> (0 <= Int32.toInt bZ /\ Int32.toInt bZ <= 0) -> (0 <= Int32.toInt aR /\ Int32.toInt aR <= 15) -> (0 <= Int32.toInt aE /\ Int32.toInt aE <= 7) -> (0 <= Int32.toInt bI /\ Int32.toInt bI <= 1) -> (0 <= Int32.toInt aW /\ Int32.toInt aW <= 63) -> (0 <= Int32.toInt dO /\ Int32.toInt dO <= 65535) -> (∀ k : Nat, 0 <= Int32.toInt (sH k) /\ Int32.toInt (sH k) <= 65535) -> (16 - Int32.toInt x2 < (n : Int)) -> wb_X10_share_46 post bT aG bW qG m_x gR pW qR nG oO pJ qO qQ n x1 x2 bL bY jD mLn oF rP dQ bZ aR aE bI aW dO sW sH vK := by
  intro n
  induction n with
  | zero =>
    intro x1 x2 bL bY jD mLn oF rP dQ bZ aR aE bI aW dO sW sH vK aBK aBN yJ yG yM zE aAR aA1 aAA zT yL xQ yY yK aAH zY hm
    exfalso; omega
  | succ n ih =>
    intro x1 x2 bL bY jD mLn oF rP dQ bZ aR aE bI aW dO sW sH vK aBK aBN yJ yG yM zE aAR aA1 aAA zT yL xQ yY yK aAH zY hm
    exact ts_X10_share_46 bT aG bW qG m_x gR pW qR nG oO pJ qO qQ xJ vZ zQ xU xV aAW xK yR zM xT yF yD xZ zG zI hc0 hc1 hpost ih x1 x2 bL bY jD mLn oF rP dQ bZ aR aE bI aW dO sW sH vK aBK aBN yJ yG yM zE aAR aA1 aAA zT yL xQ yY yK aAH zY (by omega)
set_option maxHeartbeats 8000000 in
set_option maxRecDepth 200000 in
theorem ts_X10_share_25 {post : Int32 -> Int32 -> Int32 -> Nat -> Int32 -> Int32 -> Int32 -> Int32 -> Int32 -> Int32 -> Int32 -> Int32 -> Int32 -> Int32 -> (Nat -> Int32) -> (Nat -> Int32) -> (Nat -> Int32) -> Prop} {SB : Int} {next : Int32 -> Int32 -> Int32 -> Int32 -> Nat -> Int32 -> Int32 -> Int32 -> Int32 -> Int32 -> Int32 -> Int32 -> Int32 -> Int32 -> Int32 -> (Nat -> Int32) -> (Nat -> Int32) -> (Nat -> Int32) -> Prop} {n25 : Int} (bT aG bW : Int32) (qG m_x gR pW qR nG oO pJ qO qQ : Nat -> Int32) (xJ : 0 <= Int32.toInt bT /\ Int32.toInt bT <= 16) (vZ : 0 <= Int32.toInt aG /\ Int32.toInt aG <= 8) (zQ : 0 <= Int32.toInt bW /\ Int32.toInt bW <= 40) (xU : ∀ k : Nat, k = 17 -> -1 <= Int32.toInt (qG k) /\ Int32.toInt (qG k) <= SB) (xV : ∀ k : Nat, k = 19 -> 0 <= Int32.toInt (qG k) /\ Int32.toInt (qG k) <= 9) (aAW : ∀ k : Nat, 0 <= Int32.toInt (m_x k) /\ Int32.toInt (m_x k) <= 99) (xK : ∀ k : Nat, 0 <= Int32.toInt (gR k) /\ Int32.toInt (gR k) <= 99) (yR : ∀ k : Nat, 0 <= Int32.toInt (pW k) /\ Int32.toInt (pW k) <= 9) (zM : ∀ k : Nat, 0 <= Int32.toInt (qR k) /\ Int32.toInt (qR k) <= 9) (xT : ∀ k : Nat, 0 <= Int32.toInt (nG k) /\ Int32.toInt (nG k) <= 99) (yF : ∀ k : Nat, 0 <= Int32.toInt (oO k) /\ Int32.toInt (oO k) <= 99) (yD : ∀ k : Nat, k = 4 -> 1 <= Int32.toInt (pJ k) /\ Int32.toInt (pJ k) <= 30) (xZ : ∀ k : Nat, k = 3 -> 0 <= Int32.toInt (pJ k) /\ Int32.toInt (pJ k) <= 9) (zG : ∀ k : Nat, -128 <= Int32.toInt (qO k) /\ Int32.toInt (qO k) <= 127) (zI : ∀ k : Nat, -128 <= Int32.toInt (qQ k) /\ Int32.toInt (qQ k) <= 127) (hc0 : -1 <= SB /\ SB <= 7) (hc1 : (Int32.toInt aG <= 0 /\ SB = 0) \/ (1 <= Int32.toInt aG /\ SB = Int32.toInt aG - 1)) (hpost : ∀ (r : Int32) (xM : Int32) (xG : Int32) (aAP : Nat) (zS : Int32) (aAz : Int32) (aAm : Int32) (zH : Int32) (aAM : Int32) (zP : Int32) (yO : Int32) (zZ : Int32) (zO : Int32) (aAS : Int32) (aBX : Nat -> Int32) (aA5 : Nat -> Int32) (aGb : Nat -> Int32), (-2147483648 <= Int32.toInt r /\ Int32.toInt r <= 1000000) -> (0 <= Int32.toInt xM /\ Int32.toInt xM <= 16) -> (0 <= Int32.toInt xG /\ Int32.toInt xG <= 0) -> (aAP = 0 \/ aAP = 1 \/ aAP = 2) -> (0 <= Int32.toInt zS /\ Int32.toInt zS <= 80) -> (0 <= Int32.toInt aAz /\ Int32.toInt aAz <= 80) -> (0 <= Int32.toInt aAm /\ Int32.toInt aAm <= 80) -> (-1 <= Int32.toInt zH /\ Int32.toInt zH <= 80) -> (0 <= Int32.toInt aAM /\ Int32.toInt aAM <= 0) -> (0 <= Int32.toInt zP /\ Int32.toInt zP <= 15) -> (0 <= Int32.toInt yO /\ Int32.toInt yO <= 7) -> (0 <= Int32.toInt zZ /\ Int32.toInt zZ <= 1) -> (0 <= Int32.toInt zO /\ Int32.toInt zO <= 63) -> (0 <= Int32.toInt aAS /\ Int32.toInt aAS <= 65535) -> (∀ k : Nat, 0 <= Int32.toInt (aA5 k) /\ Int32.toInt (aA5 k) <= 65535) -> post r xM xG aAP zS aAz aAm zH aAM zP yO zZ zO aAS aBX aA5 aGb) (hKn : ∀ (x1 : Int32) (x2 : Int32) (bL : Int32) (bY : Int32) (jD : Nat) (mLn : Int32) (oF : Int32) (rP : Int32) (dQ : Int32) (bZ : Int32) (aR : Int32) (aE : Int32) (bI : Int32) (aW : Int32) (dO : Int32) (sW : Nat -> Int32) (sH : Nat -> Int32) (vK : Nat -> Int32), (0 <= Int32.toInt x1 /\ Int32.toInt x1 <= 255) -> (0 <= Int32.toInt x2 /\ Int32.toInt x2 <= 8) -> (0 <= Int32.toInt bL /\ Int32.toInt bL <= 16) -> (0 <= Int32.toInt bY /\ Int32.toInt bY <= 0) -> (jD = 0 \/ jD = 1 \/ jD = 2) -> (0 <= Int32.toInt mLn /\ Int32.toInt mLn <= 80) -> (0 <= Int32.toInt oF /\ Int32.toInt oF <= 80) -> (0 <= Int32.toInt rP /\ Int32.toInt rP <= 80) -> (-1 <= Int32.toInt dQ /\ Int32.toInt dQ <= 80) -> (0 <= Int32.toInt bZ /\ Int32.toInt bZ <= 0) -> (0 <= Int32.toInt aR /\ Int32.toInt aR <= 15) -> (0 <= Int32.toInt aE /\ Int32.toInt aE <= 7) -> (0 <= Int32.toInt bI /\ Int32.toInt bI <= 1) -> (0 <= Int32.toInt aW /\ Int32.toInt aW <= 63) -> (0 <= Int32.toInt dO /\ Int32.toInt dO <= 65535) -> (∀ k : Nat, 0 <= Int32.toInt (sH k) /\ Int32.toInt (sH k) <= 65535) -> (8 - Int32.toInt x2 < n25) -> next x1 x2 bL bY jD mLn oF rP dQ bZ aR aE bI aW dO sW sH vK) (x1 x2 bL bY : Int32) (jD : Nat) (mLn oF rP dQ bZ aR aE bI aW dO : Int32) (sW sH vK : Nat -> Int32) (aBK : 0 <= Int32.toInt x1 /\ Int32.toInt x1 <= 255) (aBN : 0 <= Int32.toInt x2 /\ Int32.toInt x2 <= 8) (yJ : 0 <= Int32.toInt bL /\ Int32.toInt bL <= 16) (yG : 0 <= Int32.toInt bY /\ Int32.toInt bY <= 0) (yM : jD = 0 \/ jD = 1 \/ jD = 2) (zE : 0 <= Int32.toInt mLn /\ Int32.toInt mLn <= 80) (aAR : 0 <= Int32.toInt oF /\ Int32.toInt oF <= 80) (aA1 : 0 <= Int32.toInt rP /\ Int32.toInt rP <= 80) (aAA : -1 <= Int32.toInt dQ /\ Int32.toInt dQ <= 80) (zT : 0 <= Int32.toInt bZ /\ Int32.toInt bZ <= 0) (yL : 0 <= Int32.toInt aR /\ Int32.toInt aR <= 15) (xQ : 0 <= Int32.toInt aE /\ Int32.toInt aE <= 7) (yY : 0 <= Int32.toInt bI /\ Int32.toInt bI <= 1) (yK : 0 <= Int32.toInt aW /\ Int32.toInt aW <= 63) (aAH : 0 <= Int32.toInt dO /\ Int32.toInt dO <= 65535) (zY : ∀ k : Nat, 0 <= Int32.toInt (sH k) /\ Int32.toInt (sH k) <= 65535) (hn25 : 8 - Int32.toInt x2 <= n25) : ws_X10_share_25 post next bT aG bW qG m_x gR pW qR nG oO pJ qO qQ x1 x2 bL bY jD mLn oF rP dQ bZ aR aE bI aW dO sW sH vK := by
  have l0 := aE0
  have l1 := aEc
  have l2 := li_8
  refine And.intro (fun c74 => ?_) (fun c74 => ?_)
  · skip
    have c74 := (aAO _ _).mp c74
    exact ⟨18, tb_X10_share_46 bT aG bW qG m_x gR pW qR nG oO pJ qO qQ xJ vZ zQ xU xV aAW xK yR zM xT yF yD xZ zG zI hc0 hc1 hpost _ x1 0 bL bY jD mLn oF rP dQ bZ aR aE bI aW dO sW sH vK aBK (by omega) yJ yG yM zE aAR aA1 aAA zT yL xQ yY yK aAH zY (by omega)⟩
  · skip
    have c74 := mt (aAO _ _).mpr c74
    refine And.intro (aBZ (by omega)) ?_
    intro v75 ev75
    have f76 : Int32.toInt (x2 + 1) = Int32.toInt x2 + Int32.toInt (1 : Int32) := aAD _ _ (by omega)
    rw [<- ev75] at f76
    exact hKn x1 v75 bL bY jD mLn oF rP dQ bZ aR aE bI aW dO sW sH (upd vK x2.toNatClampNeg 0) aBK (by omega) yJ yG yM zE aAR aA1 aAA zT yL xQ yY yK aAH zY (by omega)
set_option maxHeartbeats 8000000 in
set_option maxRecDepth 200000 in
theorem tb_X10_share_25 {post : Int32 -> Int32 -> Int32 -> Nat -> Int32 -> Int32 -> Int32 -> Int32 -> Int32 -> Int32 -> Int32 -> Int32 -> Int32 -> Int32 -> (Nat -> Int32) -> (Nat -> Int32) -> (Nat -> Int32) -> Prop} {SB : Int} (bT aG bW : Int32) (qG m_x gR pW qR nG oO pJ qO qQ : Nat -> Int32) (xJ : 0 <= Int32.toInt bT /\ Int32.toInt bT <= 16) (vZ : 0 <= Int32.toInt aG /\ Int32.toInt aG <= 8) (zQ : 0 <= Int32.toInt bW /\ Int32.toInt bW <= 40) (xU : ∀ k : Nat, k = 17 -> -1 <= Int32.toInt (qG k) /\ Int32.toInt (qG k) <= SB) (xV : ∀ k : Nat, k = 19 -> 0 <= Int32.toInt (qG k) /\ Int32.toInt (qG k) <= 9) (aAW : ∀ k : Nat, 0 <= Int32.toInt (m_x k) /\ Int32.toInt (m_x k) <= 99) (xK : ∀ k : Nat, 0 <= Int32.toInt (gR k) /\ Int32.toInt (gR k) <= 99) (yR : ∀ k : Nat, 0 <= Int32.toInt (pW k) /\ Int32.toInt (pW k) <= 9) (zM : ∀ k : Nat, 0 <= Int32.toInt (qR k) /\ Int32.toInt (qR k) <= 9) (xT : ∀ k : Nat, 0 <= Int32.toInt (nG k) /\ Int32.toInt (nG k) <= 99) (yF : ∀ k : Nat, 0 <= Int32.toInt (oO k) /\ Int32.toInt (oO k) <= 99) (yD : ∀ k : Nat, k = 4 -> 1 <= Int32.toInt (pJ k) /\ Int32.toInt (pJ k) <= 30) (xZ : ∀ k : Nat, k = 3 -> 0 <= Int32.toInt (pJ k) /\ Int32.toInt (pJ k) <= 9) (zG : ∀ k : Nat, -128 <= Int32.toInt (qO k) /\ Int32.toInt (qO k) <= 127) (zI : ∀ k : Nat, -128 <= Int32.toInt (qQ k) /\ Int32.toInt (qQ k) <= 127) (hc0 : -1 <= SB /\ SB <= 7) (hc1 : (Int32.toInt aG <= 0 /\ SB = 0) \/ (1 <= Int32.toInt aG /\ SB = Int32.toInt aG - 1)) (hpost : ∀ (r : Int32) (xM : Int32) (xG : Int32) (aAP : Nat) (zS : Int32) (aAz : Int32) (aAm : Int32) (zH : Int32) (aAM : Int32) (zP : Int32) (yO : Int32) (zZ : Int32) (zO : Int32) (aAS : Int32) (aBX : Nat -> Int32) (aA5 : Nat -> Int32) (aGb : Nat -> Int32), (-2147483648 <= Int32.toInt r /\ Int32.toInt r <= 1000000) -> (0 <= Int32.toInt xM /\ Int32.toInt xM <= 16) -> (0 <= Int32.toInt xG /\ Int32.toInt xG <= 0) -> (aAP = 0 \/ aAP = 1 \/ aAP = 2) -> (0 <= Int32.toInt zS /\ Int32.toInt zS <= 80) -> (0 <= Int32.toInt aAz /\ Int32.toInt aAz <= 80) -> (0 <= Int32.toInt aAm /\ Int32.toInt aAm <= 80) -> (-1 <= Int32.toInt zH /\ Int32.toInt zH <= 80) -> (0 <= Int32.toInt aAM /\ Int32.toInt aAM <= 0) -> (0 <= Int32.toInt zP /\ Int32.toInt zP <= 15) -> (0 <= Int32.toInt yO /\ Int32.toInt yO <= 7) -> (0 <= Int32.toInt zZ /\ Int32.toInt zZ <= 1) -> (0 <= Int32.toInt zO /\ Int32.toInt zO <= 63) -> (0 <= Int32.toInt aAS /\ Int32.toInt aAS <= 65535) -> (∀ k : Nat, 0 <= Int32.toInt (aA5 k) /\ Int32.toInt (aA5 k) <= 65535) -> post r xM xG aAP zS aAz aAm zH aAM zP yO zZ zO aAS aBX aA5 aGb) : ∀ (n : Nat) (x1 x2 bL bY : Int32) (jD : Nat) (mLn oF rP dQ bZ aR aE bI aW dO : Int32) (sW sH vK : Nat -> Int32), (0 <= Int32.toInt x1 /\ Int32.toInt x1 <= 255) -> (0 <= Int32.toInt x2 /\ Int32.toInt x2 <= 8) -> (0 <= Int32.toInt bL /\ Int32.toInt bL <= 16) -> (0 <= Int32.toInt bY /\ Int32.toInt bY <= 0) -> (jD = 0 \/ jD = 1 \/ jD = 2) -> (0 <= Int32.toInt mLn /\ Int32.toInt mLn <= 80) -> (0 <= Int32.toInt oF /\ Int32.toInt oF <= 80) -> (0 <= Int32.toInt rP /\ Int32.toInt rP <= 80) -> (-1 <= Int32.toInt dQ /\ Int32.toInt dQ <= 80) -> (0 <= Int32.toInt bZ /\ Int32.toInt bZ <= 0) -> (0 <= Int32.toInt aR /\ Int32.toInt aR <= 15) -> (0 <= Int32.toInt aE /\ Int32.toInt aE <= 7) -> (0 <= Int32.toInt bI /\ Int32.toInt bI <= 1) -> (0 <= Int32.toInt aW /\ Int32.toInt aW <= 63) -> (0 <= Int32.toInt dO /\ Int32.toInt dO <= 65535) -> (∀ k : Nat, 0 <= Int32.toInt (sH k) /\ Int32.toInt (sH k) <= 65535) -> (8 - Int32.toInt x2 < (n : Int)) -> wb_X10_share_25 post bT aG bW qG m_x gR pW qR nG oO pJ qO qQ n x1 x2 bL bY jD mLn oF rP dQ bZ aR aE bI aW dO sW sH vK := by
  intro n
  induction n with
  | zero =>
    intro x1 x2 bL bY jD mLn oF rP dQ bZ aR aE bI aW dO sW sH vK aBK aBN yJ yG yM zE aAR aA1 aAA zT yL xQ yY yK aAH zY hm
    exfalso; omega
  | succ n ih =>
    intro x1 x2 bL bY jD mLn oF rP dQ bZ aR aE bI aW dO sW sH vK aBK aBN yJ yG yM zE aAR aA1 aAA zT yL xQ yY yK aAH zY hm
    exact ts_X10_share_25 bT aG bW qG m_x gR pW qR nG oO pJ qO qQ xJ vZ zQ xU xV aAW xK yR zM xT yF yD xZ zG zI hc0 hc1 hpost ih x1 x2 bL bY jD mLn oF rP dQ bZ aR aE bI aW dO sW sH vK aBK aBN yJ yG yM zE aAR aA1 aAA zT yL xQ yY yK aAH zY (by omega)
set_option maxHeartbeats 8000000 in
set_option maxRecDepth 200000 in
theorem t_X10_share {post : Int32 -> Int32 -> Int32 -> Nat -> Int32 -> Int32 -> Int32 -> Int32 -> Int32 -> Int32 -> Int32 -> Int32 -> Int32 -> Int32 -> (Nat -> Int32) -> (Nat -> Int32) -> (Nat -> Int32) -> Prop} {SB : Int} {p0 bT aG bL bY : Int32} {jD : Nat} {mLn oF rP dQ bW bZ aR aE bI aW dO : Int32} {qG m_x gR pW qR nG oO pJ qO sW qQ sH vK : Nat -> Int32} (xJ : 0 <= Int32.toInt bT /\ Int32.toInt bT <= 16) (vZ : 0 <= Int32.toInt aG /\ Int32.toInt aG <= 8) (yJ : 0 <= Int32.toInt bL /\ Int32.toInt bL <= 16) (yG : 0 <= Int32.toInt bY /\ Int32.toInt bY <= 1) (yM : jD = 0 \/ jD = 1 \/ jD = 2) (zE : 0 <= Int32.toInt mLn /\ Int32.toInt mLn <= 80) (aAR : 0 <= Int32.toInt oF /\ Int32.toInt oF <= 80) (aA1 : 0 <= Int32.toInt rP /\ Int32.toInt rP <= 80) (aAA : -1 <= Int32.toInt dQ /\ Int32.toInt dQ <= 80) (zQ : 0 <= Int32.toInt bW /\ Int32.toInt bW <= 40) (zT : 0 <= Int32.toInt bZ /\ Int32.toInt bZ <= 0) (yL : 0 <= Int32.toInt aR /\ Int32.toInt aR <= 15) (xQ : 0 <= Int32.toInt aE /\ Int32.toInt aE <= 7) (yY : 0 <= Int32.toInt bI /\ Int32.toInt bI <= 1) (yK : 0 <= Int32.toInt aW /\ Int32.toInt aW <= 63) (aAH : 0 <= Int32.toInt dO /\ Int32.toInt dO <= 65535) (xU : ∀ k : Nat, k = 17 -> -1 <= Int32.toInt (qG k) /\ Int32.toInt (qG k) <= SB) (xV : ∀ k : Nat, k = 19 -> 0 <= Int32.toInt (qG k) /\ Int32.toInt (qG k) <= 9) (aAW : ∀ k : Nat, 0 <= Int32.toInt (m_x k) /\ Int32.toInt (m_x k) <= 99) (xK : ∀ k : Nat, 0 <= Int32.toInt (gR k) /\ Int32.toInt (gR k) <= 99) (yR : ∀ k : Nat, 0 <= Int32.toInt (pW k) /\ Int32.toInt (pW k) <= 9) (zM : ∀ k : Nat, 0 <= Int32.toInt (qR k) /\ Int32.toInt (qR k) <= 9) (xT : ∀ k : Nat, 0 <= Int32.toInt (nG k) /\ Int32.toInt (nG k) <= 99) (yF : ∀ k : Nat, 0 <= Int32.toInt (oO k) /\ Int32.toInt (oO k) <= 99) (yD : ∀ k : Nat, k = 4 -> 1 <= Int32.toInt (pJ k) /\ Int32.toInt (pJ k) <= 30) (xZ : ∀ k : Nat, k = 3 -> 0 <= Int32.toInt (pJ k) /\ Int32.toInt (pJ k) <= 9) (zG : ∀ k : Nat, -128 <= Int32.toInt (qO k) /\ Int32.toInt (qO k) <= 127) (zI : ∀ k : Nat, -128 <= Int32.toInt (qQ k) /\ Int32.toInt (qQ k) <= 127) (zY : ∀ k : Nat, 0 <= Int32.toInt (sH k) /\ Int32.toInt (sH k) <= 65535) (hc0 : -1 <= SB /\ SB <= 7) (hc1 : (Int32.toInt aG <= 0 /\ SB = 0) \/ (1 <= Int32.toInt aG /\ SB = Int32.toInt aG - 1)) (hpost : ∀ (r : Int32) (xM : Int32) (xG : Int32) (aAP : Nat) (zS : Int32) (aAz : Int32) (aAm : Int32) (zH : Int32) (aAM : Int32) (zP : Int32) (yO : Int32) (zZ : Int32) (zO : Int32) (aAS : Int32) (aBX : Nat -> Int32) (aA5 : Nat -> Int32) (aGb : Nat -> Int32), (-2147483648 <= Int32.toInt r /\ Int32.toInt r <= 1000000) -> (0 <= Int32.toInt xM /\ Int32.toInt xM <= 16) -> (0 <= Int32.toInt xG /\ Int32.toInt xG <= 0) -> (aAP = 0 \/ aAP = 1 \/ aAP = 2) -> (0 <= Int32.toInt zS /\ Int32.toInt zS <= 80) -> (0 <= Int32.toInt aAz /\ Int32.toInt aAz <= 80) -> (0 <= Int32.toInt aAm /\ Int32.toInt aAm <= 80) -> (-1 <= Int32.toInt zH /\ Int32.toInt zH <= 80) -> (0 <= Int32.toInt aAM /\ Int32.toInt aAM <= 0) -> (0 <= Int32.toInt zP /\ Int32.toInt zP <= 15) -> (0 <= Int32.toInt yO /\ Int32.toInt yO <= 7) -> (0 <= Int32.toInt zZ /\ Int32.toInt zZ <= 1) -> (0 <= Int32.toInt zO /\ Int32.toInt zO <= 63) -> (0 <= Int32.toInt aAS /\ Int32.toInt aAS <= 65535) -> (∀ k : Nat, 0 <= Int32.toInt (aA5 k) /\ Int32.toInt (aA5 k) <= 65535) -> post r xM xG aAP zS aAz aAm zH aAM zP yO zZ zO aAS aBX aA5 aGb) : wp_X10_share post p0 bT aG bL bY jD mLn oF rP dQ bW bZ aR aE bI aW dO qG m_x gR pW qR nG oO pJ qO sW qQ sH vK := by
  have l0 := aI2
  have l1 := aE0
  have l2 := aEc
  have l3 := li_18
  intro v77 ev77
  have f78 := aDv 8 256 aG (by decide) (by omega)
  have hv77 := congrArg Int32.toInt ev77
  have f80 := aAT p0
  refine And.intro (fun c79 => ?_) (fun c79 => ?_)
  · skip
    have c79 := (aAd _ _).mp c79
    refine And.intro (fun h9 => absurd h9 (by decide)) (fun _ => ?_)
    exact hpost _ _ _ _ _ _ _ _ _ _ _ _ _ _ _ _ _ (by omega) yJ (by omega) yM zE aAR aA1 aAA zT yL xQ yY yK aAH zY
  · skip
    have c79 := mt (aAd _ _).mpr c79
    have f82 : Int32.toInt (v77 - 1) = Int32.toInt v77 - Int32.toInt (1 : Int32) := aCA _ _ (by omega)
    refine And.intro (fun c81 => ?_) (fun c81 => ?_)
    · skip
      have c81 := (aAd _ _).mp c81
      refine And.intro (fun h9 => absurd h9 (by decide)) (fun _ => ?_)
      exact hpost _ _ _ _ _ _ _ _ _ _ _ _ _ _ _ _ _ (by omega) yJ (by omega) yM zE aAR aA1 aAA zT yL xQ yY yK aAH zY
    · skip
      have c81 := mt (aAd _ _).mpr c81
      refine And.intro (fun _ => ?_) (fun h9 => absurd h9 (by decide))
      intro v83 ev83
      have hv83 := congrArg Int32.toInt ev83
      refine aLb xJ vZ aAH xU xV aAW xK zM xT yF yD xZ zY (by omega) (by omega) (fun m_wanted_85 m_hand_86 h_m_wanted_85 h_m_hand_86 => ?_)
      exact ⟨10, tb_X10_share_25 bT aG bW qG m_x gR pW qR nG oO pJ qO qQ xJ vZ zQ xU xV aAW xK yR zM xT yF yD xZ zG zI hc0 hc1 hpost _ p0 0 bL 0 jD mLn oF rP dQ bZ aR aE bI aW m_wanted_85 sW m_hand_86 vK (by omega) (by omega) yJ (by omega) yM zE aAR aA1 aAA zT yL xQ yY yK h_m_wanted_85 h_m_hand_86 (by omega)⟩
set_option maxHeartbeats 8000000 in
set_option maxRecDepth 200000 in
theorem ts_X10_ripens_57 {post : Int32 -> Int32 -> Int32 -> Int32 -> (Nat -> Int32) -> (Nat -> Int32) -> Prop} {SB : Int} {K27 : Int32 -> Int32 -> Int32 -> Int32 -> Int32 -> Int32 -> (Nat -> Int32) -> (Nat -> Int32) -> Prop} {n27 : Int} (bT aG : Int32) (qG m_x gR qR nG oO pJ : Nat -> Int32) (xJ : 0 <= Int32.toInt bT /\ Int32.toInt bT <= 16) (vZ : 0 <= Int32.toInt aG /\ Int32.toInt aG <= 8) (xU : ∀ k : Nat, k = 17 -> -1 <= Int32.toInt (qG k) /\ Int32.toInt (qG k) <= SB) (xV : ∀ k : Nat, k = 19 -> 0 <= Int32.toInt (qG k) /\ Int32.toInt (qG k) <= 9) (aAW : ∀ k : Nat, 0 <= Int32.toInt (m_x k) /\ Int32.toInt (m_x k) <= 99) (xK : ∀ k : Nat, 0 <= Int32.toInt (gR k) /\ Int32.toInt (gR k) <= 99) (zM : ∀ k : Nat, 0 <= Int32.toInt (qR k) /\ Int32.toInt (qR k) <= 9) (xT : ∀ k : Nat, 0 <= Int32.toInt (nG k) /\ Int32.toInt (nG k) <= 99) (yF : ∀ k : Nat, 0 <= Int32.toInt (oO k) /\ Int32.toInt (oO k) <= 99) (yD : ∀ k : Nat, k = 4 -> 1 <= Int32.toInt (pJ k) /\ Int32.toInt (pJ k) <= 30) (xZ : ∀ k : Nat, k = 3 -> 0 <= Int32.toInt (pJ k) /\ Int32.toInt (pJ k) <= 9) (hc0 : -1 <= SB /\ SB <= 7) (hc1 : (Int32.toInt aG <= 0 /\ SB = 0) \/ (1 <= Int32.toInt aG /\ SB = Int32.toInt aG - 1)) (hpost : ∀ (r : Int32) (xM : Int32) (xG : Int32) (aAS : Int32) (aBX : Nat -> Int32) (aA5 : Nat -> Int32), (-1 <= Int32.toInt r /\ Int32.toInt r <= 63) -> (2 <= Int32.toInt xM /\ Int32.toInt xM <= 2) -> (0 <= Int32.toInt xG /\ Int32.toInt xG <= 0) -> (0 <= Int32.toInt aAS /\ Int32.toInt aAS <= 65535) -> (∀ k : Nat, 0 <= Int32.toInt (aA5 k) /\ Int32.toInt (aA5 k) <= 65535) -> post r xM xG aAS aBX aA5) (hK27 : ∀ (x1 : Int32) (x2 : Int32) (x3 : Int32) (bL : Int32) (bY : Int32) (dO : Int32) (sW : Nat -> Int32) (sH : Nat -> Int32), (-1 <= Int32.toInt x1 /\ Int32.toInt x1 <= 63) -> (0 <= Int32.toInt x2 /\ Int32.toInt x2 <= 9) -> (0 <= Int32.toInt x3 /\ Int32.toInt x3 <= 10) -> (0 <= Int32.toInt bL /\ Int32.toInt bL <= 16) -> (0 <= Int32.toInt bY /\ Int32.toInt bY <= 0) -> (0 <= Int32.toInt dO /\ Int32.toInt dO <= 65535) -> (∀ k : Nat, 0 <= Int32.toInt (sH k) /\ Int32.toInt (sH k) <= 65535) -> (10 - Int32.toInt x3 < n27) -> K27 x1 x2 x3 bL bY dO sW sH) (x1 x2 x3 bL bY dO : Int32) (sW sH : Nat -> Int32) (aBK : 0 <= Int32.toInt x1 /\ Int32.toInt x1 <= 63) (aBN : 0 <= Int32.toInt x2 /\ Int32.toInt x2 <= 9) (aCH : 0 <= Int32.toInt x3 /\ Int32.toInt x3 <= 9) (yJ : 0 <= Int32.toInt bL /\ Int32.toInt bL <= 16) (yG : 0 <= Int32.toInt bY /\ Int32.toInt bY <= 0) (aAH : 0 <= Int32.toInt dO /\ Int32.toInt dO <= 65535) (zY : ∀ k : Nat, 0 <= Int32.toInt (sH k) /\ Int32.toInt (sH k) <= 65535) (hn27 : 10 - Int32.toInt x3 <= n27) : ws_X10_ripens_57 post K27 bT aG qG m_x gR qR nG oO pJ x1 x2 x3 bL bY dO sW sH := by
  have l0 := aEc
  intro v1 ev1
  have f2 : Int32.toInt (x3 + 1) = Int32.toInt x3 + Int32.toInt (1 : Int32) := aAD _ _ (by omega)
  rw [<- ev1] at f2
  exact hK27 x1 x2 v1 bL bY dO sW sH (by omega) aBN (by omega) yJ yG aAH zY (by omega)
set_option maxHeartbeats 8000000 in
set_option maxRecDepth 200000 in
theorem ts_X10_ripens_27 {post : Int32 -> Int32 -> Int32 -> Int32 -> (Nat -> Int32) -> (Nat -> Int32) -> Prop} {SB : Int} {next : Int32 -> Int32 -> Int32 -> Int32 -> Int32 -> Int32 -> (Nat -> Int32) -> (Nat -> Int32) -> Prop} {n27 : Int} (bT aG : Int32) (qG m_x gR qR nG oO pJ : Nat -> Int32) (xJ : 0 <= Int32.toInt bT /\ Int32.toInt bT <= 16) (vZ : 0 <= Int32.toInt aG /\ Int32.toInt aG <= 8) (xU : ∀ k : Nat, k = 17 -> -1 <= Int32.toInt (qG k) /\ Int32.toInt (qG k) <= SB) (xV : ∀ k : Nat, k = 19 -> 0 <= Int32.toInt (qG k) /\ Int32.toInt (qG k) <= 9) (aAW : ∀ k : Nat, 0 <= Int32.toInt (m_x k) /\ Int32.toInt (m_x k) <= 99) (xK : ∀ k : Nat, 0 <= Int32.toInt (gR k) /\ Int32.toInt (gR k) <= 99) (zM : ∀ k : Nat, 0 <= Int32.toInt (qR k) /\ Int32.toInt (qR k) <= 9) (xT : ∀ k : Nat, 0 <= Int32.toInt (nG k) /\ Int32.toInt (nG k) <= 99) (yF : ∀ k : Nat, 0 <= Int32.toInt (oO k) /\ Int32.toInt (oO k) <= 99) (yD : ∀ k : Nat, k = 4 -> 1 <= Int32.toInt (pJ k) /\ Int32.toInt (pJ k) <= 30) (xZ : ∀ k : Nat, k = 3 -> 0 <= Int32.toInt (pJ k) /\ Int32.toInt (pJ k) <= 9) (hc0 : -1 <= SB /\ SB <= 7) (hc1 : (Int32.toInt aG <= 0 /\ SB = 0) \/ (1 <= Int32.toInt aG /\ SB = Int32.toInt aG - 1)) (hpost : ∀ (r : Int32) (xM : Int32) (xG : Int32) (aAS : Int32) (aBX : Nat -> Int32) (aA5 : Nat -> Int32), (-1 <= Int32.toInt r /\ Int32.toInt r <= 63) -> (2 <= Int32.toInt xM /\ Int32.toInt xM <= 2) -> (0 <= Int32.toInt xG /\ Int32.toInt xG <= 0) -> (0 <= Int32.toInt aAS /\ Int32.toInt aAS <= 65535) -> (∀ k : Nat, 0 <= Int32.toInt (aA5 k) /\ Int32.toInt (aA5 k) <= 65535) -> post r xM xG aAS aBX aA5) (hKn : ∀ (x1 : Int32) (x2 : Int32) (x3 : Int32) (bL : Int32) (bY : Int32) (dO : Int32) (sW : Nat -> Int32) (sH : Nat -> Int32), (-1 <= Int32.toInt x1 /\ Int32.toInt x1 <= 63) -> (0 <= Int32.toInt x2 /\ Int32.toInt x2 <= 9) -> (0 <= Int32.toInt x3 /\ Int32.toInt x3 <= 10) -> (0 <= Int32.toInt bL /\ Int32.toInt bL <= 16) -> (0 <= Int32.toInt bY /\ Int32.toInt bY <= 0) -> (0 <= Int32.toInt dO /\ Int32.toInt dO <= 65535) -> (∀ k : Nat, 0 <= Int32.toInt (sH k) /\ Int32.toInt (sH k) <= 65535) -> (10 - Int32.toInt x3 < n27) -> next x1 x2 x3 bL bY dO sW sH) (x1 x2 x3 bL bY dO : Int32) (sW sH : Nat -> Int32) (aBK : -1 <= Int32.toInt x1 /\ Int32.toInt x1 <= 63) (aBN : 0 <= Int32.toInt x2 /\ Int32.toInt x2 <= 9) (aCH : 0 <= Int32.toInt x3 /\ Int32.toInt x3 <= 10) (yJ : 0 <= Int32.toInt bL /\ Int32.toInt bL <= 16) (yG : 0 <= Int32.toInt bY /\ Int32.toInt bY <= 0) (aAH : 0 <= Int32.toInt dO /\ Int32.toInt dO <= 65535) (zY : ∀ k : Nat, 0 <= Int32.toInt (sH k) /\ Int32.toInt (sH k) <= 65535) (hn27 : 10 - Int32.toInt x3 <= n27) : ws_X10_ripens_27 post next bT aG qG m_x gR qR nG oO pJ x1 x2 x3 bL bY dO sW sH := by
  have l0 := aE0
  have l1 := aEc
  have l2 := aKH
  have l3 := li_19
  have l4 := aJ8
  have l5 := li_63
  have l6 := aJ9
  have l7 := li_9
  refine And.intro (fun c3 => ?_) (fun c3 => ?_)
  · skip
    have c3 := (aAd _ _).mp c3
    refine aKO (by omega) xJ xU xV (by omega) (fun r4 h_r4 ox5 => ?_)
    intro v6 ev6
    have f7 := aDv 8 256 aG (by decide) (by omega)
    have hv6 := congrArg Int32.toInt ev6
    have f9 : Int32.toInt (v6 - 1) = Int32.toInt v6 - Int32.toInt (1 : Int32) := aCA _ _ (by omega)
    refine aSL (by omega) vZ zY (fun r8 h_r8 => ?_)
    intro v10 ev10
    have f11 := aAQ r4 r8 (by omega)
    have f12 := aBx r4 r8 (by omega)
    have hv10 := congrArg Int32.toInt ev10
    refine t_X10_cover (by omega) vZ zY (fun r13 h_r13 => ?_)
    refine And.intro (aBZ (by omega)) ?_
    intro v14 ev14
    have f15 : Int32.toInt (0 + 1) = Int32.toInt (0 : Int32) + Int32.toInt (1 : Int32) := aAD _ _ (by omega)
    rw [<- ev14] at f15
    intro v16 ev16
    intro v17 ev17
    have f19 := aAQ v16 1431655765 (by omega)
    have f18 : Int32.toInt (r13 - (v16 &&& 1431655765)) = Int32.toInt r13 - Int32.toInt (v16 &&& 1431655765) := aCA _ _ (by omega)
    rw [<- ev17] at f18
    intro v20 ev20
    have f21 := aAQ v17 858993459 (by omega)
    have hv20 := congrArg Int32.toInt ev20
    intro v22 ev22
    intro v23 ev23
    have f25 := aAQ v22 858993459 (by omega)
    have f24 : Int32.toInt (v20 + (v22 &&& 858993459)) = Int32.toInt v20 + Int32.toInt (v22 &&& 858993459) := aAD _ _ (by omega)
    rw [<- ev23] at f24
    intro v26 ev26
    have hv26 := congrArg Int32.toInt ev26
    intro v28 ev28
    have f29 := aAQ v26 252645135 (by omega)
    have hv28 := congrArg Int32.toInt ev28
    intro v30 ev30
    have hv30 := congrArg Int32.toInt ev30
    intro v32 ev32
    have hv32 := congrArg Int32.toInt ev32
    refine And.intro (aBZ (by omega)) ?_
    intro v34 ev34
    have f35 : Int32.toInt (v14 + 1) = Int32.toInt v14 + Int32.toInt (1 : Int32) := aAD _ _ (by omega)
    rw [<- ev34] at f35
    exact hpost _ _ _ _ _ _ aBK (by omega) yG aAH zY
  · skip
    have c3 := mt (aAd _ _).mpr c3
    refine aKO (by omega) xJ xU xV (by omega) (fun r36 h_r36 ox37 => ?_)
    refine aXh (by omega) xJ zM (fun r38 h_r38 ox39 => ?_)
    intro v40 ev40
    have f41 := aAQ r36 r38 (by omega)
    have f42 := aBx r36 r38 (by omega)
    have hv40 := congrArg Int32.toInt ev40
    have q43 := xV (19 : Int32).toNatClampNeg (by have e9 : (19 : Int32).toNatClampNeg = (Int32.toInt (19 : Int32)).toNat := rfl; omega)
    refine And.intro (fun c44 => ?_) (fun c44 => ?_)
    · skip
      have c44 := mt (zJ _ _).mpr c44
      intro v46 ev46
      have f47 : Int32.toInt (x3 - 1) = Int32.toInt x3 - Int32.toInt (1 : Int32) := aCA _ _ (by omega)
      rw [<- ev46] at f47
      refine aXh (by omega) xJ zM (fun r48 h_r48 ox49 => ?_)
      intro v50 ev50
      intro v51 ev51
      have f54 := aBx v40 (r48 ^^^ (-1)) (by omega)
      have f55 := aAQ v50 1431655765 (by omega)
      have f52 : Int32.toInt ((v40 &&& (r48 ^^^ (-1))) - (v50 &&& 1431655765)) = Int32.toInt (v40 &&& (r48 ^^^ (-1))) - Int32.toInt (v50 &&& 1431655765) := aCA _ _ (by omega)
      rw [<- ev51] at f52
      intro v56 ev56
      have f57 := aAQ v51 858993459 (by omega)
      have hv56 := congrArg Int32.toInt ev56
      intro v58 ev58
      intro v59 ev59
      have f61 := aAQ v58 858993459 (by omega)
      have f60 : Int32.toInt (v56 + (v58 &&& 858993459)) = Int32.toInt v56 + Int32.toInt (v58 &&& 858993459) := aAD _ _ (by omega)
      rw [<- ev59] at f60
      intro v62 ev62
      have hv62 := congrArg Int32.toInt ev62
      intro v64 ev64
      have f65 := aAQ v62 252645135 (by omega)
      have hv64 := congrArg Int32.toInt ev64
      intro v66 ev66
      have hv66 := congrArg Int32.toInt ev66
      intro v68 ev68
      have hv68 := congrArg Int32.toInt ev68
      have f71 := aAQ v68 63 (by omega)
      refine And.intro (fun c70 => ?_) (fun c70 => ?_)
      · skip
        have c70 := (aAd _ _).mp c70
        exact ts_X10_ripens_57 bT aG qG m_x gR qR nG oO pJ xJ vZ xU xV aAW xK zM xT yF yD xZ hc0 hc1 hpost hKn (v68 &&& 63) x3 x3 bL bY dO sW sH (by omega) (by omega) (by omega) yJ yG aAH zY hn27
      · skip
        have c70 := mt (aAd _ _).mpr c70
        exact ts_X10_ripens_57 bT aG qG m_x gR qR nG oO pJ xJ vZ xU xV aAW xK zM xT yF yD xZ hc0 hc1 hpost hKn x1 x2 x3 bL bY dO sW sH (by omega) aBN (by omega) yJ yG aAH zY hn27
    · skip
      have c44 := (zJ _ _).mp c44
      intro v72 ev72
      intro v73 ev73
      have f75 := aAQ v72 1431655765 (by omega)
      have f74 : Int32.toInt (v40 - (v72 &&& 1431655765)) = Int32.toInt v40 - Int32.toInt (v72 &&& 1431655765) := aCA _ _ (by omega)
      rw [<- ev73] at f74
      intro v76 ev76
      have f77 := aAQ v73 858993459 (by omega)
      have hv76 := congrArg Int32.toInt ev76
      intro v78 ev78
      intro v79 ev79
      have f81 := aAQ v78 858993459 (by omega)
      have f80 : Int32.toInt (v76 + (v78 &&& 858993459)) = Int32.toInt v76 + Int32.toInt (v78 &&& 858993459) := aAD _ _ (by omega)
      rw [<- ev79] at f80
      intro v82 ev82
      have hv82 := congrArg Int32.toInt ev82
      intro v84 ev84
      have f85 := aAQ v82 252645135 (by omega)
      have hv84 := congrArg Int32.toInt ev84
      intro v86 ev86
      have hv86 := congrArg Int32.toInt ev86
      intro v88 ev88
      have hv88 := congrArg Int32.toInt ev88
      have f91 := aAQ v88 63 (by omega)
      refine And.intro (fun c90 => ?_) (fun c90 => ?_)
      · skip
        have c90 := (aAd _ _).mp c90
        exact ts_X10_ripens_57 bT aG qG m_x gR qR nG oO pJ xJ vZ xU xV aAW xK zM xT yF yD xZ hc0 hc1 hpost hKn (v88 &&& 63) x3 x3 bL bY dO sW sH (by omega) (by omega) (by omega) yJ yG aAH zY hn27
      · skip
        have c90 := mt (aAd _ _).mpr c90
        exact ts_X10_ripens_57 bT aG qG m_x gR qR nG oO pJ xJ vZ xU xV aAW xK zM xT yF yD xZ hc0 hc1 hpost hKn x1 x2 x3 bL bY dO sW sH (by omega) aBN (by omega) yJ yG aAH zY hn27
set_option maxHeartbeats 8000000 in
set_option maxRecDepth 200000 in
theorem tb_X10_ripens_27 {post : Int32 -> Int32 -> Int32 -> Int32 -> (Nat -> Int32) -> (Nat -> Int32) -> Prop} {SB : Int} (bT aG : Int32) (qG m_x gR qR nG oO pJ : Nat -> Int32) (xJ : 0 <= Int32.toInt bT /\ Int32.toInt bT <= 16) (vZ : 0 <= Int32.toInt aG /\ Int32.toInt aG <= 8) (xU : ∀ k : Nat, k = 17 -> -1 <= Int32.toInt (qG k) /\ Int32.toInt (qG k) <= SB) (xV : ∀ k : Nat, k = 19 -> 0 <= Int32.toInt (qG k) /\ Int32.toInt (qG k) <= 9) (aAW : ∀ k : Nat, 0 <= Int32.toInt (m_x k) /\ Int32.toInt (m_x k) <= 99) (xK : ∀ k : Nat, 0 <= Int32.toInt (gR k) /\ Int32.toInt (gR k) <= 99) (zM : ∀ k : Nat, 0 <= Int32.toInt (qR k) /\ Int32.toInt (qR k) <= 9) (xT : ∀ k : Nat, 0 <= Int32.toInt (nG k) /\ Int32.toInt (nG k) <= 99) (yF : ∀ k : Nat, 0 <= Int32.toInt (oO k) /\ Int32.toInt (oO k) <= 99) (yD : ∀ k : Nat, k = 4 -> 1 <= Int32.toInt (pJ k) /\ Int32.toInt (pJ k) <= 30) (xZ : ∀ k : Nat, k = 3 -> 0 <= Int32.toInt (pJ k) /\ Int32.toInt (pJ k) <= 9) (hc0 : -1 <= SB /\ SB <= 7) (hc1 : (Int32.toInt aG <= 0 /\ SB = 0) \/ (1 <= Int32.toInt aG /\ SB = Int32.toInt aG - 1)) (hpost : ∀ (r : Int32) (xM : Int32) (xG : Int32) (aAS : Int32) (aBX : Nat -> Int32) (aA5 : Nat -> Int32), (-1 <= Int32.toInt r /\ Int32.toInt r <= 63) -> (2 <= Int32.toInt xM /\ Int32.toInt xM <= 2) -> (0 <= Int32.toInt xG /\ Int32.toInt xG <= 0) -> (0 <= Int32.toInt aAS /\ Int32.toInt aAS <= 65535) -> (∀ k : Nat, 0 <= Int32.toInt (aA5 k) /\ Int32.toInt (aA5 k) <= 65535) -> post r xM xG aAS aBX aA5) : ∀ (n : Nat) (x1 x2 x3 bL bY dO : Int32) (sW sH : Nat -> Int32), (-1 <= Int32.toInt x1 /\ Int32.toInt x1 <= 63) -> (0 <= Int32.toInt x2 /\ Int32.toInt x2 <= 9) -> (0 <= Int32.toInt x3 /\ Int32.toInt x3 <= 10) -> (0 <= Int32.toInt bL /\ Int32.toInt bL <= 16) -> (0 <= Int32.toInt bY /\ Int32.toInt bY <= 0) -> (0 <= Int32.toInt dO /\ Int32.toInt dO <= 65535) -> (∀ k : Nat, 0 <= Int32.toInt (sH k) /\ Int32.toInt (sH k) <= 65535) -> (10 - Int32.toInt x3 < (n : Int)) -> wb_X10_ripens_27 post bT aG qG m_x gR qR nG oO pJ n x1 x2 x3 bL bY dO sW sH := by
  intro n
  induction n with
  | zero =>
    intro x1 x2 x3 bL bY dO sW sH aBK aBN aCH yJ yG aAH zY hm
    exfalso; omega
  | succ n ih =>
    intro x1 x2 x3 bL bY dO sW sH aBK aBN aCH yJ yG aAH zY hm
    exact ts_X10_ripens_27 bT aG qG m_x gR qR nG oO pJ xJ vZ xU xV aAW xK zM xT yF yD xZ hc0 hc1 hpost ih x1 x2 x3 bL bY dO sW sH aBK aBN aCH yJ yG aAH zY (by omega)
set_option maxHeartbeats 8000000 in
set_option maxRecDepth 200000 in
theorem t_X10_ripens {post : Int32 -> Int32 -> Int32 -> Int32 -> (Nat -> Int32) -> (Nat -> Int32) -> Prop} {SB : Int} {bT aG bL bY dO : Int32} {qG m_x gR qR nG oO pJ sW sH : Nat -> Int32} (xJ : 0 <= Int32.toInt bT /\ Int32.toInt bT <= 16) (vZ : 0 <= Int32.toInt aG /\ Int32.toInt aG <= 8) (yJ : 0 <= Int32.toInt bL /\ Int32.toInt bL <= 16) (yG : 0 <= Int32.toInt bY /\ Int32.toInt bY <= 1) (aAH : 0 <= Int32.toInt dO /\ Int32.toInt dO <= 65535) (xU : ∀ k : Nat, k = 17 -> -1 <= Int32.toInt (qG k) /\ Int32.toInt (qG k) <= SB) (xV : ∀ k : Nat, k = 19 -> 0 <= Int32.toInt (qG k) /\ Int32.toInt (qG k) <= 9) (aAW : ∀ k : Nat, 0 <= Int32.toInt (m_x k) /\ Int32.toInt (m_x k) <= 99) (xK : ∀ k : Nat, 0 <= Int32.toInt (gR k) /\ Int32.toInt (gR k) <= 99) (zM : ∀ k : Nat, 0 <= Int32.toInt (qR k) /\ Int32.toInt (qR k) <= 9) (xT : ∀ k : Nat, 0 <= Int32.toInt (nG k) /\ Int32.toInt (nG k) <= 99) (yF : ∀ k : Nat, 0 <= Int32.toInt (oO k) /\ Int32.toInt (oO k) <= 99) (yD : ∀ k : Nat, k = 4 -> 1 <= Int32.toInt (pJ k) /\ Int32.toInt (pJ k) <= 30) (xZ : ∀ k : Nat, k = 3 -> 0 <= Int32.toInt (pJ k) /\ Int32.toInt (pJ k) <= 9) (zY : ∀ k : Nat, 0 <= Int32.toInt (sH k) /\ Int32.toInt (sH k) <= 65535) (hc0 : -1 <= SB /\ SB <= 7) (hc1 : (Int32.toInt aG <= 0 /\ SB = 0) \/ (1 <= Int32.toInt aG /\ SB = Int32.toInt aG - 1)) (hpost : ∀ (r : Int32) (xM : Int32) (xG : Int32) (aAS : Int32) (aBX : Nat -> Int32) (aA5 : Nat -> Int32), (-1 <= Int32.toInt r /\ Int32.toInt r <= 63) -> (2 <= Int32.toInt xM /\ Int32.toInt xM <= 2) -> (0 <= Int32.toInt xG /\ Int32.toInt xG <= 0) -> (0 <= Int32.toInt aAS /\ Int32.toInt aAS <= 65535) -> (∀ k : Nat, 0 <= Int32.toInt (aA5 k) /\ Int32.toInt (aA5 k) <= 65535) -> post r xM xG aAS aBX aA5) : wp_X10_ripens post bT aG bL bY dO qG m_x gR qR nG oO pJ sW sH := by
  have l0 := aI2
  have l1 := aE0
  have l2 := li_18
  have l3 := li_19
  intro v92 ev92
  have hv92 := congrArg Int32.toInt ev92
  refine aLb xJ vZ aAH xU xV aAW xK zM xT yF yD xZ zY (by omega) (by omega) (fun m_wanted_94 m_hand_95 h_m_wanted_94 h_m_hand_95 => ?_)
  have q96 := xV (19 : Int32).toNatClampNeg (by have e9 : (19 : Int32).toNatClampNeg = (Int32.toInt (19 : Int32)).toNat := rfl; omega)
  intro v97 ev97
  have hv97 := congrArg Int32.toInt ev97
  have q99 := xV (19 : Int32).toNatClampNeg (by have e9 : (19 : Int32).toNatClampNeg = (Int32.toInt (19 : Int32)).toNat := rfl; omega)
  intro v100 ev100
  have hv100 := congrArg Int32.toInt ev100
  exact ⟨12, tb_X10_ripens_27 bT aG qG m_x gR qR nG oO pJ xJ vZ xU xV aAW xK zM xT yF yD xZ hc0 hc1 hpost _ (-1) v97 v100 bL 0 m_wanted_94 sW m_hand_95 (by omega) (by omega) (by omega) yJ (by omega) h_m_wanted_94 h_m_hand_95 (by omega)⟩
set_option maxHeartbeats 8000000 in
set_option maxRecDepth 200000 in
theorem t_X10_ondays {post : Int32 -> Int32 -> Int32 -> Int32 -> (Nat -> Int32) -> (Nat -> Int32) -> Prop} {SB : Int} {p0 bT aG bL bY dO : Int32} {qG m_x gR qR nG oO pJ sW sH : Nat -> Int32} (xJ : 0 <= Int32.toInt bT /\ Int32.toInt bT <= 16) (vZ : 0 <= Int32.toInt aG /\ Int32.toInt aG <= 8) (yJ : 0 <= Int32.toInt bL /\ Int32.toInt bL <= 16) (yG : 0 <= Int32.toInt bY /\ Int32.toInt bY <= 1) (aAH : 0 <= Int32.toInt dO /\ Int32.toInt dO <= 65535) (xU : ∀ k : Nat, k = 17 -> -1 <= Int32.toInt (qG k) /\ Int32.toInt (qG k) <= SB) (xV : ∀ k : Nat, k = 19 -> 0 <= Int32.toInt (qG k) /\ Int32.toInt (qG k) <= 9) (aAW : ∀ k : Nat, 0 <= Int32.toInt (m_x k) /\ Int32.toInt (m_x k) <= 99) (xK : ∀ k : Nat, 0 <= Int32.toInt (gR k) /\ Int32.toInt (gR k) <= 99) (zM : ∀ k : Nat, 0 <= Int32.toInt (qR k) /\ Int32.toInt (qR k) <= 9) (xT : ∀ k : Nat, 0 <= Int32.toInt (nG k) /\ Int32.toInt (nG k) <= 99) (yF : ∀ k : Nat, 0 <= Int32.toInt (oO k) /\ Int32.toInt (oO k) <= 99) (yD : ∀ k : Nat, k = 4 -> 1 <= Int32.toInt (pJ k) /\ Int32.toInt (pJ k) <= 30) (xZ : ∀ k : Nat, k = 3 -> 0 <= Int32.toInt (pJ k) /\ Int32.toInt (pJ k) <= 9) (zY : ∀ k : Nat, 0 <= Int32.toInt (sH k) /\ Int32.toInt (sH k) <= 65535) (hc0 : -1 <= SB /\ SB <= 7) (hc1 : (Int32.toInt aG <= 0 /\ SB = 0) \/ (1 <= Int32.toInt aG /\ SB = Int32.toInt aG - 1)) (hpost : ∀ (r : Int32) (xM : Int32) (xG : Int32) (aAS : Int32) (aBX : Nat -> Int32) (aA5 : Nat -> Int32), (-1 <= Int32.toInt r /\ Int32.toInt r <= 63) -> (0 <= Int32.toInt xM /\ Int32.toInt xM <= 16) -> (0 <= Int32.toInt xG /\ Int32.toInt xG <= 0) -> (0 <= Int32.toInt aAS /\ Int32.toInt aAS <= 65535) -> (∀ k : Nat, 0 <= Int32.toInt (aA5 k) /\ Int32.toInt (aA5 k) <= 65535) -> post r xM xG aAS aBX aA5) : wp_X10_ondays post p0 bT aG bL bY dO qG m_x gR qR nG oO pJ sW sH := by
  have l0 := aI2
  have l1 := aE0
  have l2 := aEc
  have l3 := li_18
  have l4 := li_19
  have l5 := li_9
  have q1 := xV (19 : Int32).toNatClampNeg (by have e9 : (19 : Int32).toNatClampNeg = (Int32.toInt (19 : Int32)).toNat := rfl; omega)
  intro v2 ev2
  have hv2 := congrArg Int32.toInt ev2
  have f5 := aAT p0
  refine And.intro (fun c4 => ?_) (fun c4 => ?_)
  · skip
    have c4 := (aAd _ _).mp c4
    refine And.intro (fun h9 => absurd h9 (by decide)) (fun _ => ?_)
    exact hpost _ _ _ _ _ _ (by omega) yJ (by omega) aAH zY
  · skip
    have c4 := mt (aAd _ _).mpr c4
    refine And.intro (fun c6 => ?_) (fun c6 => ?_)
    · skip
      have c6 := (aAd _ _).mp c6
      refine And.intro (fun h9 => absurd h9 (by decide)) (fun _ => ?_)
      exact hpost _ _ _ _ _ _ (by omega) yJ (by omega) aAH zY
    · skip
      have c6 := mt (aAd _ _).mpr c6
      refine And.intro (fun _ => ?_) (fun h9 => absurd h9 (by decide))
      intro v7 ev7
      have hv7 := congrArg Int32.toInt ev7
      refine aLb xJ vZ aAH xU xV aAW xK zM xT yF yD xZ zY (by omega) (by omega) (fun m_wanted_9 m_hand_10 h_m_wanted_9 h_m_hand_10 => ?_)
      refine aKO (by omega) xJ xU xV (by omega) (fun r11 h_r11 ox12 => ?_)
      refine aXh (by omega) xJ zM (fun r13 h_r13 ox14 => ?_)
      intro v15 ev15
      have f16 := aAQ r11 r13 (by omega)
      have f17 := aBx r11 r13 (by omega)
      have hv15 := congrArg Int32.toInt ev15
      have q18 := xV (19 : Int32).toNatClampNeg (by have e9 : (19 : Int32).toNatClampNeg = (Int32.toInt (19 : Int32)).toNat := rfl; omega)
      refine And.intro (fun c19 => ?_) (fun c19 => ?_)
      · skip
        have c19 := mt (zJ _ _).mpr c19
        intro v20 ev20
        have f21 : Int32.toInt (p0 - 1) = Int32.toInt p0 - Int32.toInt (1 : Int32) := aCA _ _ (by omega)
        rw [<- ev20] at f21
        refine aXh (by omega) xJ zM (fun r22 h_r22 ox23 => ?_)
        intro v24 ev24
        have f25 := aDv 8 256 aG (by decide) (by omega)
        have hv24 := congrArg Int32.toInt ev24
        have f27 : Int32.toInt (v24 - 1) = Int32.toInt v24 - Int32.toInt (1 : Int32) := aCA _ _ (by omega)
        refine aSL (by omega) vZ h_m_hand_10 (fun r26 h_r26 => ?_)
        intro v28 ev28
        have f29 := aAQ (v15 &&& (r22 ^^^ (-1))) r26 (by omega)
        have f31 := aBx v15 (r22 ^^^ (-1)) (by omega)
        have f32 := aBx (v15 &&& (r22 ^^^ (-1))) r26 (by omega)
        have hv28 := congrArg Int32.toInt ev28
        refine t_X10_tellCover (by omega) vZ yJ h_m_hand_10 (fun r35 m_rowMany_33 m_row_34 h_r35 h_m_rowMany_33 => ?_)
        exact hpost _ _ _ _ _ _ (by omega) h_m_rowMany_33 (by omega) h_m_wanted_9 h_m_hand_10
      · skip
        have c19 := (zJ _ _).mp c19
        intro v36 ev36
        have f37 := aDv 8 256 aG (by decide) (by omega)
        have hv36 := congrArg Int32.toInt ev36
        have f39 : Int32.toInt (v36 - 1) = Int32.toInt v36 - Int32.toInt (1 : Int32) := aCA _ _ (by omega)
        refine aSL (by omega) vZ h_m_hand_10 (fun r38 h_r38 => ?_)
        intro v40 ev40
        have f41 := aAQ v15 r38 (by omega)
        have f42 := aBx v15 r38 (by omega)
        have hv40 := congrArg Int32.toInt ev40
        refine t_X10_tellCover (by omega) vZ yJ h_m_hand_10 (fun r45 m_rowMany_43 m_row_44 h_r45 h_m_rowMany_43 => ?_)
        exact hpost _ _ _ _ _ _ (by omega) h_m_rowMany_43 (by omega) h_m_wanted_9 h_m_hand_10
set_option maxHeartbeats 8000000 in
set_option maxRecDepth 200000 in
theorem ts_X10_allripe_39 {post : Int32 -> Int32 -> Int32 -> (Nat -> Int32) -> Prop} {SB : Int} {next : Int32 -> Int32 -> Int32 -> Int32 -> Int32 -> (Nat -> Int32) -> Prop} {n39 : Int} (bT : Int32) (qG pW qR : Nat -> Int32) (xJ : 0 <= Int32.toInt bT /\ Int32.toInt bT <= 16) (xU : ∀ k : Nat, k = 17 -> -1 <= Int32.toInt (qG k) /\ Int32.toInt (qG k) <= SB) (xV : ∀ k : Nat, k = 19 -> 0 <= Int32.toInt (qG k) /\ Int32.toInt (qG k) <= 9) (yR : ∀ k : Nat, 0 <= Int32.toInt (pW k) /\ Int32.toInt (pW k) <= 9) (zM : ∀ k : Nat, 0 <= Int32.toInt (qR k) /\ Int32.toInt (qR k) <= 9) (hc0 : -1 <= SB /\ SB <= 7) (hpost : ∀ (r : Int32) (xM : Int32) (xG : Int32) (aBX : Nat -> Int32), (0 <= Int32.toInt r /\ Int32.toInt r <= 9) -> (2 <= Int32.toInt xM /\ Int32.toInt xM <= 2) -> (0 <= Int32.toInt xG /\ Int32.toInt xG <= 0) -> post r xM xG aBX) (hKn : ∀ (x1 : Int32) (x2 : Int32) (x3 : Int32) (bL : Int32) (bY : Int32) (sW : Nat -> Int32), (0 <= Int32.toInt x1 /\ Int32.toInt x1 <= 65535) -> (0 <= Int32.toInt x2 /\ Int32.toInt x2 <= 65535) -> (0 <= Int32.toInt x3 /\ Int32.toInt x3 <= 9) -> (0 <= Int32.toInt bL /\ Int32.toInt bL <= 16) -> (0 <= Int32.toInt bY /\ Int32.toInt bY <= 0) -> (x1 = (bsf (Int32.toInt bT).toNat (fun k => decide (qG k = 0)))) -> (9 - Int32.toInt x3 < n39) -> next x1 x2 x3 bL bY sW) (x1 x2 x3 bL bY : Int32) (sW : Nat -> Int32) (aBK : 0 <= Int32.toInt x1 /\ Int32.toInt x1 <= 65535) (aBN : 0 <= Int32.toInt x2 /\ Int32.toInt x2 <= 65535) (aCH : 0 <= Int32.toInt x3 /\ Int32.toInt x3 <= 9) (yJ : 0 <= Int32.toInt bL /\ Int32.toInt bL <= 16) (yG : 0 <= Int32.toInt bY /\ Int32.toInt bY <= 0) (hx0 : x1 = (bsf (Int32.toInt bT).toNat (fun k => decide (qG k = 0)))) (hn39 : 9 - Int32.toInt x3 <= n39) : ws_X10_allripe_39 post next bT qG pW qR x1 x2 x3 bL bY sW := by
  have l0 := aE0
  have l1 := aEc
  have l2 := aKH
  have l3 := li_16
  have l4 := aJ8
  have l5 := aJ9
  refine aXh (by omega) xJ zM (fun r1 h_r1 ox2 => ?_)
  have f5 := aBx x1 (r1 ^^^ (-1)) (by omega)
  refine And.intro (fun c3 => ?_) (fun c3 => ?_)
  · skip
    have c3Z := c3
    have c3 := (zJ _ _).mp c3
    have s6 := ti_subset x1 r1 (c3Z) (by omega)
    intro v7 ev7
    intro v8 ev8
    have f10 := aAQ v7 1431655765 (by omega)
    have f9 : Int32.toInt (x2 - (v7 &&& 1431655765)) = Int32.toInt x2 - Int32.toInt (v7 &&& 1431655765) := aCA _ _ (by omega)
    rw [<- ev8] at f9
    intro v11 ev11
    have f12 := aAQ v8 858993459 (by omega)
    have hv11 := congrArg Int32.toInt ev11
    intro v13 ev13
    intro v14 ev14
    have f16 := aAQ v13 858993459 (by omega)
    have f15 : Int32.toInt (v11 + (v13 &&& 858993459)) = Int32.toInt v11 + Int32.toInt (v13 &&& 858993459) := aAD _ _ (by omega)
    rw [<- ev14] at f15
    intro v17 ev17
    have hv17 := congrArg Int32.toInt ev17
    intro v19 ev19
    have f20 := aAQ v17 252645135 (by omega)
    have hv19 := congrArg Int32.toInt ev19
    intro v21 ev21
    have hv21 := congrArg Int32.toInt ev21
    intro v23 ev23
    have hv23 := congrArg Int32.toInt ev23
    refine And.intro (aBZ (by omega)) ?_
    intro v25 ev25
    have f26 : Int32.toInt (0 + 1) = Int32.toInt (0 : Int32) + Int32.toInt (1 : Int32) := aAD _ _ (by omega)
    rw [<- ev25] at f26
    intro v27 ev27
    have hv27 := congrArg Int32.toInt ev27
    refine aNU aBN xJ yR (fun r29 => ?_)
    refine And.intro (aBZ (by omega)) ?_
    intro v30 ev30
    have f31 : Int32.toInt (v25 + 1) = Int32.toInt v25 + Int32.toInt (1 : Int32) := aAD _ _ (by omega)
    rw [<- ev30] at f31
    exact hpost _ _ _ _ aCH (by omega) yG
  · skip
    have c3 := mt (zJ _ _).mpr c3
    have j32 := ar_lt (x1 := x1) (d := x3) (by assumption) (by assumption) zM (by assumption) (by omega)
    intro v33 ev33
    have f34 : Int32.toInt (x3 + 1) = Int32.toInt x3 + Int32.toInt (1 : Int32) := aAD _ _ (by omega)
    rw [<- ev33] at f34
    exact hKn x1 x2 v33 bL bY sW aBK aBN (by omega) yJ yG (by assumption) (by omega)
set_option maxHeartbeats 8000000 in
set_option maxRecDepth 200000 in
theorem tb_X10_allripe_39 {post : Int32 -> Int32 -> Int32 -> (Nat -> Int32) -> Prop} {SB : Int} (bT : Int32) (qG pW qR : Nat -> Int32) (xJ : 0 <= Int32.toInt bT /\ Int32.toInt bT <= 16) (xU : ∀ k : Nat, k = 17 -> -1 <= Int32.toInt (qG k) /\ Int32.toInt (qG k) <= SB) (xV : ∀ k : Nat, k = 19 -> 0 <= Int32.toInt (qG k) /\ Int32.toInt (qG k) <= 9) (yR : ∀ k : Nat, 0 <= Int32.toInt (pW k) /\ Int32.toInt (pW k) <= 9) (zM : ∀ k : Nat, 0 <= Int32.toInt (qR k) /\ Int32.toInt (qR k) <= 9) (hc0 : -1 <= SB /\ SB <= 7) (hpost : ∀ (r : Int32) (xM : Int32) (xG : Int32) (aBX : Nat -> Int32), (0 <= Int32.toInt r /\ Int32.toInt r <= 9) -> (2 <= Int32.toInt xM /\ Int32.toInt xM <= 2) -> (0 <= Int32.toInt xG /\ Int32.toInt xG <= 0) -> post r xM xG aBX) : ∀ (n : Nat) (x1 x2 x3 bL bY : Int32) (sW : Nat -> Int32), (0 <= Int32.toInt x1 /\ Int32.toInt x1 <= 65535) -> (0 <= Int32.toInt x2 /\ Int32.toInt x2 <= 65535) -> (0 <= Int32.toInt x3 /\ Int32.toInt x3 <= 9) -> (0 <= Int32.toInt bL /\ Int32.toInt bL <= 16) -> (0 <= Int32.toInt bY /\ Int32.toInt bY <= 0) -> (x1 = (bsf (Int32.toInt bT).toNat (fun k => decide (qG k = 0)))) -> (9 - Int32.toInt x3 < (n : Int)) -> wb_X10_allripe_39 post bT qG pW qR n x1 x2 x3 bL bY sW := by
  intro n
  induction n with
  | zero =>
    intro x1 x2 x3 bL bY sW aBK aBN aCH yJ yG hx0 hm
    exfalso; omega
  | succ n ih =>
    intro x1 x2 x3 bL bY sW aBK aBN aCH yJ yG hx0 hm
    exact ts_X10_allripe_39 bT qG pW qR xJ xU xV yR zM hc0 hpost ih x1 x2 x3 bL bY sW aBK aBN aCH yJ yG hx0 (by omega)
set_option maxHeartbeats 8000000 in
set_option maxRecDepth 200000 in
theorem t_X10_allripe {post : Int32 -> Int32 -> Int32 -> (Nat -> Int32) -> Prop} {SB : Int} {bT bL bY : Int32} {qG pW qR sW : Nat -> Int32} (xJ : 0 <= Int32.toInt bT /\ Int32.toInt bT <= 16) (yJ : 0 <= Int32.toInt bL /\ Int32.toInt bL <= 16) (yG : 0 <= Int32.toInt bY /\ Int32.toInt bY <= 1) (xU : ∀ k : Nat, k = 17 -> -1 <= Int32.toInt (qG k) /\ Int32.toInt (qG k) <= SB) (xV : ∀ k : Nat, k = 19 -> 0 <= Int32.toInt (qG k) /\ Int32.toInt (qG k) <= 9) (yR : ∀ k : Nat, 0 <= Int32.toInt (pW k) /\ Int32.toInt (pW k) <= 9) (zM : ∀ k : Nat, 0 <= Int32.toInt (qR k) /\ Int32.toInt (qR k) <= 9) (hc0 : -1 <= SB /\ SB <= 7) (hpost : ∀ (r : Int32) (xM : Int32) (xG : Int32) (aBX : Nat -> Int32), (0 <= Int32.toInt r /\ Int32.toInt r <= 9) -> (2 <= Int32.toInt xM /\ Int32.toInt xM <= 2) -> (0 <= Int32.toInt xG /\ Int32.toInt xG <= 0) -> post r xM xG aBX) : wp_X10_allripe post bT bL bY qG pW qR sW := by
  have l0 := aE0
  have l1 := li_19
  refine aKO (by omega) xJ xU xV (by omega) (fun r35 h_r35 ox36 => ?_)
  have q37 := xV (19 : Int32).toNatClampNeg (by have e9 : (19 : Int32).toNatClampNeg = (Int32.toInt (19 : Int32)).toNat := rfl; omega)
  intro v38 ev38
  have hv38 := congrArg Int32.toInt ev38
  refine aXh (by omega) xJ zM (fun r40 h_r40 ox41 => ?_)
  intro v42 ev42
  have f44 := aBx r35 (r40 ^^^ (-1)) (by omega)
  have hv42 := congrArg Int32.toInt ev42
  have q45 := xV (19 : Int32).toNatClampNeg (by have e9 : (19 : Int32).toNatClampNeg = (Int32.toInt (19 : Int32)).toNat := rfl; omega)
  intro v46 ev46
  have hv46 := congrArg Int32.toInt ev46
  exact ⟨11, tb_X10_allripe_39 bT qG pW qR xJ xU xV yR zM hc0 hpost _ r35 v42 v46 bL 0 sW h_r35 (by omega) (by omega) yJ (by omega) (by assumption) (by omega)⟩
set_option maxHeartbeats 8000000 in
set_option maxRecDepth 200000 in
theorem ts_X10_grass_80 {post : Int32 -> Int32 -> Int32 -> Int32 -> Nat -> Int32 -> Int32 -> Int32 -> Int32 -> (Nat -> Int32) -> (Nat -> Int32) -> (Nat -> Int32) -> Prop} {K41 : Int32 -> Int32 -> Int32 -> Int32 -> Int32 -> Int32 -> Nat -> Int32 -> Int32 -> Int32 -> Int32 -> (Nat -> Int32) -> (Nat -> Int32) -> (Nat -> Int32) -> Prop} {n41 : Int} (aG : Int32) (nG qO qQ : Nat -> Int32) (vZ : 0 <= Int32.toInt aG /\ Int32.toInt aG <= 8) (xT : ∀ k : Nat, 0 <= Int32.toInt (nG k) /\ Int32.toInt (nG k) <= 99) (zG : ∀ k : Nat, -128 <= Int32.toInt (qO k) /\ Int32.toInt (qO k) <= 127) (zI : ∀ k : Nat, -128 <= Int32.toInt (qQ k) /\ Int32.toInt (qQ k) <= 127) (hpost : ∀ (r : Int32) (aBT : Int32) (xM : Int32) (xG : Int32) (aAP : Nat) (zS : Int32) (aAz : Int32) (aAm : Int32) (zH : Int32) (aBX : Nat -> Int32) (aDo : Nat -> Int32) (aOe : Nat -> Int32), (0 <= Int32.toInt aBT /\ Int32.toInt aBT <= 0) -> (0 <= Int32.toInt xM /\ Int32.toInt xM <= 16) -> (0 <= Int32.toInt xG /\ Int32.toInt xG <= 0) -> (aAP = 1) -> (0 <= Int32.toInt zS /\ Int32.toInt zS <= 80) -> (80 <= Int32.toInt aAz /\ Int32.toInt aAz <= 80) -> (0 <= Int32.toInt aAm /\ Int32.toInt aAm <= 80) -> (-1 <= Int32.toInt zH /\ Int32.toInt zH <= 80) -> (∀ k : Nat, 0 <= Int32.toInt (aDo k) /\ Int32.toInt (aDo k) <= 99) -> post r aBT xM xG aAP zS aAz aAm zH aBX aDo aOe) (hK41 : ∀ (x1 : Int32) (x2 : Int32) (x3 : Int32) (jC : Int32) (bL : Int32) (bY : Int32) (jD : Nat) (mLn : Int32) (oF : Int32) (rP : Int32) (dQ : Int32) (sW : Nat -> Int32) (uZ : Nat -> Int32) (vY : Nat -> Int32), (0 <= Int32.toInt x1 /\ Int32.toInt x1 <= 99) -> (0 <= Int32.toInt x2 /\ Int32.toInt x2 <= 7) -> (0 <= Int32.toInt x3 /\ Int32.toInt x3 <= 1) -> (0 <= Int32.toInt jC /\ Int32.toInt jC <= 0) -> (0 <= Int32.toInt bL /\ Int32.toInt bL <= 16) -> (0 <= Int32.toInt bY /\ Int32.toInt bY <= 0) -> (jD = 1) -> (0 <= Int32.toInt mLn /\ Int32.toInt mLn <= 80) -> (80 <= Int32.toInt oF /\ Int32.toInt oF <= 80) -> (0 <= Int32.toInt rP /\ Int32.toInt rP <= 80) -> (-1 <= Int32.toInt dQ /\ Int32.toInt dQ <= 80) -> (∀ k : Nat, 0 <= Int32.toInt (uZ k) /\ Int32.toInt (uZ k) <= 99) -> (Int32.toInt x2 <= 6 \/ Int32.toInt dQ ≠ -1) -> (7 - Int32.toInt x2 < n41) -> K41 x1 x2 x3 jC bL bY jD mLn oF rP dQ sW uZ vY) (x1 x2 jC bL bY : Int32) (jD : Nat) (mLn oF rP dQ : Int32) (sW uZ vY : Nat -> Int32) (aBK : 0 <= Int32.toInt x1 /\ Int32.toInt x1 <= 99) (aBN : 0 <= Int32.toInt x2 /\ Int32.toInt x2 <= 6) (aA4 : 0 <= Int32.toInt jC /\ Int32.toInt jC <= 0) (yJ : 0 <= Int32.toInt bL /\ Int32.toInt bL <= 16) (yG : 0 <= Int32.toInt bY /\ Int32.toInt bY <= 0) (yM : jD = 1) (zE : 0 <= Int32.toInt mLn /\ Int32.toInt mLn <= 80) (aAR : 80 <= Int32.toInt oF /\ Int32.toInt oF <= 80) (aA1 : 0 <= Int32.toInt rP /\ Int32.toInt rP <= 80) (aAA : -1 <= Int32.toInt dQ /\ Int32.toInt dQ <= 80) (aBW : ∀ k : Nat, 0 <= Int32.toInt (uZ k) /\ Int32.toInt (uZ k) <= 99) (hx0 : Int32.toInt x2 <= 5 \/ Int32.toInt dQ ≠ -1) (hn41 : 7 - Int32.toInt x2 <= n41) : ws_X10_grass_80 post K41 aG nG qO qQ x1 x2 jC bL bY jD mLn oF rP dQ sW uZ vY := by
  have l0 := aI2
  have l1 := aE0
  have l2 := aEc
  have l3 := li_44
  intro v1 ev1
  have f2 : Int32.toInt (x2 + 1) = Int32.toInt x2 + Int32.toInt (1 : Int32) := aAD _ _ (by omega)
  rw [<- ev1] at f2
  refine And.intro (fun c3 => ?_) (fun c3 => ?_)
  · skip
    have c3 := mt (zJ _ _).mpr c3
    refine And.intro (fun _ => ?_) (fun h9 => absurd h9 (by decide))
    exact hK41 x1 v1 0 jC bL bY jD mLn oF rP dQ sW uZ vY aBK (by omega) (by omega) aA4 yJ yG yM zE aAR aA1 aAA aBW (by omega) (by omega)
  · skip
    have c3 := (zJ _ _).mp c3
    refine And.intro (fun h9 => absurd h9 (by decide)) (fun _ => ?_)
    refine aOq (by first | exact yM | exact Or.inl rfl | exact Or.inr rfl | omega) zE (by omega) aA1 zG zI (by omega) (fun r4 h_r4 ox5 ox6 => ?_)
    refine And.intro (fun c7 => ?_) (fun c7 => ?_)
    · skip
      have c7 := (zJ _ _).mp c7
      intro v8 ev8
      have f9 : Int32.toInt (rP + 1) = Int32.toInt rP + Int32.toInt (1 : Int32) := aAD _ _ (by omega)
      rw [<- ev8] at f9
      exact hK41 x1 v1 1 jC bL bY jD mLn oF v8 dQ sW uZ vY aBK (by omega) (by omega) aA4 yJ yG yM zE aAR (by omega) aAA aBW (by omega) (by omega)
    · skip
      have c7 := mt (zJ _ _).mpr c7
      exact hK41 x1 v1 0 jC bL bY jD mLn oF rP dQ sW uZ vY aBK (by omega) (by omega) aA4 yJ yG yM zE aAR aA1 aAA aBW (by omega) (by omega)
set_option maxHeartbeats 8000000 in
set_option maxRecDepth 200000 in
theorem ts_X10_grass_337 {post : Int32 -> Int32 -> Int32 -> Int32 -> Nat -> Int32 -> Int32 -> Int32 -> Int32 -> (Nat -> Int32) -> (Nat -> Int32) -> (Nat -> Int32) -> Prop} {K300 : Int32 -> Int32 -> Int32 -> Int32 -> Int32 -> Int32 -> Int32 -> Nat -> Int32 -> Int32 -> Int32 -> Int32 -> (Nat -> Int32) -> (Nat -> Int32) -> (Nat -> Int32) -> Prop} {K314 : Int32 -> Int32 -> Int32 -> Int32 -> Int32 -> Int32 -> Int32 -> Int32 -> Nat -> Int32 -> Int32 -> Int32 -> Int32 -> (Nat -> Int32) -> (Nat -> Int32) -> (Nat -> Int32) -> Prop} {n300 n314 : Int} (aG : Int32) (nG qO qQ : Nat -> Int32) (vZ : 0 <= Int32.toInt aG /\ Int32.toInt aG <= 8) (xT : ∀ k : Nat, 0 <= Int32.toInt (nG k) /\ Int32.toInt (nG k) <= 99) (zG : ∀ k : Nat, -128 <= Int32.toInt (qO k) /\ Int32.toInt (qO k) <= 127) (zI : ∀ k : Nat, -128 <= Int32.toInt (qQ k) /\ Int32.toInt (qQ k) <= 127) (hpost : ∀ (r : Int32) (aBT : Int32) (xM : Int32) (xG : Int32) (aAP : Nat) (zS : Int32) (aAz : Int32) (aAm : Int32) (zH : Int32) (aBX : Nat -> Int32) (aDo : Nat -> Int32) (aOe : Nat -> Int32), (0 <= Int32.toInt aBT /\ Int32.toInt aBT <= 0) -> (0 <= Int32.toInt xM /\ Int32.toInt xM <= 16) -> (0 <= Int32.toInt xG /\ Int32.toInt xG <= 0) -> (aAP = 1) -> (0 <= Int32.toInt zS /\ Int32.toInt zS <= 80) -> (80 <= Int32.toInt aAz /\ Int32.toInt aAz <= 80) -> (0 <= Int32.toInt aAm /\ Int32.toInt aAm <= 80) -> (-1 <= Int32.toInt zH /\ Int32.toInt zH <= 80) -> (∀ k : Nat, 0 <= Int32.toInt (aDo k) /\ Int32.toInt (aDo k) <= 99) -> post r aBT xM xG aAP zS aAz aAm zH aBX aDo aOe) (hK300 : ∀ (x2 : Int32) (x4 : Int32) (x5 : Int32) (x6 : Int32) (jC : Int32) (bL : Int32) (bY : Int32) (jD : Nat) (mLn : Int32) (oF : Int32) (rP : Int32) (dQ : Int32) (sW : Nat -> Int32) (uZ : Nat -> Int32) (vY : Nat -> Int32), (0 <= Int32.toInt x2 /\ Int32.toInt x2 <= 7) -> (-1 <= Int32.toInt x5 /\ Int32.toInt x5 <= 7) -> (0 <= Int32.toInt x6 /\ Int32.toInt x6 <= 6) -> (0 <= Int32.toInt jC /\ Int32.toInt jC <= 0) -> (0 <= Int32.toInt bL /\ Int32.toInt bL <= 16) -> (0 <= Int32.toInt bY /\ Int32.toInt bY <= 0) -> (jD = 1) -> (0 <= Int32.toInt mLn /\ Int32.toInt mLn <= 80) -> (80 <= Int32.toInt oF /\ Int32.toInt oF <= 80) -> (0 <= Int32.toInt rP /\ Int32.toInt rP <= 80) -> (-1 <= Int32.toInt dQ /\ Int32.toInt dQ <= -1) -> (∀ k : Nat, 0 <= Int32.toInt (uZ k) /\ Int32.toInt (uZ k) <= 99) -> (GD vY x2 aG (-1) 0) -> (NX vY x2 aG x6 x5 x4) -> (Int32.toInt bL <= Int32.toInt x6) -> (Int32.toInt x6 <= Int32.toInt x2 \/ Int32.toInt x6 = 0) -> (Int32.toInt x2 <= 6) -> (6 - Int32.toInt x6 < n300) -> K300 x2 x4 x5 x6 jC bL bY jD mLn oF rP dQ sW uZ vY) (hK314 : ∀ (x2 : Int32) (x4 : Int32) (x5 : Int32) (x6 : Int32) (x7 : Int32) (jC : Int32) (bL : Int32) (bY : Int32) (jD : Nat) (mLn : Int32) (oF : Int32) (rP : Int32) (dQ : Int32) (sW : Nat -> Int32) (uZ : Nat -> Int32) (vY : Nat -> Int32), (1 <= Int32.toInt x2 /\ Int32.toInt x2 <= 7) -> (1 <= Int32.toInt x4 /\ Int32.toInt x4 <= 2147483647) -> (-1 <= Int32.toInt x5 /\ Int32.toInt x5 <= 7) -> (0 <= Int32.toInt x6 /\ Int32.toInt x6 <= 6) -> (0 <= Int32.toInt x7 /\ Int32.toInt x7 <= 7) -> (0 <= Int32.toInt jC /\ Int32.toInt jC <= 0) -> (0 <= Int32.toInt bL /\ Int32.toInt bL <= 16) -> (0 <= Int32.toInt bY /\ Int32.toInt bY <= 0) -> (jD = 1) -> (0 <= Int32.toInt mLn /\ Int32.toInt mLn <= 80) -> (80 <= Int32.toInt oF /\ Int32.toInt oF <= 80) -> (0 <= Int32.toInt rP /\ Int32.toInt rP <= 80) -> (-1 <= Int32.toInt dQ /\ Int32.toInt dQ <= -1) -> (∀ k : Nat, 0 <= Int32.toInt (uZ k) /\ Int32.toInt (uZ k) <= 99) -> (GD vY x2 aG (-1) 0) -> (Int32.toInt bL <= Int32.toInt x6) -> (Int32.toInt x6 < Int32.toInt x2) -> (Int32.toInt x2 <= 6) -> (0 < Int32.toInt x4) -> (EX vY aG x6 x5 x7) -> (6 - Int32.toInt x6 <= n300) -> (7 - Int32.toInt x7 < n314) -> K314 x2 x4 x5 x6 x7 jC bL bY jD mLn oF rP dQ sW uZ vY) (x2 x4 x5 x6 x7 jC bL bY : Int32) (jD : Nat) (mLn oF rP dQ : Int32) (sW uZ vY : Nat -> Int32) (aBN : 1 <= Int32.toInt x2 /\ Int32.toInt x2 <= 7) (aDO : 1 <= Int32.toInt x4 /\ Int32.toInt x4 <= 2147483647) (aF7 : -1 <= Int32.toInt x5 /\ Int32.toInt x5 <= 7) (h_x6 : 0 <= Int32.toInt x6 /\ Int32.toInt x6 <= 6) (h_x7 : 0 <= Int32.toInt x7 /\ Int32.toInt x7 <= 7) (aA4 : 0 <= Int32.toInt jC /\ Int32.toInt jC <= 0) (yJ : 0 <= Int32.toInt bL /\ Int32.toInt bL <= 16) (yG : 0 <= Int32.toInt bY /\ Int32.toInt bY <= 0) (yM : jD = 1) (zE : 0 <= Int32.toInt mLn /\ Int32.toInt mLn <= 80) (aAR : 80 <= Int32.toInt oF /\ Int32.toInt oF <= 80) (aA1 : 0 <= Int32.toInt rP /\ Int32.toInt rP <= 80) (aAA : -1 <= Int32.toInt dQ /\ Int32.toInt dQ <= -1) (aBW : ∀ k : Nat, 0 <= Int32.toInt (uZ k) /\ Int32.toInt (uZ k) <= 99) (hx0 : GD vY x2 aG (-1) 0) (hx1 : Int32.toInt bL <= Int32.toInt x6) (hx2 : Int32.toInt x6 < Int32.toInt x2) (hx3 : Int32.toInt x2 <= 6) (hx4 : 0 < Int32.toInt x4) (hx5 : EX1 vY aG x6 x5 x7) (hn300 : 6 - Int32.toInt x6 <= n300) (hn314 : 7 - Int32.toInt x7 <= n314) : ws_X10_grass_337 post K300 K314 aG nG qO qQ x2 x4 x5 x6 x7 jC bL bY jD mLn oF rP dQ sW uZ vY := by
  have l0 := aEc
  have j10 := EX1_le (x := x7) (by assumption) (by omega)
  intro v11 ev11
  have f12 : Int32.toInt (x7 + 1) = Int32.toInt x7 + Int32.toInt (1 : Int32) := aAD _ _ (by omega)
  rw [<- ev11] at f12
  have f13 := aAT x4
  exact hK314 x2 x4 x5 x6 v11 jC bL bY jD mLn oF rP dQ sW uZ vY aBN aDO aF7 h_x6 (by omega) aA4 yJ yG yM zE aAR aA1 aAA aBW (by first | assumption | exact GD_init (by omega) | exact GD_dn (by assumption) (by omega) (by omega) | exact GD_s (by assumption) (by omega) | exact GD_eq (by assumption) (by omega)) hx1 hx2 hx3 hx4 (by first | assumption | exact EX_0 (by assumption) (by omega) (by omega) | exact EX_s (by assumption) (by omega)) hn300 (by omega)
set_option maxHeartbeats 8000000 in
set_option maxRecDepth 200000 in
theorem ts_X10_grass_314 {post : Int32 -> Int32 -> Int32 -> Int32 -> Nat -> Int32 -> Int32 -> Int32 -> Int32 -> (Nat -> Int32) -> (Nat -> Int32) -> (Nat -> Int32) -> Prop} {K300 : Int32 -> Int32 -> Int32 -> Int32 -> Int32 -> Int32 -> Int32 -> Nat -> Int32 -> Int32 -> Int32 -> Int32 -> (Nat -> Int32) -> (Nat -> Int32) -> (Nat -> Int32) -> Prop} {next : Int32 -> Int32 -> Int32 -> Int32 -> Int32 -> Int32 -> Int32 -> Int32 -> Nat -> Int32 -> Int32 -> Int32 -> Int32 -> (Nat -> Int32) -> (Nat -> Int32) -> (Nat -> Int32) -> Prop} {n314 n300 : Int} (aG : Int32) (nG qO qQ : Nat -> Int32) (vZ : 0 <= Int32.toInt aG /\ Int32.toInt aG <= 8) (xT : ∀ k : Nat, 0 <= Int32.toInt (nG k) /\ Int32.toInt (nG k) <= 99) (zG : ∀ k : Nat, -128 <= Int32.toInt (qO k) /\ Int32.toInt (qO k) <= 127) (zI : ∀ k : Nat, -128 <= Int32.toInt (qQ k) /\ Int32.toInt (qQ k) <= 127) (hpost : ∀ (r : Int32) (aBT : Int32) (xM : Int32) (xG : Int32) (aAP : Nat) (zS : Int32) (aAz : Int32) (aAm : Int32) (zH : Int32) (aBX : Nat -> Int32) (aDo : Nat -> Int32) (aOe : Nat -> Int32), (0 <= Int32.toInt aBT /\ Int32.toInt aBT <= 0) -> (0 <= Int32.toInt xM /\ Int32.toInt xM <= 16) -> (0 <= Int32.toInt xG /\ Int32.toInt xG <= 0) -> (aAP = 1) -> (0 <= Int32.toInt zS /\ Int32.toInt zS <= 80) -> (80 <= Int32.toInt aAz /\ Int32.toInt aAz <= 80) -> (0 <= Int32.toInt aAm /\ Int32.toInt aAm <= 80) -> (-1 <= Int32.toInt zH /\ Int32.toInt zH <= 80) -> (∀ k : Nat, 0 <= Int32.toInt (aDo k) /\ Int32.toInt (aDo k) <= 99) -> post r aBT xM xG aAP zS aAz aAm zH aBX aDo aOe) (hK300 : ∀ (x2 : Int32) (x4 : Int32) (x5 : Int32) (x6 : Int32) (jC : Int32) (bL : Int32) (bY : Int32) (jD : Nat) (mLn : Int32) (oF : Int32) (rP : Int32) (dQ : Int32) (sW : Nat -> Int32) (uZ : Nat -> Int32) (vY : Nat -> Int32), (0 <= Int32.toInt x2 /\ Int32.toInt x2 <= 7) -> (-1 <= Int32.toInt x5 /\ Int32.toInt x5 <= 7) -> (0 <= Int32.toInt x6 /\ Int32.toInt x6 <= 6) -> (0 <= Int32.toInt jC /\ Int32.toInt jC <= 0) -> (0 <= Int32.toInt bL /\ Int32.toInt bL <= 16) -> (0 <= Int32.toInt bY /\ Int32.toInt bY <= 0) -> (jD = 1) -> (0 <= Int32.toInt mLn /\ Int32.toInt mLn <= 80) -> (80 <= Int32.toInt oF /\ Int32.toInt oF <= 80) -> (0 <= Int32.toInt rP /\ Int32.toInt rP <= 80) -> (-1 <= Int32.toInt dQ /\ Int32.toInt dQ <= -1) -> (∀ k : Nat, 0 <= Int32.toInt (uZ k) /\ Int32.toInt (uZ k) <= 99) -> (GD vY x2 aG (-1) 0) -> (NX vY x2 aG x6 x5 x4) -> (Int32.toInt bL <= Int32.toInt x6) -> (Int32.toInt x6 <= Int32.toInt x2 \/ Int32.toInt x6 = 0) -> (Int32.toInt x2 <= 6) -> (6 - Int32.toInt x6 < n300) -> K300 x2 x4 x5 x6 jC bL bY jD mLn oF rP dQ sW uZ vY) (hKn : ∀ (x2 : Int32) (x4 : Int32) (x5 : Int32) (x6 : Int32) (x7 : Int32) (jC : Int32) (bL : Int32) (bY : Int32) (jD : Nat) (mLn : Int32) (oF : Int32) (rP : Int32) (dQ : Int32) (sW : Nat -> Int32) (uZ : Nat -> Int32) (vY : Nat -> Int32), (1 <= Int32.toInt x2 /\ Int32.toInt x2 <= 7) -> (1 <= Int32.toInt x4 /\ Int32.toInt x4 <= 2147483647) -> (-1 <= Int32.toInt x5 /\ Int32.toInt x5 <= 7) -> (0 <= Int32.toInt x6 /\ Int32.toInt x6 <= 6) -> (0 <= Int32.toInt x7 /\ Int32.toInt x7 <= 7) -> (0 <= Int32.toInt jC /\ Int32.toInt jC <= 0) -> (0 <= Int32.toInt bL /\ Int32.toInt bL <= 16) -> (0 <= Int32.toInt bY /\ Int32.toInt bY <= 0) -> (jD = 1) -> (0 <= Int32.toInt mLn /\ Int32.toInt mLn <= 80) -> (80 <= Int32.toInt oF /\ Int32.toInt oF <= 80) -> (0 <= Int32.toInt rP /\ Int32.toInt rP <= 80) -> (-1 <= Int32.toInt dQ /\ Int32.toInt dQ <= -1) -> (∀ k : Nat, 0 <= Int32.toInt (uZ k) /\ Int32.toInt (uZ k) <= 99) -> (GD vY x2 aG (-1) 0) -> (Int32.toInt bL <= Int32.toInt x6) -> (Int32.toInt x6 < Int32.toInt x2) -> (Int32.toInt x2 <= 6) -> (0 < Int32.toInt x4) -> (EX vY aG x6 x5 x7) -> (6 - Int32.toInt x6 <= n300) -> (7 - Int32.toInt x7 < n314) -> next x2 x4 x5 x6 x7 jC bL bY jD mLn oF rP dQ sW uZ vY) (x2 x4 x5 x6 x7 jC bL bY : Int32) (jD : Nat) (mLn oF rP dQ : Int32) (sW uZ vY : Nat -> Int32) (aBN : 1 <= Int32.toInt x2 /\ Int32.toInt x2 <= 7) (aDO : 1 <= Int32.toInt x4 /\ Int32.toInt x4 <= 2147483647) (aF7 : -1 <= Int32.toInt x5 /\ Int32.toInt x5 <= 7) (h_x6 : 0 <= Int32.toInt x6 /\ Int32.toInt x6 <= 6) (h_x7 : 0 <= Int32.toInt x7 /\ Int32.toInt x7 <= 7) (aA4 : 0 <= Int32.toInt jC /\ Int32.toInt jC <= 0) (yJ : 0 <= Int32.toInt bL /\ Int32.toInt bL <= 16) (yG : 0 <= Int32.toInt bY /\ Int32.toInt bY <= 0) (yM : jD = 1) (zE : 0 <= Int32.toInt mLn /\ Int32.toInt mLn <= 80) (aAR : 80 <= Int32.toInt oF /\ Int32.toInt oF <= 80) (aA1 : 0 <= Int32.toInt rP /\ Int32.toInt rP <= 80) (aAA : -1 <= Int32.toInt dQ /\ Int32.toInt dQ <= -1) (aBW : ∀ k : Nat, 0 <= Int32.toInt (uZ k) /\ Int32.toInt (uZ k) <= 99) (hx0 : GD vY x2 aG (-1) 0) (hx1 : Int32.toInt bL <= Int32.toInt x6) (hx2 : Int32.toInt x6 < Int32.toInt x2) (hx3 : Int32.toInt x2 <= 6) (hx4 : 0 < Int32.toInt x4) (hx5 : EX vY aG x6 x5 x7) (hn300 : 6 - Int32.toInt x6 <= n300) (hn314 : 7 - Int32.toInt x7 <= n314) : ws_X10_grass_314 post K300 next aG nG qO qQ x2 x4 x5 x6 x7 jC bL bY jD mLn oF rP dQ sW uZ vY := by
  have l0 := aE0
  have l1 := aEc
  have l2 := li_8
  refine And.intro (fun c14 => ?_) (fun c14 => ?_)
  · skip
    have c14 := (zJ _ _).mp c14
    have f15 := aAT x4
    exact ts_X10_grass_337 aG nG qO qQ vZ xT zG zI hpost hK300 hKn x2 x4 x5 x6 x7 jC bL bY jD mLn oF rP dQ sW uZ vY aBN aDO aF7 h_x6 h_x7 aA4 yJ yG yM zE aAR aA1 aAA aBW (by first | assumption | exact GD_init (by omega) | exact GD_dn (by assumption) (by omega) (by omega) | exact GD_s (by assumption) (by omega) | exact GD_eq (by assumption) (by omega)) hx1 hx2 hx3 hx4 (by first | assumption | exact EX_l (by assumption) (by omega) | exact EX_r (by assumption) (by assumption) (by omega) (by omega) (by omega)) hn300 hn314
  · skip
    have c14 := mt (zJ _ _).mpr c14
    intro v16 ev16
    have f17 : Int32.toInt (8 * x6) = Int32.toInt x6 * 8 := ta_cmul _ _ (by decide) (by omega)
    rw [<- ev16] at f17
    intro v18 ev18
    have f19 : Int32.toInt (v16 + x7) = Int32.toInt v16 + Int32.toInt x7 := aAD _ _ (by omega)
    rw [<- ev18] at f19
    refine And.intro (aBZ (by omega)) ?_
    refine And.intro (fun c20 => ?_) (fun c20 => ?_)
    · skip
      have c20 := mt (zJ _ _).mpr c20
      have j22 := EX_le (x := x7) (by assumption) (by omega)
      refine And.intro (aBZ (by omega)) ?_
      intro v23 ev23
      have f24 : Int32.toInt (bL + 1) = Int32.toInt bL + Int32.toInt (1 : Int32) := aAD _ _ (by omega)
      rw [<- ev23] at f24
      intro v25 ev25
      have f26 : Int32.toInt (x6 + 1) = Int32.toInt x6 + Int32.toInt (1 : Int32) := aAD _ _ (by omega)
      rw [<- ev25] at f26
      have f27 := aAT x4
      exact hK300 x2 x4 x7 v25 jC v23 bY jD mLn oF rP dQ (upd sW bL.toNatClampNeg x7) uZ vY (by omega) (by omega) (by omega) aA4 (by omega) yG yM zE aAR aA1 aAA aBW (by first | assumption | exact GD_init (by omega) | exact GD_dn (by assumption) (by omega) (by omega) | exact GD_s (by assumption) (by omega) | exact GD_eq (by assumption) (by omega)) (by first | assumption | exact NX_0 (by assumption) | exact NX_s (k := x6) (by assumption) (by assumption) (by omega) (by omega) (by omega) (by omega)) (by omega) (by omega) hx3 (by omega)
    · skip
      have c20 := (zJ _ _).mp c20
      have f28 := aAT x4
      exact ts_X10_grass_337 aG nG qO qQ vZ xT zG zI hpost hK300 hKn x2 x4 x5 x6 x7 jC bL bY jD mLn oF rP dQ sW uZ vY aBN aDO aF7 h_x6 h_x7 aA4 yJ yG yM zE aAR aA1 aAA aBW (by first | assumption | exact GD_init (by omega) | exact GD_dn (by assumption) (by omega) (by omega) | exact GD_s (by assumption) (by omega) | exact GD_eq (by assumption) (by omega)) hx1 hx2 hx3 hx4 (by first | assumption | exact EX_l (by assumption) (by omega) | exact EX_r (by assumption) (by assumption) (by omega) (by omega) (by omega)) hn300 hn314
set_option maxHeartbeats 8000000 in
set_option maxRecDepth 200000 in
theorem tb_X10_grass_314 {post : Int32 -> Int32 -> Int32 -> Int32 -> Nat -> Int32 -> Int32 -> Int32 -> Int32 -> (Nat -> Int32) -> (Nat -> Int32) -> (Nat -> Int32) -> Prop} {K300 : Int32 -> Int32 -> Int32 -> Int32 -> Int32 -> Int32 -> Int32 -> Nat -> Int32 -> Int32 -> Int32 -> Int32 -> (Nat -> Int32) -> (Nat -> Int32) -> (Nat -> Int32) -> Prop} {n300 : Int} (aG : Int32) (nG qO qQ : Nat -> Int32) (vZ : 0 <= Int32.toInt aG /\ Int32.toInt aG <= 8) (xT : ∀ k : Nat, 0 <= Int32.toInt (nG k) /\ Int32.toInt (nG k) <= 99) (zG : ∀ k : Nat, -128 <= Int32.toInt (qO k) /\ Int32.toInt (qO k) <= 127) (zI : ∀ k : Nat, -128 <= Int32.toInt (qQ k) /\ Int32.toInt (qQ k) <= 127) (hpost : ∀ (r : Int32) (aBT : Int32) (xM : Int32) (xG : Int32) (aAP : Nat) (zS : Int32) (aAz : Int32) (aAm : Int32) (zH : Int32) (aBX : Nat -> Int32) (aDo : Nat -> Int32) (aOe : Nat -> Int32), (0 <= Int32.toInt aBT /\ Int32.toInt aBT <= 0) -> (0 <= Int32.toInt xM /\ Int32.toInt xM <= 16) -> (0 <= Int32.toInt xG /\ Int32.toInt xG <= 0) -> (aAP = 1) -> (0 <= Int32.toInt zS /\ Int32.toInt zS <= 80) -> (80 <= Int32.toInt aAz /\ Int32.toInt aAz <= 80) -> (0 <= Int32.toInt aAm /\ Int32.toInt aAm <= 80) -> (-1 <= Int32.toInt zH /\ Int32.toInt zH <= 80) -> (∀ k : Nat, 0 <= Int32.toInt (aDo k) /\ Int32.toInt (aDo k) <= 99) -> post r aBT xM xG aAP zS aAz aAm zH aBX aDo aOe) (hK300 : ∀ (x2 : Int32) (x4 : Int32) (x5 : Int32) (x6 : Int32) (jC : Int32) (bL : Int32) (bY : Int32) (jD : Nat) (mLn : Int32) (oF : Int32) (rP : Int32) (dQ : Int32) (sW : Nat -> Int32) (uZ : Nat -> Int32) (vY : Nat -> Int32), (0 <= Int32.toInt x2 /\ Int32.toInt x2 <= 7) -> (-1 <= Int32.toInt x5 /\ Int32.toInt x5 <= 7) -> (0 <= Int32.toInt x6 /\ Int32.toInt x6 <= 6) -> (0 <= Int32.toInt jC /\ Int32.toInt jC <= 0) -> (0 <= Int32.toInt bL /\ Int32.toInt bL <= 16) -> (0 <= Int32.toInt bY /\ Int32.toInt bY <= 0) -> (jD = 1) -> (0 <= Int32.toInt mLn /\ Int32.toInt mLn <= 80) -> (80 <= Int32.toInt oF /\ Int32.toInt oF <= 80) -> (0 <= Int32.toInt rP /\ Int32.toInt rP <= 80) -> (-1 <= Int32.toInt dQ /\ Int32.toInt dQ <= -1) -> (∀ k : Nat, 0 <= Int32.toInt (uZ k) /\ Int32.toInt (uZ k) <= 99) -> (GD vY x2 aG (-1) 0) -> (NX vY x2 aG x6 x5 x4) -> (Int32.toInt bL <= Int32.toInt x6) -> (Int32.toInt x6 <= Int32.toInt x2 \/ Int32.toInt x6 = 0) -> (Int32.toInt x2 <= 6) -> (6 - Int32.toInt x6 < n300) -> K300 x2 x4 x5 x6 jC bL bY jD mLn oF rP dQ sW uZ vY) : ∀ (n : Nat) (x2 x4 x5 x6 x7 jC bL bY : Int32) (jD : Nat) (mLn oF rP dQ : Int32) (sW uZ vY : Nat -> Int32), (1 <= Int32.toInt x2 /\ Int32.toInt x2 <= 7) -> (1 <= Int32.toInt x4 /\ Int32.toInt x4 <= 2147483647) -> (-1 <= Int32.toInt x5 /\ Int32.toInt x5 <= 7) -> (0 <= Int32.toInt x6 /\ Int32.toInt x6 <= 6) -> (0 <= Int32.toInt x7 /\ Int32.toInt x7 <= 7) -> (0 <= Int32.toInt jC /\ Int32.toInt jC <= 0) -> (0 <= Int32.toInt bL /\ Int32.toInt bL <= 16) -> (0 <= Int32.toInt bY /\ Int32.toInt bY <= 0) -> (jD = 1) -> (0 <= Int32.toInt mLn /\ Int32.toInt mLn <= 80) -> (80 <= Int32.toInt oF /\ Int32.toInt oF <= 80) -> (0 <= Int32.toInt rP /\ Int32.toInt rP <= 80) -> (-1 <= Int32.toInt dQ /\ Int32.toInt dQ <= -1) -> (∀ k : Nat, 0 <= Int32.toInt (uZ k) /\ Int32.toInt (uZ k) <= 99) -> (GD vY x2 aG (-1) 0) -> (Int32.toInt bL <= Int32.toInt x6) -> (Int32.toInt x6 < Int32.toInt x2) -> (Int32.toInt x2 <= 6) -> (0 < Int32.toInt x4) -> (EX vY aG x6 x5 x7) -> (6 - Int32.toInt x6 <= n300) -> (7 - Int32.toInt x7 < (n : Int)) -> wb_X10_grass_314 post K300 aG nG qO qQ n x2 x4 x5 x6 x7 jC bL bY jD mLn oF rP dQ sW uZ vY := by
  intro n
  induction n with
  | zero =>
    intro x2 x4 x5 x6 x7 jC bL bY jD mLn oF rP dQ sW uZ vY aBN aDO aF7 h_x6 h_x7 aA4 yJ yG yM zE aAR aA1 aAA aBW hx0 hx1 hx2 hx3 hx4 hx5 hn300 hm
    exfalso; omega
  | succ n ih =>
    intro x2 x4 x5 x6 x7 jC bL bY jD mLn oF rP dQ sW uZ vY aBN aDO aF7 h_x6 h_x7 aA4 yJ yG yM zE aAR aA1 aAA aBW hx0 hx1 hx2 hx3 hx4 hx5 hn300 hm
    exact ts_X10_grass_314 aG nG qO qQ vZ xT zG zI hpost hK300 ih x2 x4 x5 x6 x7 jC bL bY jD mLn oF rP dQ sW uZ vY aBN aDO aF7 h_x6 h_x7 aA4 yJ yG yM zE aAR aA1 aAA aBW hx0 hx1 hx2 hx3 hx4 hx5 hn300 (by omega)
set_option maxHeartbeats 8000000 in
set_option maxRecDepth 200000 in
theorem ts_X10_grass_300 {post : Int32 -> Int32 -> Int32 -> Int32 -> Nat -> Int32 -> Int32 -> Int32 -> Int32 -> (Nat -> Int32) -> (Nat -> Int32) -> (Nat -> Int32) -> Prop} {next : Int32 -> Int32 -> Int32 -> Int32 -> Int32 -> Int32 -> Int32 -> Nat -> Int32 -> Int32 -> Int32 -> Int32 -> (Nat -> Int32) -> (Nat -> Int32) -> (Nat -> Int32) -> Prop} {n300 : Int} (aG : Int32) (nG qO qQ : Nat -> Int32) (vZ : 0 <= Int32.toInt aG /\ Int32.toInt aG <= 8) (xT : ∀ k : Nat, 0 <= Int32.toInt (nG k) /\ Int32.toInt (nG k) <= 99) (zG : ∀ k : Nat, -128 <= Int32.toInt (qO k) /\ Int32.toInt (qO k) <= 127) (zI : ∀ k : Nat, -128 <= Int32.toInt (qQ k) /\ Int32.toInt (qQ k) <= 127) (hpost : ∀ (r : Int32) (aBT : Int32) (xM : Int32) (xG : Int32) (aAP : Nat) (zS : Int32) (aAz : Int32) (aAm : Int32) (zH : Int32) (aBX : Nat -> Int32) (aDo : Nat -> Int32) (aOe : Nat -> Int32), (0 <= Int32.toInt aBT /\ Int32.toInt aBT <= 0) -> (0 <= Int32.toInt xM /\ Int32.toInt xM <= 16) -> (0 <= Int32.toInt xG /\ Int32.toInt xG <= 0) -> (aAP = 1) -> (0 <= Int32.toInt zS /\ Int32.toInt zS <= 80) -> (80 <= Int32.toInt aAz /\ Int32.toInt aAz <= 80) -> (0 <= Int32.toInt aAm /\ Int32.toInt aAm <= 80) -> (-1 <= Int32.toInt zH /\ Int32.toInt zH <= 80) -> (∀ k : Nat, 0 <= Int32.toInt (aDo k) /\ Int32.toInt (aDo k) <= 99) -> post r aBT xM xG aAP zS aAz aAm zH aBX aDo aOe) (hKn : ∀ (x2 : Int32) (x4 : Int32) (x5 : Int32) (x6 : Int32) (jC : Int32) (bL : Int32) (bY : Int32) (jD : Nat) (mLn : Int32) (oF : Int32) (rP : Int32) (dQ : Int32) (sW : Nat -> Int32) (uZ : Nat -> Int32) (vY : Nat -> Int32), (0 <= Int32.toInt x2 /\ Int32.toInt x2 <= 7) -> (-1 <= Int32.toInt x5 /\ Int32.toInt x5 <= 7) -> (0 <= Int32.toInt x6 /\ Int32.toInt x6 <= 6) -> (0 <= Int32.toInt jC /\ Int32.toInt jC <= 0) -> (0 <= Int32.toInt bL /\ Int32.toInt bL <= 16) -> (0 <= Int32.toInt bY /\ Int32.toInt bY <= 0) -> (jD = 1) -> (0 <= Int32.toInt mLn /\ Int32.toInt mLn <= 80) -> (80 <= Int32.toInt oF /\ Int32.toInt oF <= 80) -> (0 <= Int32.toInt rP /\ Int32.toInt rP <= 80) -> (-1 <= Int32.toInt dQ /\ Int32.toInt dQ <= -1) -> (∀ k : Nat, 0 <= Int32.toInt (uZ k) /\ Int32.toInt (uZ k) <= 99) -> (GD vY x2 aG (-1) 0) -> (NX vY x2 aG x6 x5 x4) -> (Int32.toInt bL <= Int32.toInt x6) -> (Int32.toInt x6 <= Int32.toInt x2 \/ Int32.toInt x6 = 0) -> (Int32.toInt x2 <= 6) -> (6 - Int32.toInt x6 < n300) -> next x2 x4 x5 x6 jC bL bY jD mLn oF rP dQ sW uZ vY) (x2 x4 x5 x6 jC bL bY : Int32) (jD : Nat) (mLn oF rP dQ : Int32) (sW uZ vY : Nat -> Int32) (aBN : 0 <= Int32.toInt x2 /\ Int32.toInt x2 <= 7) (aF7 : -1 <= Int32.toInt x5 /\ Int32.toInt x5 <= 7) (h_x6 : 0 <= Int32.toInt x6 /\ Int32.toInt x6 <= 6) (aA4 : 0 <= Int32.toInt jC /\ Int32.toInt jC <= 0) (yJ : 0 <= Int32.toInt bL /\ Int32.toInt bL <= 16) (yG : 0 <= Int32.toInt bY /\ Int32.toInt bY <= 0) (yM : jD = 1) (zE : 0 <= Int32.toInt mLn /\ Int32.toInt mLn <= 80) (aAR : 80 <= Int32.toInt oF /\ Int32.toInt oF <= 80) (aA1 : 0 <= Int32.toInt rP /\ Int32.toInt rP <= 80) (aAA : -1 <= Int32.toInt dQ /\ Int32.toInt dQ <= -1) (aBW : ∀ k : Nat, 0 <= Int32.toInt (uZ k) /\ Int32.toInt (uZ k) <= 99) (hx0 : GD vY x2 aG (-1) 0) (hx1 : NX vY x2 aG x6 x5 x4) (hx2 : Int32.toInt bL <= Int32.toInt x6) (hx3 : Int32.toInt x6 <= Int32.toInt x2 \/ Int32.toInt x6 = 0) (hx4 : Int32.toInt x2 <= 6) (hn300 : 6 - Int32.toInt x6 <= n300) : ws_X10_grass_300 post next aG nG qO qQ x2 x4 x5 x6 jC bL bY jD mLn oF rP dQ sW uZ vY := by
  have l0 := aE0
  refine And.intro (fun c29 => ?_) (fun c29 => ?_)
  · skip
    have c29 := (aAO _ _).mp c29
    exact hpost _ _ _ _ _ _ _ _ _ _ _ _ aA4 yJ yG yM zE aAR aA1 (by omega) aBW
  · skip
    have c29 := mt (aAO _ _).mpr c29
    have f31 := aAT x4
    refine And.intro (fun c30 => ?_) (fun c30 => ?_)
    · skip
      have c30 := (aAO _ _).mp c30
      exact hpost _ _ _ _ _ _ _ _ _ _ _ _ aA4 yJ yG yM zE aAR aA1 (by omega) aBW
    · skip
      have c30 := mt (aAO _ _).mpr c30
      exact ⟨9, tb_X10_grass_314 aG nG qO qQ vZ xT zG zI hpost hKn _ x2 x4 x5 x6 0 jC bL bY jD mLn oF rP dQ sW uZ vY (by omega) (by omega) aF7 h_x6 (by omega) aA4 yJ yG yM zE aAR aA1 aAA aBW (by first | assumption | exact GD_init (by omega) | exact GD_dn (by assumption) (by omega) (by omega) | exact GD_s (by assumption) (by omega) | exact GD_eq (by assumption) (by omega)) hx2 (by omega) hx4 (by omega) (by first | assumption | exact EX_0 (by assumption) (by omega) (by omega) | exact EX_s (by assumption) (by omega)) hn300 (by omega)⟩
set_option maxHeartbeats 8000000 in
set_option maxRecDepth 200000 in
theorem tb_X10_grass_300 {post : Int32 -> Int32 -> Int32 -> Int32 -> Nat -> Int32 -> Int32 -> Int32 -> Int32 -> (Nat -> Int32) -> (Nat -> Int32) -> (Nat -> Int32) -> Prop} (aG : Int32) (nG qO qQ : Nat -> Int32) (vZ : 0 <= Int32.toInt aG /\ Int32.toInt aG <= 8) (xT : ∀ k : Nat, 0 <= Int32.toInt (nG k) /\ Int32.toInt (nG k) <= 99) (zG : ∀ k : Nat, -128 <= Int32.toInt (qO k) /\ Int32.toInt (qO k) <= 127) (zI : ∀ k : Nat, -128 <= Int32.toInt (qQ k) /\ Int32.toInt (qQ k) <= 127) (hpost : ∀ (r : Int32) (aBT : Int32) (xM : Int32) (xG : Int32) (aAP : Nat) (zS : Int32) (aAz : Int32) (aAm : Int32) (zH : Int32) (aBX : Nat -> Int32) (aDo : Nat -> Int32) (aOe : Nat -> Int32), (0 <= Int32.toInt aBT /\ Int32.toInt aBT <= 0) -> (0 <= Int32.toInt xM /\ Int32.toInt xM <= 16) -> (0 <= Int32.toInt xG /\ Int32.toInt xG <= 0) -> (aAP = 1) -> (0 <= Int32.toInt zS /\ Int32.toInt zS <= 80) -> (80 <= Int32.toInt aAz /\ Int32.toInt aAz <= 80) -> (0 <= Int32.toInt aAm /\ Int32.toInt aAm <= 80) -> (-1 <= Int32.toInt zH /\ Int32.toInt zH <= 80) -> (∀ k : Nat, 0 <= Int32.toInt (aDo k) /\ Int32.toInt (aDo k) <= 99) -> post r aBT xM xG aAP zS aAz aAm zH aBX aDo aOe) : ∀ (n : Nat) (x2 x4 x5 x6 jC bL bY : Int32) (jD : Nat) (mLn oF rP dQ : Int32) (sW uZ vY : Nat -> Int32), (0 <= Int32.toInt x2 /\ Int32.toInt x2 <= 7) -> (-1 <= Int32.toInt x5 /\ Int32.toInt x5 <= 7) -> (0 <= Int32.toInt x6 /\ Int32.toInt x6 <= 6) -> (0 <= Int32.toInt jC /\ Int32.toInt jC <= 0) -> (0 <= Int32.toInt bL /\ Int32.toInt bL <= 16) -> (0 <= Int32.toInt bY /\ Int32.toInt bY <= 0) -> (jD = 1) -> (0 <= Int32.toInt mLn /\ Int32.toInt mLn <= 80) -> (80 <= Int32.toInt oF /\ Int32.toInt oF <= 80) -> (0 <= Int32.toInt rP /\ Int32.toInt rP <= 80) -> (-1 <= Int32.toInt dQ /\ Int32.toInt dQ <= -1) -> (∀ k : Nat, 0 <= Int32.toInt (uZ k) /\ Int32.toInt (uZ k) <= 99) -> (GD vY x2 aG (-1) 0) -> (NX vY x2 aG x6 x5 x4) -> (Int32.toInt bL <= Int32.toInt x6) -> (Int32.toInt x6 <= Int32.toInt x2 \/ Int32.toInt x6 = 0) -> (Int32.toInt x2 <= 6) -> (6 - Int32.toInt x6 < (n : Int)) -> wb_X10_grass_300 post aG nG qO qQ n x2 x4 x5 x6 jC bL bY jD mLn oF rP dQ sW uZ vY := by
  intro n
  induction n with
  | zero =>
    intro x2 x4 x5 x6 jC bL bY jD mLn oF rP dQ sW uZ vY aBN aF7 h_x6 aA4 yJ yG yM zE aAR aA1 aAA aBW hx0 hx1 hx2 hx3 hx4 hm
    exfalso; omega
  | succ n ih =>
    intro x2 x4 x5 x6 jC bL bY jD mLn oF rP dQ sW uZ vY aBN aF7 h_x6 aA4 yJ yG yM zE aAR aA1 aAA aBW hx0 hx1 hx2 hx3 hx4 hm
    exact ts_X10_grass_300 aG nG qO qQ vZ xT zG zI hpost ih x2 x4 x5 x6 jC bL bY jD mLn oF rP dQ sW uZ vY aBN aF7 h_x6 aA4 yJ yG yM zE aAR aA1 aAA aBW hx0 hx1 hx2 hx3 hx4 (by omega)
set_option maxHeartbeats 8000000 in
set_option maxRecDepth 200000 in
theorem ts_X10_grass_277 {post : Int32 -> Int32 -> Int32 -> Int32 -> Nat -> Int32 -> Int32 -> Int32 -> Int32 -> (Nat -> Int32) -> (Nat -> Int32) -> (Nat -> Int32) -> Prop} {K134 : Int32 -> Int32 -> Int32 -> Int32 -> Int32 -> Int32 -> Int32 -> Nat -> Int32 -> Int32 -> Int32 -> Int32 -> (Nat -> Int32) -> (Nat -> Int32) -> (Nat -> Int32) -> Prop} {K142 : Int32 -> Int32 -> Int32 -> Int32 -> Int32 -> Int32 -> Int32 -> Int32 -> Nat -> Int32 -> Int32 -> Int32 -> Int32 -> (Nat -> Int32) -> (Nat -> Int32) -> (Nat -> Int32) -> Prop} {n134 n142 : Int} (aG : Int32) (nG qO qQ : Nat -> Int32) (vZ : 0 <= Int32.toInt aG /\ Int32.toInt aG <= 8) (xT : ∀ k : Nat, 0 <= Int32.toInt (nG k) /\ Int32.toInt (nG k) <= 99) (zG : ∀ k : Nat, -128 <= Int32.toInt (qO k) /\ Int32.toInt (qO k) <= 127) (zI : ∀ k : Nat, -128 <= Int32.toInt (qQ k) /\ Int32.toInt (qQ k) <= 127) (hpost : ∀ (r : Int32) (aBT : Int32) (xM : Int32) (xG : Int32) (aAP : Nat) (zS : Int32) (aAz : Int32) (aAm : Int32) (zH : Int32) (aBX : Nat -> Int32) (aDo : Nat -> Int32) (aOe : Nat -> Int32), (0 <= Int32.toInt aBT /\ Int32.toInt aBT <= 0) -> (0 <= Int32.toInt xM /\ Int32.toInt xM <= 16) -> (0 <= Int32.toInt xG /\ Int32.toInt xG <= 0) -> (aAP = 1) -> (0 <= Int32.toInt zS /\ Int32.toInt zS <= 80) -> (80 <= Int32.toInt aAz /\ Int32.toInt aAz <= 80) -> (0 <= Int32.toInt aAm /\ Int32.toInt aAm <= 80) -> (-1 <= Int32.toInt zH /\ Int32.toInt zH <= 80) -> (∀ k : Nat, 0 <= Int32.toInt (aDo k) /\ Int32.toInt (aDo k) <= 99) -> post r aBT xM xG aAP zS aAz aAm zH aBX aDo aOe) (hK134 : ∀ (x1 : Int32) (x2 : Int32) (x4 : Int32) (x5 : Int32) (jC : Int32) (bL : Int32) (bY : Int32) (jD : Nat) (mLn : Int32) (oF : Int32) (rP : Int32) (dQ : Int32) (sW : Nat -> Int32) (uZ : Nat -> Int32) (vY : Nat -> Int32), (0 <= Int32.toInt x1 /\ Int32.toInt x1 <= 99) -> (0 <= Int32.toInt x2 /\ Int32.toInt x2 <= 7) -> (-1 <= Int32.toInt x5 /\ Int32.toInt x5 <= 6) -> (0 <= Int32.toInt jC /\ Int32.toInt jC <= 0) -> (0 <= Int32.toInt bL /\ Int32.toInt bL <= 16) -> (0 <= Int32.toInt bY /\ Int32.toInt bY <= 0) -> (jD = 1) -> (0 <= Int32.toInt mLn /\ Int32.toInt mLn <= 80) -> (80 <= Int32.toInt oF /\ Int32.toInt oF <= 80) -> (0 <= Int32.toInt rP /\ Int32.toInt rP <= 80) -> (-1 <= Int32.toInt dQ /\ Int32.toInt dQ <= -1) -> (∀ k : Nat, 0 <= Int32.toInt (uZ k) /\ Int32.toInt (uZ k) <= 99) -> (GD vY x2 aG x5 0) -> (AL vY x4 aG) -> (0 <= Int32.toInt x5 -> Int32.toInt x4 = 0) -> (Int32.toInt x5 <= Int32.toInt x2 - 1) -> (Int32.toInt x2 <= 6) -> (Int32.toInt x5 + 1 < n134) -> K134 x1 x2 x4 x5 jC bL bY jD mLn oF rP dQ sW uZ vY) (hK142 : ∀ (x1 : Int32) (x2 : Int32) (x4 : Int32) (x5 : Int32) (x6 : Int32) (jC : Int32) (bL : Int32) (bY : Int32) (jD : Nat) (mLn : Int32) (oF : Int32) (rP : Int32) (dQ : Int32) (sW : Nat -> Int32) (uZ : Nat -> Int32) (vY : Nat -> Int32), (0 <= Int32.toInt x1 /\ Int32.toInt x1 <= 99) -> (0 <= Int32.toInt x2 /\ Int32.toInt x2 <= 7) -> (0 <= Int32.toInt x5 /\ Int32.toInt x5 <= 6) -> (0 <= Int32.toInt x6 /\ Int32.toInt x6 <= 8) -> (0 <= Int32.toInt jC /\ Int32.toInt jC <= 0) -> (0 <= Int32.toInt bL /\ Int32.toInt bL <= 16) -> (0 <= Int32.toInt bY /\ Int32.toInt bY <= 0) -> (jD = 1) -> (0 <= Int32.toInt mLn /\ Int32.toInt mLn <= 80) -> (80 <= Int32.toInt oF /\ Int32.toInt oF <= 80) -> (0 <= Int32.toInt rP /\ Int32.toInt rP <= 80) -> (-1 <= Int32.toInt dQ /\ Int32.toInt dQ <= -1) -> (∀ k : Nat, 0 <= Int32.toInt (uZ k) /\ Int32.toInt (uZ k) <= 99) -> (GD vY x2 aG x5 x6) -> (AL vY x4 x6) -> (1 <= Int32.toInt x5 -> Int32.toInt x4 = 0) -> (Int32.toInt x5 <= Int32.toInt x2 - 1) -> (Int32.toInt x2 <= 6) -> (Int32.toInt x6 <= Int32.toInt aG) -> (Int32.toInt x5 + 1 <= n134) -> (8 - Int32.toInt x6 < n142) -> K142 x1 x2 x4 x5 x6 jC bL bY jD mLn oF rP dQ sW uZ vY) (x1 x2 x4 x5 x6 jC bL bY : Int32) (jD : Nat) (mLn oF rP dQ : Int32) (sW uZ vY : Nat -> Int32) (aBK : 0 <= Int32.toInt x1 /\ Int32.toInt x1 <= 99) (aBN : 0 <= Int32.toInt x2 /\ Int32.toInt x2 <= 7) (aF7 : 0 <= Int32.toInt x5 /\ Int32.toInt x5 <= 6) (h_x6 : 0 <= Int32.toInt x6 /\ Int32.toInt x6 <= 7) (aA4 : 0 <= Int32.toInt jC /\ Int32.toInt jC <= 0) (yJ : 0 <= Int32.toInt bL /\ Int32.toInt bL <= 16) (yG : 0 <= Int32.toInt bY /\ Int32.toInt bY <= 0) (yM : jD = 1) (zE : 0 <= Int32.toInt mLn /\ Int32.toInt mLn <= 80) (aAR : 80 <= Int32.toInt oF /\ Int32.toInt oF <= 80) (aA1 : 0 <= Int32.toInt rP /\ Int32.toInt rP <= 80) (aAA : -1 <= Int32.toInt dQ /\ Int32.toInt dQ <= -1) (aBW : ∀ k : Nat, 0 <= Int32.toInt (uZ k) /\ Int32.toInt (uZ k) <= 99) (hx0 : GD1 vY x2 aG x5 x6) (hx1 : AL1 vY x4 x6) (hx2 : 1 <= Int32.toInt x5 -> Int32.toInt x4 = 0) (hx3 : Int32.toInt x5 <= Int32.toInt x2 - 1) (hx4 : Int32.toInt x2 <= 6) (hx5 : Int32.toInt x6 < Int32.toInt aG) (hn134 : Int32.toInt x5 + 1 <= n134) (hn142 : 8 - Int32.toInt x6 <= n142) : ws_X10_grass_277 post K134 K142 aG nG qO qQ x1 x2 x4 x5 x6 jC bL bY jD mLn oF rP dQ sW uZ vY := by
  have l0 := aEc
  intro v32 ev32
  have f33 : Int32.toInt (x6 + 1) = Int32.toInt x6 + Int32.toInt (1 : Int32) := aAD _ _ (by omega)
  rw [<- ev32] at f33
  have f34 := aAT x4
  exact hK142 x1 x2 x4 x5 v32 jC bL bY jD mLn oF rP dQ sW uZ vY aBK aBN aF7 (by omega) aA4 yJ yG yM zE aAR aA1 aAA aBW (by first | assumption | exact GD_init (by omega) | exact GD_dn (by assumption) (by omega) (by omega) | exact GD_s (by assumption) (by omega) | exact GD_eq (by assumption) (by omega)) (by first | assumption | exact AL_z (by omega) | exact AL_s (by assumption) (by omega) | exact AL_le (by assumption) (by omega)) hx2 hx3 hx4 (by omega) hn134 (by omega)
set_option maxHeartbeats 8000000 in
set_option maxRecDepth 200000 in
theorem ts_X10_grass_259 {post : Int32 -> Int32 -> Int32 -> Int32 -> Nat -> Int32 -> Int32 -> Int32 -> Int32 -> (Nat -> Int32) -> (Nat -> Int32) -> (Nat -> Int32) -> Prop} {K134 : Int32 -> Int32 -> Int32 -> Int32 -> Int32 -> Int32 -> Int32 -> Nat -> Int32 -> Int32 -> Int32 -> Int32 -> (Nat -> Int32) -> (Nat -> Int32) -> (Nat -> Int32) -> Prop} {K142 : Int32 -> Int32 -> Int32 -> Int32 -> Int32 -> Int32 -> Int32 -> Int32 -> Nat -> Int32 -> Int32 -> Int32 -> Int32 -> (Nat -> Int32) -> (Nat -> Int32) -> (Nat -> Int32) -> Prop} {n134 n142 : Int} (aG : Int32) (nG qO qQ : Nat -> Int32) (vZ : 0 <= Int32.toInt aG /\ Int32.toInt aG <= 8) (xT : ∀ k : Nat, 0 <= Int32.toInt (nG k) /\ Int32.toInt (nG k) <= 99) (zG : ∀ k : Nat, -128 <= Int32.toInt (qO k) /\ Int32.toInt (qO k) <= 127) (zI : ∀ k : Nat, -128 <= Int32.toInt (qQ k) /\ Int32.toInt (qQ k) <= 127) (hpost : ∀ (r : Int32) (aBT : Int32) (xM : Int32) (xG : Int32) (aAP : Nat) (zS : Int32) (aAz : Int32) (aAm : Int32) (zH : Int32) (aBX : Nat -> Int32) (aDo : Nat -> Int32) (aOe : Nat -> Int32), (0 <= Int32.toInt aBT /\ Int32.toInt aBT <= 0) -> (0 <= Int32.toInt xM /\ Int32.toInt xM <= 16) -> (0 <= Int32.toInt xG /\ Int32.toInt xG <= 0) -> (aAP = 1) -> (0 <= Int32.toInt zS /\ Int32.toInt zS <= 80) -> (80 <= Int32.toInt aAz /\ Int32.toInt aAz <= 80) -> (0 <= Int32.toInt aAm /\ Int32.toInt aAm <= 80) -> (-1 <= Int32.toInt zH /\ Int32.toInt zH <= 80) -> (∀ k : Nat, 0 <= Int32.toInt (aDo k) /\ Int32.toInt (aDo k) <= 99) -> post r aBT xM xG aAP zS aAz aAm zH aBX aDo aOe) (hK134 : ∀ (x1 : Int32) (x2 : Int32) (x4 : Int32) (x5 : Int32) (jC : Int32) (bL : Int32) (bY : Int32) (jD : Nat) (mLn : Int32) (oF : Int32) (rP : Int32) (dQ : Int32) (sW : Nat -> Int32) (uZ : Nat -> Int32) (vY : Nat -> Int32), (0 <= Int32.toInt x1 /\ Int32.toInt x1 <= 99) -> (0 <= Int32.toInt x2 /\ Int32.toInt x2 <= 7) -> (-1 <= Int32.toInt x5 /\ Int32.toInt x5 <= 6) -> (0 <= Int32.toInt jC /\ Int32.toInt jC <= 0) -> (0 <= Int32.toInt bL /\ Int32.toInt bL <= 16) -> (0 <= Int32.toInt bY /\ Int32.toInt bY <= 0) -> (jD = 1) -> (0 <= Int32.toInt mLn /\ Int32.toInt mLn <= 80) -> (80 <= Int32.toInt oF /\ Int32.toInt oF <= 80) -> (0 <= Int32.toInt rP /\ Int32.toInt rP <= 80) -> (-1 <= Int32.toInt dQ /\ Int32.toInt dQ <= -1) -> (∀ k : Nat, 0 <= Int32.toInt (uZ k) /\ Int32.toInt (uZ k) <= 99) -> (GD vY x2 aG x5 0) -> (AL vY x4 aG) -> (0 <= Int32.toInt x5 -> Int32.toInt x4 = 0) -> (Int32.toInt x5 <= Int32.toInt x2 - 1) -> (Int32.toInt x2 <= 6) -> (Int32.toInt x5 + 1 < n134) -> K134 x1 x2 x4 x5 jC bL bY jD mLn oF rP dQ sW uZ vY) (hK142 : ∀ (x1 : Int32) (x2 : Int32) (x4 : Int32) (x5 : Int32) (x6 : Int32) (jC : Int32) (bL : Int32) (bY : Int32) (jD : Nat) (mLn : Int32) (oF : Int32) (rP : Int32) (dQ : Int32) (sW : Nat -> Int32) (uZ : Nat -> Int32) (vY : Nat -> Int32), (0 <= Int32.toInt x1 /\ Int32.toInt x1 <= 99) -> (0 <= Int32.toInt x2 /\ Int32.toInt x2 <= 7) -> (0 <= Int32.toInt x5 /\ Int32.toInt x5 <= 6) -> (0 <= Int32.toInt x6 /\ Int32.toInt x6 <= 8) -> (0 <= Int32.toInt jC /\ Int32.toInt jC <= 0) -> (0 <= Int32.toInt bL /\ Int32.toInt bL <= 16) -> (0 <= Int32.toInt bY /\ Int32.toInt bY <= 0) -> (jD = 1) -> (0 <= Int32.toInt mLn /\ Int32.toInt mLn <= 80) -> (80 <= Int32.toInt oF /\ Int32.toInt oF <= 80) -> (0 <= Int32.toInt rP /\ Int32.toInt rP <= 80) -> (-1 <= Int32.toInt dQ /\ Int32.toInt dQ <= -1) -> (∀ k : Nat, 0 <= Int32.toInt (uZ k) /\ Int32.toInt (uZ k) <= 99) -> (GD vY x2 aG x5 x6) -> (AL vY x4 x6) -> (1 <= Int32.toInt x5 -> Int32.toInt x4 = 0) -> (Int32.toInt x5 <= Int32.toInt x2 - 1) -> (Int32.toInt x2 <= 6) -> (Int32.toInt x6 <= Int32.toInt aG) -> (Int32.toInt x5 + 1 <= n134) -> (8 - Int32.toInt x6 < n142) -> K142 x1 x2 x4 x5 x6 jC bL bY jD mLn oF rP dQ sW uZ vY) (x1 x2 x4 x5 x6 k1 k2 jC bL bY : Int32) (jD : Nat) (mLn oF rP dQ : Int32) (sW uZ vY : Nat -> Int32) (aBK : 0 <= Int32.toInt x1 /\ Int32.toInt x1 <= 99) (aBN : 0 <= Int32.toInt x2 /\ Int32.toInt x2 <= 7) (aF7 : 0 <= Int32.toInt x5 /\ Int32.toInt x5 <= 6) (h_x6 : 0 <= Int32.toInt x6 /\ Int32.toInt x6 <= 7) (h_k1 : 0 <= Int32.toInt k1 /\ Int32.toInt k1 <= 60) (aA4 : 0 <= Int32.toInt jC /\ Int32.toInt jC <= 0) (yJ : 0 <= Int32.toInt bL /\ Int32.toInt bL <= 16) (yG : 0 <= Int32.toInt bY /\ Int32.toInt bY <= 0) (yM : jD = 1) (zE : 0 <= Int32.toInt mLn /\ Int32.toInt mLn <= 80) (aAR : 80 <= Int32.toInt oF /\ Int32.toInt oF <= 80) (aA1 : 0 <= Int32.toInt rP /\ Int32.toInt rP <= 80) (aAA : -1 <= Int32.toInt dQ /\ Int32.toInt dQ <= -1) (aBW : ∀ k : Nat, 0 <= Int32.toInt (uZ k) /\ Int32.toInt (uZ k) <= 99) (hx0 : GD vY x2 aG x5 x6) (hx1 : AL vY x4 x6) (hx2 : 1 <= Int32.toInt x5 -> Int32.toInt x4 = 0) (hx3 : Int32.toInt x5 <= Int32.toInt x2 - 1) (hx4 : Int32.toInt x2 <= 6) (hx5 : Int32.toInt x6 < Int32.toInt aG) (hx6 : Int32.toInt k1 = 8 * Int32.toInt x5 + Int32.toInt x6) (hx7 : SU vY x2 x5 x6 aG k2) (hn134 : Int32.toInt x5 + 1 <= n134) (hn142 : 8 - Int32.toInt x6 <= n142) : ws_X10_grass_259 post K134 K142 aG nG qO qQ x1 x2 x4 x5 x6 k1 k2 jC bL bY jD mLn oF rP dQ sW uZ vY := by
  have l0 := aE0
  refine And.intro (aBZ (by omega)) ?_
  refine And.intro (fun c35 => ?_) (fun c35 => ?_)
  · skip
    have c35 := mt (zJ _ _).mpr c35
    have f36 := aAT x4
    exact ts_X10_grass_277 aG nG qO qQ vZ xT zG zI hpost hK134 hK142 x1 x2 x4 x5 x6 jC bL bY jD mLn oF rP dQ sW uZ (upd vY k1.toNatClampNeg k2) aBK aBN aF7 h_x6 aA4 yJ yG yM zE aAR aA1 aAA aBW (by first | assumption | exact GD_up (by assumption) (by assumption) (by omega) (by omega) (by omega) (by omega)) (by first | assumption | exact AL1_z (by omega) | exact AL_up (by assumption) (by assumption) (by omega) (by omega)) hx2 hx3 hx4 hx5 hn134 hn142
  · skip
    have c35 := (zJ _ _).mp c35
    refine And.intro (aBZ (by omega)) ?_
    intro v37 ev37
    have hv37 := congrArg Int32.toInt ev37
    have f39 := aAT v37
    exact ts_X10_grass_277 aG nG qO qQ vZ xT zG zI hpost hK134 hK142 x1 x2 v37 x5 x6 jC bL bY jD mLn oF rP dQ sW uZ (upd vY k1.toNatClampNeg k2) aBK aBN aF7 h_x6 aA4 yJ yG yM zE aAR aA1 aAA aBW (by first | assumption | exact GD_up (by assumption) (by assumption) (by omega) (by omega) (by omega) (by omega)) (by first | assumption | exact AL1_z (by omega) | exact AL_up (by assumption) (by assumption) (by omega) (by omega)) (by omega) hx3 hx4 hx5 hn134 hn142
set_option maxHeartbeats 8000000 in
set_option maxRecDepth 200000 in
theorem ts_X10_grass_219 {post : Int32 -> Int32 -> Int32 -> Int32 -> Nat -> Int32 -> Int32 -> Int32 -> Int32 -> (Nat -> Int32) -> (Nat -> Int32) -> (Nat -> Int32) -> Prop} {K134 : Int32 -> Int32 -> Int32 -> Int32 -> Int32 -> Int32 -> Int32 -> Nat -> Int32 -> Int32 -> Int32 -> Int32 -> (Nat -> Int32) -> (Nat -> Int32) -> (Nat -> Int32) -> Prop} {K142 : Int32 -> Int32 -> Int32 -> Int32 -> Int32 -> Int32 -> Int32 -> Int32 -> Nat -> Int32 -> Int32 -> Int32 -> Int32 -> (Nat -> Int32) -> (Nat -> Int32) -> (Nat -> Int32) -> Prop} {n134 n142 : Int} (aG : Int32) (nG qO qQ : Nat -> Int32) (vZ : 0 <= Int32.toInt aG /\ Int32.toInt aG <= 8) (xT : ∀ k : Nat, 0 <= Int32.toInt (nG k) /\ Int32.toInt (nG k) <= 99) (zG : ∀ k : Nat, -128 <= Int32.toInt (qO k) /\ Int32.toInt (qO k) <= 127) (zI : ∀ k : Nat, -128 <= Int32.toInt (qQ k) /\ Int32.toInt (qQ k) <= 127) (hpost : ∀ (r : Int32) (aBT : Int32) (xM : Int32) (xG : Int32) (aAP : Nat) (zS : Int32) (aAz : Int32) (aAm : Int32) (zH : Int32) (aBX : Nat -> Int32) (aDo : Nat -> Int32) (aOe : Nat -> Int32), (0 <= Int32.toInt aBT /\ Int32.toInt aBT <= 0) -> (0 <= Int32.toInt xM /\ Int32.toInt xM <= 16) -> (0 <= Int32.toInt xG /\ Int32.toInt xG <= 0) -> (aAP = 1) -> (0 <= Int32.toInt zS /\ Int32.toInt zS <= 80) -> (80 <= Int32.toInt aAz /\ Int32.toInt aAz <= 80) -> (0 <= Int32.toInt aAm /\ Int32.toInt aAm <= 80) -> (-1 <= Int32.toInt zH /\ Int32.toInt zH <= 80) -> (∀ k : Nat, 0 <= Int32.toInt (aDo k) /\ Int32.toInt (aDo k) <= 99) -> post r aBT xM xG aAP zS aAz aAm zH aBX aDo aOe) (hK134 : ∀ (x1 : Int32) (x2 : Int32) (x4 : Int32) (x5 : Int32) (jC : Int32) (bL : Int32) (bY : Int32) (jD : Nat) (mLn : Int32) (oF : Int32) (rP : Int32) (dQ : Int32) (sW : Nat -> Int32) (uZ : Nat -> Int32) (vY : Nat -> Int32), (0 <= Int32.toInt x1 /\ Int32.toInt x1 <= 99) -> (0 <= Int32.toInt x2 /\ Int32.toInt x2 <= 7) -> (-1 <= Int32.toInt x5 /\ Int32.toInt x5 <= 6) -> (0 <= Int32.toInt jC /\ Int32.toInt jC <= 0) -> (0 <= Int32.toInt bL /\ Int32.toInt bL <= 16) -> (0 <= Int32.toInt bY /\ Int32.toInt bY <= 0) -> (jD = 1) -> (0 <= Int32.toInt mLn /\ Int32.toInt mLn <= 80) -> (80 <= Int32.toInt oF /\ Int32.toInt oF <= 80) -> (0 <= Int32.toInt rP /\ Int32.toInt rP <= 80) -> (-1 <= Int32.toInt dQ /\ Int32.toInt dQ <= -1) -> (∀ k : Nat, 0 <= Int32.toInt (uZ k) /\ Int32.toInt (uZ k) <= 99) -> (GD vY x2 aG x5 0) -> (AL vY x4 aG) -> (0 <= Int32.toInt x5 -> Int32.toInt x4 = 0) -> (Int32.toInt x5 <= Int32.toInt x2 - 1) -> (Int32.toInt x2 <= 6) -> (Int32.toInt x5 + 1 < n134) -> K134 x1 x2 x4 x5 jC bL bY jD mLn oF rP dQ sW uZ vY) (hK142 : ∀ (x1 : Int32) (x2 : Int32) (x4 : Int32) (x5 : Int32) (x6 : Int32) (jC : Int32) (bL : Int32) (bY : Int32) (jD : Nat) (mLn : Int32) (oF : Int32) (rP : Int32) (dQ : Int32) (sW : Nat -> Int32) (uZ : Nat -> Int32) (vY : Nat -> Int32), (0 <= Int32.toInt x1 /\ Int32.toInt x1 <= 99) -> (0 <= Int32.toInt x2 /\ Int32.toInt x2 <= 7) -> (0 <= Int32.toInt x5 /\ Int32.toInt x5 <= 6) -> (0 <= Int32.toInt x6 /\ Int32.toInt x6 <= 8) -> (0 <= Int32.toInt jC /\ Int32.toInt jC <= 0) -> (0 <= Int32.toInt bL /\ Int32.toInt bL <= 16) -> (0 <= Int32.toInt bY /\ Int32.toInt bY <= 0) -> (jD = 1) -> (0 <= Int32.toInt mLn /\ Int32.toInt mLn <= 80) -> (80 <= Int32.toInt oF /\ Int32.toInt oF <= 80) -> (0 <= Int32.toInt rP /\ Int32.toInt rP <= 80) -> (-1 <= Int32.toInt dQ /\ Int32.toInt dQ <= -1) -> (∀ k : Nat, 0 <= Int32.toInt (uZ k) /\ Int32.toInt (uZ k) <= 99) -> (GD vY x2 aG x5 x6) -> (AL vY x4 x6) -> (1 <= Int32.toInt x5 -> Int32.toInt x4 = 0) -> (Int32.toInt x5 <= Int32.toInt x2 - 1) -> (Int32.toInt x2 <= 6) -> (Int32.toInt x6 <= Int32.toInt aG) -> (Int32.toInt x5 + 1 <= n134) -> (8 - Int32.toInt x6 < n142) -> K142 x1 x2 x4 x5 x6 jC bL bY jD mLn oF rP dQ sW uZ vY) (x1 x2 x4 x5 x6 x7 jC bL bY : Int32) (jD : Nat) (mLn oF rP dQ : Int32) (sW uZ vY : Nat -> Int32) (aBK : 0 <= Int32.toInt x1 /\ Int32.toInt x1 <= 99) (aBN : 0 <= Int32.toInt x2 /\ Int32.toInt x2 <= 7) (aF7 : 0 <= Int32.toInt x5 /\ Int32.toInt x5 <= 6) (h_x6 : 0 <= Int32.toInt x6 /\ Int32.toInt x6 <= 7) (aA4 : 0 <= Int32.toInt jC /\ Int32.toInt jC <= 0) (yJ : 0 <= Int32.toInt bL /\ Int32.toInt bL <= 16) (yG : 0 <= Int32.toInt bY /\ Int32.toInt bY <= 0) (yM : jD = 1) (zE : 0 <= Int32.toInt mLn /\ Int32.toInt mLn <= 80) (aAR : 80 <= Int32.toInt oF /\ Int32.toInt oF <= 80) (aA1 : 0 <= Int32.toInt rP /\ Int32.toInt rP <= 80) (aAA : -1 <= Int32.toInt dQ /\ Int32.toInt dQ <= -1) (aBW : ∀ k : Nat, 0 <= Int32.toInt (uZ k) /\ Int32.toInt (uZ k) <= 99) (hx0 : GD vY x2 aG x5 x6) (hx1 : AL vY x4 x6) (hx2 : 1 <= Int32.toInt x5 -> Int32.toInt x4 = 0) (hx3 : Int32.toInt x5 <= Int32.toInt x2 - 1) (hx4 : Int32.toInt x2 <= 6) (hx5 : Int32.toInt x6 < Int32.toInt aG) (hx6 : SU vY x2 x5 x6 aG x7) (hn134 : Int32.toInt x5 + 1 <= n134) (hn142 : 8 - Int32.toInt x6 <= n142) : ws_X10_grass_219 post K134 K142 aG nG qO qQ x1 x2 x4 x5 x6 x7 jC bL bY jD mLn oF rP dQ sW uZ vY := by
  have l0 := aE0
  have l1 := li_8
  intro v40 ev40
  have f41 : Int32.toInt (8 * x5) = Int32.toInt x5 * 8 := ta_cmul _ _ (by decide) (by omega)
  rw [<- ev40] at f41
  intro v42 ev42
  have f43 : Int32.toInt (v40 + x6) = Int32.toInt v40 + Int32.toInt x6 := aAD _ _ (by omega)
  rw [<- ev42] at f43
  refine And.intro (aBZ (by omega)) ?_
  intro v44 ev44
  have f45 := xT x6.toNatClampNeg
  have hv44 := congrArg Int32.toInt ev44
  refine And.intro (aBZ (by omega)) ?_
  intro v46 ev46
  have f48 := aBW x5.toNatClampNeg
  have f47 : Int32.toInt (v44 - (uZ x5.toNatClampNeg)) = Int32.toInt v44 - Int32.toInt (uZ x5.toNatClampNeg) := aCA _ _ (by omega)
  rw [<- ev46] at f47
  intro v49 ev49
  have f50 := ti_abs v46 (by omega)
  have hv49 := congrArg Int32.toInt ev49
  refine And.intro (fun c51 => ?_) (fun c51 => ?_)
  · skip
    have c51 := (aAd _ _).mp c51
    have f52 := aAT x4
    exact ts_X10_grass_259 aG nG qO qQ vZ xT zG zI hpost hK134 hK142 x1 x2 x4 x5 x6 v42 0 jC bL bY jD mLn oF rP dQ sW uZ vY aBK aBN aF7 h_x6 (by omega) aA4 yJ yG yM zE aAR aA1 aAA aBW (by first | assumption | exact GD_init (by omega) | exact GD_dn (by assumption) (by omega) (by omega) | exact GD_s (by assumption) (by omega) | exact GD_eq (by assumption) (by omega)) (by first | assumption | exact AL_z (by omega) | exact AL_s (by assumption) (by omega) | exact AL_le (by assumption) (by omega)) hx2 hx3 hx4 hx5 (by omega) (by first | assumption | exact SU_0 (by omega) | exact SU_s (by assumption) (by omega) | exact SU_le (by assumption) (by omega)) hn134 hn142
  · skip
    have c51 := mt (aAd _ _).mpr c51
    have f53 := aAT x4
    have f54 := aAT x7
    exact ts_X10_grass_259 aG nG qO qQ vZ xT zG zI hpost hK134 hK142 x1 x2 x4 x5 x6 v42 x7 jC bL bY jD mLn oF rP dQ sW uZ vY aBK aBN aF7 h_x6 (by omega) aA4 yJ yG yM zE aAR aA1 aAA aBW (by first | assumption | exact GD_init (by omega) | exact GD_dn (by assumption) (by omega) (by omega) | exact GD_s (by assumption) (by omega) | exact GD_eq (by assumption) (by omega)) (by first | assumption | exact AL_z (by omega) | exact AL_s (by assumption) (by omega) | exact AL_le (by assumption) (by omega)) hx2 hx3 hx4 hx5 (by omega) (by first | assumption | exact SU_0 (by omega) | exact SU_s (by assumption) (by omega) | exact SU_le (by assumption) (by omega)) hn134 hn142
set_option maxHeartbeats 8000000 in
set_option maxRecDepth 200000 in
theorem ts_X10_grass_213 {post : Int32 -> Int32 -> Int32 -> Int32 -> Nat -> Int32 -> Int32 -> Int32 -> Int32 -> (Nat -> Int32) -> (Nat -> Int32) -> (Nat -> Int32) -> Prop} {K134 : Int32 -> Int32 -> Int32 -> Int32 -> Int32 -> Int32 -> Int32 -> Nat -> Int32 -> Int32 -> Int32 -> Int32 -> (Nat -> Int32) -> (Nat -> Int32) -> (Nat -> Int32) -> Prop} {K142 : Int32 -> Int32 -> Int32 -> Int32 -> Int32 -> Int32 -> Int32 -> Int32 -> Nat -> Int32 -> Int32 -> Int32 -> Int32 -> (Nat -> Int32) -> (Nat -> Int32) -> (Nat -> Int32) -> Prop} {K169 : Int32 -> Int32 -> Int32 -> Int32 -> Int32 -> Int32 -> Int32 -> Int32 -> Int32 -> Int32 -> Nat -> Int32 -> Int32 -> Int32 -> Int32 -> (Nat -> Int32) -> (Nat -> Int32) -> (Nat -> Int32) -> Prop} {n134 n142 n169 : Int} (aG : Int32) (nG qO qQ : Nat -> Int32) (vZ : 0 <= Int32.toInt aG /\ Int32.toInt aG <= 8) (xT : ∀ k : Nat, 0 <= Int32.toInt (nG k) /\ Int32.toInt (nG k) <= 99) (zG : ∀ k : Nat, -128 <= Int32.toInt (qO k) /\ Int32.toInt (qO k) <= 127) (zI : ∀ k : Nat, -128 <= Int32.toInt (qQ k) /\ Int32.toInt (qQ k) <= 127) (hpost : ∀ (r : Int32) (aBT : Int32) (xM : Int32) (xG : Int32) (aAP : Nat) (zS : Int32) (aAz : Int32) (aAm : Int32) (zH : Int32) (aBX : Nat -> Int32) (aDo : Nat -> Int32) (aOe : Nat -> Int32), (0 <= Int32.toInt aBT /\ Int32.toInt aBT <= 0) -> (0 <= Int32.toInt xM /\ Int32.toInt xM <= 16) -> (0 <= Int32.toInt xG /\ Int32.toInt xG <= 0) -> (aAP = 1) -> (0 <= Int32.toInt zS /\ Int32.toInt zS <= 80) -> (80 <= Int32.toInt aAz /\ Int32.toInt aAz <= 80) -> (0 <= Int32.toInt aAm /\ Int32.toInt aAm <= 80) -> (-1 <= Int32.toInt zH /\ Int32.toInt zH <= 80) -> (∀ k : Nat, 0 <= Int32.toInt (aDo k) /\ Int32.toInt (aDo k) <= 99) -> post r aBT xM xG aAP zS aAz aAm zH aBX aDo aOe) (hK134 : ∀ (x1 : Int32) (x2 : Int32) (x4 : Int32) (x5 : Int32) (jC : Int32) (bL : Int32) (bY : Int32) (jD : Nat) (mLn : Int32) (oF : Int32) (rP : Int32) (dQ : Int32) (sW : Nat -> Int32) (uZ : Nat -> Int32) (vY : Nat -> Int32), (0 <= Int32.toInt x1 /\ Int32.toInt x1 <= 99) -> (0 <= Int32.toInt x2 /\ Int32.toInt x2 <= 7) -> (-1 <= Int32.toInt x5 /\ Int32.toInt x5 <= 6) -> (0 <= Int32.toInt jC /\ Int32.toInt jC <= 0) -> (0 <= Int32.toInt bL /\ Int32.toInt bL <= 16) -> (0 <= Int32.toInt bY /\ Int32.toInt bY <= 0) -> (jD = 1) -> (0 <= Int32.toInt mLn /\ Int32.toInt mLn <= 80) -> (80 <= Int32.toInt oF /\ Int32.toInt oF <= 80) -> (0 <= Int32.toInt rP /\ Int32.toInt rP <= 80) -> (-1 <= Int32.toInt dQ /\ Int32.toInt dQ <= -1) -> (∀ k : Nat, 0 <= Int32.toInt (uZ k) /\ Int32.toInt (uZ k) <= 99) -> (GD vY x2 aG x5 0) -> (AL vY x4 aG) -> (0 <= Int32.toInt x5 -> Int32.toInt x4 = 0) -> (Int32.toInt x5 <= Int32.toInt x2 - 1) -> (Int32.toInt x2 <= 6) -> (Int32.toInt x5 + 1 < n134) -> K134 x1 x2 x4 x5 jC bL bY jD mLn oF rP dQ sW uZ vY) (hK142 : ∀ (x1 : Int32) (x2 : Int32) (x4 : Int32) (x5 : Int32) (x6 : Int32) (jC : Int32) (bL : Int32) (bY : Int32) (jD : Nat) (mLn : Int32) (oF : Int32) (rP : Int32) (dQ : Int32) (sW : Nat -> Int32) (uZ : Nat -> Int32) (vY : Nat -> Int32), (0 <= Int32.toInt x1 /\ Int32.toInt x1 <= 99) -> (0 <= Int32.toInt x2 /\ Int32.toInt x2 <= 7) -> (0 <= Int32.toInt x5 /\ Int32.toInt x5 <= 6) -> (0 <= Int32.toInt x6 /\ Int32.toInt x6 <= 8) -> (0 <= Int32.toInt jC /\ Int32.toInt jC <= 0) -> (0 <= Int32.toInt bL /\ Int32.toInt bL <= 16) -> (0 <= Int32.toInt bY /\ Int32.toInt bY <= 0) -> (jD = 1) -> (0 <= Int32.toInt mLn /\ Int32.toInt mLn <= 80) -> (80 <= Int32.toInt oF /\ Int32.toInt oF <= 80) -> (0 <= Int32.toInt rP /\ Int32.toInt rP <= 80) -> (-1 <= Int32.toInt dQ /\ Int32.toInt dQ <= -1) -> (∀ k : Nat, 0 <= Int32.toInt (uZ k) /\ Int32.toInt (uZ k) <= 99) -> (GD vY x2 aG x5 x6) -> (AL vY x4 x6) -> (1 <= Int32.toInt x5 -> Int32.toInt x4 = 0) -> (Int32.toInt x5 <= Int32.toInt x2 - 1) -> (Int32.toInt x2 <= 6) -> (Int32.toInt x6 <= Int32.toInt aG) -> (Int32.toInt x5 + 1 <= n134) -> (8 - Int32.toInt x6 < n142) -> K142 x1 x2 x4 x5 x6 jC bL bY jD mLn oF rP dQ sW uZ vY) (hK169 : ∀ (x1 : Int32) (x2 : Int32) (x4 : Int32) (x5 : Int32) (x6 : Int32) (x7 : Int32) (x8 : Int32) (jC : Int32) (bL : Int32) (bY : Int32) (jD : Nat) (mLn : Int32) (oF : Int32) (rP : Int32) (dQ : Int32) (sW : Nat -> Int32) (uZ : Nat -> Int32) (vY : Nat -> Int32), (0 <= Int32.toInt x1 /\ Int32.toInt x1 <= 99) -> (0 <= Int32.toInt x2 /\ Int32.toInt x2 <= 7) -> (0 <= Int32.toInt x5 /\ Int32.toInt x5 <= 6) -> (0 <= Int32.toInt x6 /\ Int32.toInt x6 <= 7) -> (0 <= Int32.toInt x8 /\ Int32.toInt x8 <= 8) -> (0 <= Int32.toInt jC /\ Int32.toInt jC <= 0) -> (0 <= Int32.toInt bL /\ Int32.toInt bL <= 16) -> (0 <= Int32.toInt bY /\ Int32.toInt bY <= 0) -> (jD = 1) -> (0 <= Int32.toInt mLn /\ Int32.toInt mLn <= 80) -> (80 <= Int32.toInt oF /\ Int32.toInt oF <= 80) -> (0 <= Int32.toInt rP /\ Int32.toInt rP <= 80) -> (-1 <= Int32.toInt dQ /\ Int32.toInt dQ <= -1) -> (∀ k : Nat, 0 <= Int32.toInt (uZ k) /\ Int32.toInt (uZ k) <= 99) -> (GD vY x2 aG x5 x6) -> (AL vY x4 x6) -> (1 <= Int32.toInt x5 -> Int32.toInt x4 = 0) -> (Int32.toInt x5 <= Int32.toInt x2 - 1) -> (Int32.toInt x2 <= 6) -> (Int32.toInt x6 < Int32.toInt aG) -> (Int32.toInt x8 <= Int32.toInt aG) -> (SU vY x2 x5 x6 x8 x7) -> (Int32.toInt x5 + 1 <= n134) -> (8 - Int32.toInt x6 <= n142) -> (8 - Int32.toInt x8 < n169) -> K169 x1 x2 x4 x5 x6 x7 x8 jC bL bY jD mLn oF rP dQ sW uZ vY) (x1 x2 x4 x5 x6 x7 x8 jC bL bY : Int32) (jD : Nat) (mLn oF rP dQ : Int32) (sW uZ vY : Nat -> Int32) (aBK : 0 <= Int32.toInt x1 /\ Int32.toInt x1 <= 99) (aBN : 0 <= Int32.toInt x2 /\ Int32.toInt x2 <= 7) (aF7 : 0 <= Int32.toInt x5 /\ Int32.toInt x5 <= 5) (h_x6 : 0 <= Int32.toInt x6 /\ Int32.toInt x6 <= 7) (h_x8 : 0 <= Int32.toInt x8 /\ Int32.toInt x8 <= 7) (aA4 : 0 <= Int32.toInt jC /\ Int32.toInt jC <= 0) (yJ : 0 <= Int32.toInt bL /\ Int32.toInt bL <= 16) (yG : 0 <= Int32.toInt bY /\ Int32.toInt bY <= 0) (yM : jD = 1) (zE : 0 <= Int32.toInt mLn /\ Int32.toInt mLn <= 80) (aAR : 80 <= Int32.toInt oF /\ Int32.toInt oF <= 80) (aA1 : 0 <= Int32.toInt rP /\ Int32.toInt rP <= 80) (aAA : -1 <= Int32.toInt dQ /\ Int32.toInt dQ <= -1) (aBW : ∀ k : Nat, 0 <= Int32.toInt (uZ k) /\ Int32.toInt (uZ k) <= 99) (hx0 : GD vY x2 aG x5 x6) (hx1 : AL vY x4 x6) (hx2 : 1 <= Int32.toInt x5 -> Int32.toInt x4 = 0) (hx3 : Int32.toInt x5 <= Int32.toInt x2 - 1) (hx4 : Int32.toInt x2 <= 6) (hx5 : Int32.toInt x6 < Int32.toInt aG) (hx6 : Int32.toInt x8 < Int32.toInt aG) (hx7 : SU1 vY x2 x5 x6 x8 x7) (hn134 : Int32.toInt x5 + 1 <= n134) (hn142 : 8 - Int32.toInt x6 <= n142) (hn169 : 8 - Int32.toInt x8 <= n169) : ws_X10_grass_213 post K134 K142 K169 aG nG qO qQ x1 x2 x4 x5 x6 x7 x8 jC bL bY jD mLn oF rP dQ sW uZ vY := by
  have l0 := aEc
  intro v55 ev55
  have f56 : Int32.toInt (x8 + 1) = Int32.toInt x8 + Int32.toInt (1 : Int32) := aAD _ _ (by omega)
  rw [<- ev55] at f56
  have f57 := aAT x4
  have f58 := aAT x7
  exact hK169 x1 x2 x4 x5 x6 x7 v55 jC bL bY jD mLn oF rP dQ sW uZ vY aBK aBN (by omega) h_x6 (by omega) aA4 yJ yG yM zE aAR aA1 aAA aBW (by first | assumption | exact GD_init (by omega) | exact GD_dn (by assumption) (by omega) (by omega) | exact GD_s (by assumption) (by omega) | exact GD_eq (by assumption) (by omega)) (by first | assumption | exact AL_z (by omega) | exact AL_s (by assumption) (by omega) | exact AL_le (by assumption) (by omega)) hx2 hx3 hx4 hx5 (by omega) (by first | assumption | exact SU_0 (by omega) | exact SU_s (by assumption) (by omega) | exact SU_le (by assumption) (by omega)) hn134 hn142 (by omega)
set_option maxHeartbeats 8000000 in
set_option maxRecDepth 200000 in
theorem ts_X10_grass_169 {post : Int32 -> Int32 -> Int32 -> Int32 -> Nat -> Int32 -> Int32 -> Int32 -> Int32 -> (Nat -> Int32) -> (Nat -> Int32) -> (Nat -> Int32) -> Prop} {K134 : Int32 -> Int32 -> Int32 -> Int32 -> Int32 -> Int32 -> Int32 -> Nat -> Int32 -> Int32 -> Int32 -> Int32 -> (Nat -> Int32) -> (Nat -> Int32) -> (Nat -> Int32) -> Prop} {K142 : Int32 -> Int32 -> Int32 -> Int32 -> Int32 -> Int32 -> Int32 -> Int32 -> Nat -> Int32 -> Int32 -> Int32 -> Int32 -> (Nat -> Int32) -> (Nat -> Int32) -> (Nat -> Int32) -> Prop} {next : Int32 -> Int32 -> Int32 -> Int32 -> Int32 -> Int32 -> Int32 -> Int32 -> Int32 -> Int32 -> Nat -> Int32 -> Int32 -> Int32 -> Int32 -> (Nat -> Int32) -> (Nat -> Int32) -> (Nat -> Int32) -> Prop} {n169 n134 n142 : Int} (aG : Int32) (nG qO qQ : Nat -> Int32) (vZ : 0 <= Int32.toInt aG /\ Int32.toInt aG <= 8) (xT : ∀ k : Nat, 0 <= Int32.toInt (nG k) /\ Int32.toInt (nG k) <= 99) (zG : ∀ k : Nat, -128 <= Int32.toInt (qO k) /\ Int32.toInt (qO k) <= 127) (zI : ∀ k : Nat, -128 <= Int32.toInt (qQ k) /\ Int32.toInt (qQ k) <= 127) (hpost : ∀ (r : Int32) (aBT : Int32) (xM : Int32) (xG : Int32) (aAP : Nat) (zS : Int32) (aAz : Int32) (aAm : Int32) (zH : Int32) (aBX : Nat -> Int32) (aDo : Nat -> Int32) (aOe : Nat -> Int32), (0 <= Int32.toInt aBT /\ Int32.toInt aBT <= 0) -> (0 <= Int32.toInt xM /\ Int32.toInt xM <= 16) -> (0 <= Int32.toInt xG /\ Int32.toInt xG <= 0) -> (aAP = 1) -> (0 <= Int32.toInt zS /\ Int32.toInt zS <= 80) -> (80 <= Int32.toInt aAz /\ Int32.toInt aAz <= 80) -> (0 <= Int32.toInt aAm /\ Int32.toInt aAm <= 80) -> (-1 <= Int32.toInt zH /\ Int32.toInt zH <= 80) -> (∀ k : Nat, 0 <= Int32.toInt (aDo k) /\ Int32.toInt (aDo k) <= 99) -> post r aBT xM xG aAP zS aAz aAm zH aBX aDo aOe) (hK134 : ∀ (x1 : Int32) (x2 : Int32) (x4 : Int32) (x5 : Int32) (jC : Int32) (bL : Int32) (bY : Int32) (jD : Nat) (mLn : Int32) (oF : Int32) (rP : Int32) (dQ : Int32) (sW : Nat -> Int32) (uZ : Nat -> Int32) (vY : Nat -> Int32), (0 <= Int32.toInt x1 /\ Int32.toInt x1 <= 99) -> (0 <= Int32.toInt x2 /\ Int32.toInt x2 <= 7) -> (-1 <= Int32.toInt x5 /\ Int32.toInt x5 <= 6) -> (0 <= Int32.toInt jC /\ Int32.toInt jC <= 0) -> (0 <= Int32.toInt bL /\ Int32.toInt bL <= 16) -> (0 <= Int32.toInt bY /\ Int32.toInt bY <= 0) -> (jD = 1) -> (0 <= Int32.toInt mLn /\ Int32.toInt mLn <= 80) -> (80 <= Int32.toInt oF /\ Int32.toInt oF <= 80) -> (0 <= Int32.toInt rP /\ Int32.toInt rP <= 80) -> (-1 <= Int32.toInt dQ /\ Int32.toInt dQ <= -1) -> (∀ k : Nat, 0 <= Int32.toInt (uZ k) /\ Int32.toInt (uZ k) <= 99) -> (GD vY x2 aG x5 0) -> (AL vY x4 aG) -> (0 <= Int32.toInt x5 -> Int32.toInt x4 = 0) -> (Int32.toInt x5 <= Int32.toInt x2 - 1) -> (Int32.toInt x2 <= 6) -> (Int32.toInt x5 + 1 < n134) -> K134 x1 x2 x4 x5 jC bL bY jD mLn oF rP dQ sW uZ vY) (hK142 : ∀ (x1 : Int32) (x2 : Int32) (x4 : Int32) (x5 : Int32) (x6 : Int32) (jC : Int32) (bL : Int32) (bY : Int32) (jD : Nat) (mLn : Int32) (oF : Int32) (rP : Int32) (dQ : Int32) (sW : Nat -> Int32) (uZ : Nat -> Int32) (vY : Nat -> Int32), (0 <= Int32.toInt x1 /\ Int32.toInt x1 <= 99) -> (0 <= Int32.toInt x2 /\ Int32.toInt x2 <= 7) -> (0 <= Int32.toInt x5 /\ Int32.toInt x5 <= 6) -> (0 <= Int32.toInt x6 /\ Int32.toInt x6 <= 8) -> (0 <= Int32.toInt jC /\ Int32.toInt jC <= 0) -> (0 <= Int32.toInt bL /\ Int32.toInt bL <= 16) -> (0 <= Int32.toInt bY /\ Int32.toInt bY <= 0) -> (jD = 1) -> (0 <= Int32.toInt mLn /\ Int32.toInt mLn <= 80) -> (80 <= Int32.toInt oF /\ Int32.toInt oF <= 80) -> (0 <= Int32.toInt rP /\ Int32.toInt rP <= 80) -> (-1 <= Int32.toInt dQ /\ Int32.toInt dQ <= -1) -> (∀ k : Nat, 0 <= Int32.toInt (uZ k) /\ Int32.toInt (uZ k) <= 99) -> (GD vY x2 aG x5 x6) -> (AL vY x4 x6) -> (1 <= Int32.toInt x5 -> Int32.toInt x4 = 0) -> (Int32.toInt x5 <= Int32.toInt x2 - 1) -> (Int32.toInt x2 <= 6) -> (Int32.toInt x6 <= Int32.toInt aG) -> (Int32.toInt x5 + 1 <= n134) -> (8 - Int32.toInt x6 < n142) -> K142 x1 x2 x4 x5 x6 jC bL bY jD mLn oF rP dQ sW uZ vY) (hKn : ∀ (x1 : Int32) (x2 : Int32) (x4 : Int32) (x5 : Int32) (x6 : Int32) (x7 : Int32) (x8 : Int32) (jC : Int32) (bL : Int32) (bY : Int32) (jD : Nat) (mLn : Int32) (oF : Int32) (rP : Int32) (dQ : Int32) (sW : Nat -> Int32) (uZ : Nat -> Int32) (vY : Nat -> Int32), (0 <= Int32.toInt x1 /\ Int32.toInt x1 <= 99) -> (0 <= Int32.toInt x2 /\ Int32.toInt x2 <= 7) -> (0 <= Int32.toInt x5 /\ Int32.toInt x5 <= 6) -> (0 <= Int32.toInt x6 /\ Int32.toInt x6 <= 7) -> (0 <= Int32.toInt x8 /\ Int32.toInt x8 <= 8) -> (0 <= Int32.toInt jC /\ Int32.toInt jC <= 0) -> (0 <= Int32.toInt bL /\ Int32.toInt bL <= 16) -> (0 <= Int32.toInt bY /\ Int32.toInt bY <= 0) -> (jD = 1) -> (0 <= Int32.toInt mLn /\ Int32.toInt mLn <= 80) -> (80 <= Int32.toInt oF /\ Int32.toInt oF <= 80) -> (0 <= Int32.toInt rP /\ Int32.toInt rP <= 80) -> (-1 <= Int32.toInt dQ /\ Int32.toInt dQ <= -1) -> (∀ k : Nat, 0 <= Int32.toInt (uZ k) /\ Int32.toInt (uZ k) <= 99) -> (GD vY x2 aG x5 x6) -> (AL vY x4 x6) -> (1 <= Int32.toInt x5 -> Int32.toInt x4 = 0) -> (Int32.toInt x5 <= Int32.toInt x2 - 1) -> (Int32.toInt x2 <= 6) -> (Int32.toInt x6 < Int32.toInt aG) -> (Int32.toInt x8 <= Int32.toInt aG) -> (SU vY x2 x5 x6 x8 x7) -> (Int32.toInt x5 + 1 <= n134) -> (8 - Int32.toInt x6 <= n142) -> (8 - Int32.toInt x8 < n169) -> next x1 x2 x4 x5 x6 x7 x8 jC bL bY jD mLn oF rP dQ sW uZ vY) (x1 x2 x4 x5 x6 x7 x8 jC bL bY : Int32) (jD : Nat) (mLn oF rP dQ : Int32) (sW uZ vY : Nat -> Int32) (aBK : 0 <= Int32.toInt x1 /\ Int32.toInt x1 <= 99) (aBN : 0 <= Int32.toInt x2 /\ Int32.toInt x2 <= 7) (aF7 : 0 <= Int32.toInt x5 /\ Int32.toInt x5 <= 6) (h_x6 : 0 <= Int32.toInt x6 /\ Int32.toInt x6 <= 7) (h_x8 : 0 <= Int32.toInt x8 /\ Int32.toInt x8 <= 8) (aA4 : 0 <= Int32.toInt jC /\ Int32.toInt jC <= 0) (yJ : 0 <= Int32.toInt bL /\ Int32.toInt bL <= 16) (yG : 0 <= Int32.toInt bY /\ Int32.toInt bY <= 0) (yM : jD = 1) (zE : 0 <= Int32.toInt mLn /\ Int32.toInt mLn <= 80) (aAR : 80 <= Int32.toInt oF /\ Int32.toInt oF <= 80) (aA1 : 0 <= Int32.toInt rP /\ Int32.toInt rP <= 80) (aAA : -1 <= Int32.toInt dQ /\ Int32.toInt dQ <= -1) (aBW : ∀ k : Nat, 0 <= Int32.toInt (uZ k) /\ Int32.toInt (uZ k) <= 99) (hx0 : GD vY x2 aG x5 x6) (hx1 : AL vY x4 x6) (hx2 : 1 <= Int32.toInt x5 -> Int32.toInt x4 = 0) (hx3 : Int32.toInt x5 <= Int32.toInt x2 - 1) (hx4 : Int32.toInt x2 <= 6) (hx5 : Int32.toInt x6 < Int32.toInt aG) (hx6 : Int32.toInt x8 <= Int32.toInt aG) (hx7 : SU vY x2 x5 x6 x8 x7) (hn134 : Int32.toInt x5 + 1 <= n134) (hn142 : 8 - Int32.toInt x6 <= n142) (hn169 : 8 - Int32.toInt x8 <= n169) : ws_X10_grass_169 post K134 K142 next aG nG qO qQ x1 x2 x4 x5 x6 x7 x8 jC bL bY jD mLn oF rP dQ sW uZ vY := by
  have l0 := aEc
  have l1 := li_8
  refine And.intro (fun c59 => ?_) (fun c59 => ?_)
  · skip
    have c59 := (aAO _ _).mp c59
    have f60 := aAT x4
    have f61 := aAT x7
    exact ts_X10_grass_219 aG nG qO qQ vZ xT zG zI hpost hK134 hK142 x1 x2 x4 x5 x6 x7 jC bL bY jD mLn oF rP dQ sW uZ vY aBK aBN aF7 h_x6 aA4 yJ yG yM zE aAR aA1 aAA aBW (by first | assumption | exact GD_init (by omega) | exact GD_dn (by assumption) (by omega) (by omega) | exact GD_s (by assumption) (by omega) | exact GD_eq (by assumption) (by omega)) (by first | assumption | exact AL_z (by omega) | exact AL_s (by assumption) (by omega) | exact AL_le (by assumption) (by omega)) hx2 hx3 hx4 hx5 (by first | assumption | exact SU_0 (by omega) | exact SU_s (by assumption) (by omega) | exact SU_le (by assumption) (by omega)) hn134 hn142
  · skip
    have c59 := mt (aAO _ _).mpr c59
    have f63 : Int32.toInt (x2 - 1) = Int32.toInt x2 - Int32.toInt (1 : Int32) := aCA _ _ (by omega)
    refine And.intro (fun c62 => ?_) (fun c62 => ?_)
    · skip
      have c62 := (aAO _ _).mp c62
      have f64 := aAT x4
      have f65 := aAT x7
      exact ts_X10_grass_219 aG nG qO qQ vZ xT zG zI hpost hK134 hK142 x1 x2 x4 x5 x6 x7 jC bL bY jD mLn oF rP dQ sW uZ vY aBK aBN aF7 h_x6 aA4 yJ yG yM zE aAR aA1 aAA aBW (by first | assumption | exact GD_init (by omega) | exact GD_dn (by assumption) (by omega) (by omega) | exact GD_s (by assumption) (by omega) | exact GD_eq (by assumption) (by omega)) (by first | assumption | exact AL_z (by omega) | exact AL_s (by assumption) (by omega) | exact AL_le (by assumption) (by omega)) hx2 hx3 hx4 hx5 (by first | assumption | exact SU_0 (by omega) | exact SU_s (by assumption) (by omega) | exact SU_le (by assumption) (by omega)) hn134 hn142
    · skip
      have c62 := mt (aAO _ _).mpr c62
      refine And.intro (fun c66 => ?_) (fun c66 => ?_)
      · skip
        have c66 := (zJ _ _).mp c66
        have f67 := aAT x4
        have f68 := aAT x7
        exact ts_X10_grass_213 aG nG qO qQ vZ xT zG zI hpost hK134 hK142 hKn x1 x2 x4 x5 x6 x7 x8 jC bL bY jD mLn oF rP dQ sW uZ vY aBK aBN (by omega) h_x6 (by omega) aA4 yJ yG yM zE aAR aA1 aAA aBW (by first | assumption | exact GD_init (by omega) | exact GD_dn (by assumption) (by omega) (by omega) | exact GD_s (by assumption) (by omega) | exact GD_eq (by assumption) (by omega)) (by first | assumption | exact AL_z (by omega) | exact AL_s (by assumption) (by omega) | exact AL_le (by assumption) (by omega)) hx2 hx3 hx4 hx5 (by omega) (by first | assumption | exact SU_1 (by assumption) | exact SU_add (by assumption) (by assumption) (by omega) (by omega) (by omega) (by omega)) hn134 hn142 hn169
      · skip
        have c66 := mt (zJ _ _).mpr c66
        intro v69 ev69
        have f71 : Int32.toInt (x5 + 1) = Int32.toInt x5 + Int32.toInt (1 : Int32) := aAD _ _ (by omega)
        have f70 : Int32.toInt (8 * (x5 + 1)) = Int32.toInt (x5 + 1) * 8 := ta_cmul _ _ (by decide) (by omega)
        rw [<- ev69] at f70
        intro v72 ev72
        have f73 : Int32.toInt (v69 + x8) = Int32.toInt v69 + Int32.toInt x8 := aAD _ _ (by omega)
        rw [<- ev72] at f73
        refine And.intro (aBZ (by omega)) ?_
        intro v74 ev74
        have hv74 := congrArg Int32.toInt ev74
        have f76 := aAT x4
        have f77 := aAT v74
        exact ts_X10_grass_213 aG nG qO qQ vZ xT zG zI hpost hK134 hK142 hKn x1 x2 x4 x5 x6 v74 x8 jC bL bY jD mLn oF rP dQ sW uZ vY aBK aBN (by omega) h_x6 (by omega) aA4 yJ yG yM zE aAR aA1 aAA aBW (by first | assumption | exact GD_init (by omega) | exact GD_dn (by assumption) (by omega) (by omega) | exact GD_s (by assumption) (by omega) | exact GD_eq (by assumption) (by omega)) (by first | assumption | exact AL_z (by omega) | exact AL_s (by assumption) (by omega) | exact AL_le (by assumption) (by omega)) hx2 hx3 hx4 hx5 (by omega) (by first | assumption | exact SU_1 (by assumption) | exact SU_add (by assumption) (by assumption) (by omega) (by omega) (by omega) (by omega)) hn134 hn142 hn169
set_option maxHeartbeats 8000000 in
set_option maxRecDepth 200000 in
theorem tb_X10_grass_169 {post : Int32 -> Int32 -> Int32 -> Int32 -> Nat -> Int32 -> Int32 -> Int32 -> Int32 -> (Nat -> Int32) -> (Nat -> Int32) -> (Nat -> Int32) -> Prop} {K134 : Int32 -> Int32 -> Int32 -> Int32 -> Int32 -> Int32 -> Int32 -> Nat -> Int32 -> Int32 -> Int32 -> Int32 -> (Nat -> Int32) -> (Nat -> Int32) -> (Nat -> Int32) -> Prop} {K142 : Int32 -> Int32 -> Int32 -> Int32 -> Int32 -> Int32 -> Int32 -> Int32 -> Nat -> Int32 -> Int32 -> Int32 -> Int32 -> (Nat -> Int32) -> (Nat -> Int32) -> (Nat -> Int32) -> Prop} {n134 n142 : Int} (aG : Int32) (nG qO qQ : Nat -> Int32) (vZ : 0 <= Int32.toInt aG /\ Int32.toInt aG <= 8) (xT : ∀ k : Nat, 0 <= Int32.toInt (nG k) /\ Int32.toInt (nG k) <= 99) (zG : ∀ k : Nat, -128 <= Int32.toInt (qO k) /\ Int32.toInt (qO k) <= 127) (zI : ∀ k : Nat, -128 <= Int32.toInt (qQ k) /\ Int32.toInt (qQ k) <= 127) (hpost : ∀ (r : Int32) (aBT : Int32) (xM : Int32) (xG : Int32) (aAP : Nat) (zS : Int32) (aAz : Int32) (aAm : Int32) (zH : Int32) (aBX : Nat -> Int32) (aDo : Nat -> Int32) (aOe : Nat -> Int32), (0 <= Int32.toInt aBT /\ Int32.toInt aBT <= 0) -> (0 <= Int32.toInt xM /\ Int32.toInt xM <= 16) -> (0 <= Int32.toInt xG /\ Int32.toInt xG <= 0) -> (aAP = 1) -> (0 <= Int32.toInt zS /\ Int32.toInt zS <= 80) -> (80 <= Int32.toInt aAz /\ Int32.toInt aAz <= 80) -> (0 <= Int32.toInt aAm /\ Int32.toInt aAm <= 80) -> (-1 <= Int32.toInt zH /\ Int32.toInt zH <= 80) -> (∀ k : Nat, 0 <= Int32.toInt (aDo k) /\ Int32.toInt (aDo k) <= 99) -> post r aBT xM xG aAP zS aAz aAm zH aBX aDo aOe) (hK134 : ∀ (x1 : Int32) (x2 : Int32) (x4 : Int32) (x5 : Int32) (jC : Int32) (bL : Int32) (bY : Int32) (jD : Nat) (mLn : Int32) (oF : Int32) (rP : Int32) (dQ : Int32) (sW : Nat -> Int32) (uZ : Nat -> Int32) (vY : Nat -> Int32), (0 <= Int32.toInt x1 /\ Int32.toInt x1 <= 99) -> (0 <= Int32.toInt x2 /\ Int32.toInt x2 <= 7) -> (-1 <= Int32.toInt x5 /\ Int32.toInt x5 <= 6) -> (0 <= Int32.toInt jC /\ Int32.toInt jC <= 0) -> (0 <= Int32.toInt bL /\ Int32.toInt bL <= 16) -> (0 <= Int32.toInt bY /\ Int32.toInt bY <= 0) -> (jD = 1) -> (0 <= Int32.toInt mLn /\ Int32.toInt mLn <= 80) -> (80 <= Int32.toInt oF /\ Int32.toInt oF <= 80) -> (0 <= Int32.toInt rP /\ Int32.toInt rP <= 80) -> (-1 <= Int32.toInt dQ /\ Int32.toInt dQ <= -1) -> (∀ k : Nat, 0 <= Int32.toInt (uZ k) /\ Int32.toInt (uZ k) <= 99) -> (GD vY x2 aG x5 0) -> (AL vY x4 aG) -> (0 <= Int32.toInt x5 -> Int32.toInt x4 = 0) -> (Int32.toInt x5 <= Int32.toInt x2 - 1) -> (Int32.toInt x2 <= 6) -> (Int32.toInt x5 + 1 < n134) -> K134 x1 x2 x4 x5 jC bL bY jD mLn oF rP dQ sW uZ vY) (hK142 : ∀ (x1 : Int32) (x2 : Int32) (x4 : Int32) (x5 : Int32) (x6 : Int32) (jC : Int32) (bL : Int32) (bY : Int32) (jD : Nat) (mLn : Int32) (oF : Int32) (rP : Int32) (dQ : Int32) (sW : Nat -> Int32) (uZ : Nat -> Int32) (vY : Nat -> Int32), (0 <= Int32.toInt x1 /\ Int32.toInt x1 <= 99) -> (0 <= Int32.toInt x2 /\ Int32.toInt x2 <= 7) -> (0 <= Int32.toInt x5 /\ Int32.toInt x5 <= 6) -> (0 <= Int32.toInt x6 /\ Int32.toInt x6 <= 8) -> (0 <= Int32.toInt jC /\ Int32.toInt jC <= 0) -> (0 <= Int32.toInt bL /\ Int32.toInt bL <= 16) -> (0 <= Int32.toInt bY /\ Int32.toInt bY <= 0) -> (jD = 1) -> (0 <= Int32.toInt mLn /\ Int32.toInt mLn <= 80) -> (80 <= Int32.toInt oF /\ Int32.toInt oF <= 80) -> (0 <= Int32.toInt rP /\ Int32.toInt rP <= 80) -> (-1 <= Int32.toInt dQ /\ Int32.toInt dQ <= -1) -> (∀ k : Nat, 0 <= Int32.toInt (uZ k) /\ Int32.toInt (uZ k) <= 99) -> (GD vY x2 aG x5 x6) -> (AL vY x4 x6) -> (1 <= Int32.toInt x5 -> Int32.toInt x4 = 0) -> (Int32.toInt x5 <= Int32.toInt x2 - 1) -> (Int32.toInt x2 <= 6) -> (Int32.toInt x6 <= Int32.toInt aG) -> (Int32.toInt x5 + 1 <= n134) -> (8 - Int32.toInt x6 < n142) -> K142 x1 x2 x4 x5 x6 jC bL bY jD mLn oF rP dQ sW uZ vY) : ∀ (n : Nat) (x1 x2 x4 x5 x6 x7 x8 jC bL bY : Int32) (jD : Nat) (mLn oF rP dQ : Int32) (sW uZ vY : Nat -> Int32), (0 <= Int32.toInt x1 /\ Int32.toInt x1 <= 99) -> (0 <= Int32.toInt x2 /\ Int32.toInt x2 <= 7) -> (0 <= Int32.toInt x5 /\ Int32.toInt x5 <= 6) -> (0 <= Int32.toInt x6 /\ Int32.toInt x6 <= 7) -> (0 <= Int32.toInt x8 /\ Int32.toInt x8 <= 8) -> (0 <= Int32.toInt jC /\ Int32.toInt jC <= 0) -> (0 <= Int32.toInt bL /\ Int32.toInt bL <= 16) -> (0 <= Int32.toInt bY /\ Int32.toInt bY <= 0) -> (jD = 1) -> (0 <= Int32.toInt mLn /\ Int32.toInt mLn <= 80) -> (80 <= Int32.toInt oF /\ Int32.toInt oF <= 80) -> (0 <= Int32.toInt rP /\ Int32.toInt rP <= 80) -> (-1 <= Int32.toInt dQ /\ Int32.toInt dQ <= -1) -> (∀ k : Nat, 0 <= Int32.toInt (uZ k) /\ Int32.toInt (uZ k) <= 99) -> (GD vY x2 aG x5 x6) -> (AL vY x4 x6) -> (1 <= Int32.toInt x5 -> Int32.toInt x4 = 0) -> (Int32.toInt x5 <= Int32.toInt x2 - 1) -> (Int32.toInt x2 <= 6) -> (Int32.toInt x6 < Int32.toInt aG) -> (Int32.toInt x8 <= Int32.toInt aG) -> (SU vY x2 x5 x6 x8 x7) -> (Int32.toInt x5 + 1 <= n134) -> (8 - Int32.toInt x6 <= n142) -> (8 - Int32.toInt x8 < (n : Int)) -> wb_X10_grass_169 post K134 K142 aG nG qO qQ n x1 x2 x4 x5 x6 x7 x8 jC bL bY jD mLn oF rP dQ sW uZ vY := by
  intro n
  induction n with
  | zero =>
    intro x1 x2 x4 x5 x6 x7 x8 jC bL bY jD mLn oF rP dQ sW uZ vY aBK aBN aF7 h_x6 h_x8 aA4 yJ yG yM zE aAR aA1 aAA aBW hx0 hx1 hx2 hx3 hx4 hx5 hx6 hx7 hn134 hn142 hm
    exfalso; omega
  | succ n ih =>
    intro x1 x2 x4 x5 x6 x7 x8 jC bL bY jD mLn oF rP dQ sW uZ vY aBK aBN aF7 h_x6 h_x8 aA4 yJ yG yM zE aAR aA1 aAA aBW hx0 hx1 hx2 hx3 hx4 hx5 hx6 hx7 hn134 hn142 hm
    exact ts_X10_grass_169 aG nG qO qQ vZ xT zG zI hpost hK134 hK142 ih x1 x2 x4 x5 x6 x7 x8 jC bL bY jD mLn oF rP dQ sW uZ vY aBK aBN aF7 h_x6 h_x8 aA4 yJ yG yM zE aAR aA1 aAA aBW hx0 hx1 hx2 hx3 hx4 hx5 hx6 hx7 hn134 hn142 (by omega)
set_option maxHeartbeats 8000000 in
set_option maxRecDepth 200000 in
theorem ts_X10_grass_164 {post : Int32 -> Int32 -> Int32 -> Int32 -> Nat -> Int32 -> Int32 -> Int32 -> Int32 -> (Nat -> Int32) -> (Nat -> Int32) -> (Nat -> Int32) -> Prop} {K134 : Int32 -> Int32 -> Int32 -> Int32 -> Int32 -> Int32 -> Int32 -> Nat -> Int32 -> Int32 -> Int32 -> Int32 -> (Nat -> Int32) -> (Nat -> Int32) -> (Nat -> Int32) -> Prop} {K142 : Int32 -> Int32 -> Int32 -> Int32 -> Int32 -> Int32 -> Int32 -> Int32 -> Nat -> Int32 -> Int32 -> Int32 -> Int32 -> (Nat -> Int32) -> (Nat -> Int32) -> (Nat -> Int32) -> Prop} {n134 n142 : Int} (aG : Int32) (nG qO qQ : Nat -> Int32) (vZ : 0 <= Int32.toInt aG /\ Int32.toInt aG <= 8) (xT : ∀ k : Nat, 0 <= Int32.toInt (nG k) /\ Int32.toInt (nG k) <= 99) (zG : ∀ k : Nat, -128 <= Int32.toInt (qO k) /\ Int32.toInt (qO k) <= 127) (zI : ∀ k : Nat, -128 <= Int32.toInt (qQ k) /\ Int32.toInt (qQ k) <= 127) (hpost : ∀ (r : Int32) (aBT : Int32) (xM : Int32) (xG : Int32) (aAP : Nat) (zS : Int32) (aAz : Int32) (aAm : Int32) (zH : Int32) (aBX : Nat -> Int32) (aDo : Nat -> Int32) (aOe : Nat -> Int32), (0 <= Int32.toInt aBT /\ Int32.toInt aBT <= 0) -> (0 <= Int32.toInt xM /\ Int32.toInt xM <= 16) -> (0 <= Int32.toInt xG /\ Int32.toInt xG <= 0) -> (aAP = 1) -> (0 <= Int32.toInt zS /\ Int32.toInt zS <= 80) -> (80 <= Int32.toInt aAz /\ Int32.toInt aAz <= 80) -> (0 <= Int32.toInt aAm /\ Int32.toInt aAm <= 80) -> (-1 <= Int32.toInt zH /\ Int32.toInt zH <= 80) -> (∀ k : Nat, 0 <= Int32.toInt (aDo k) /\ Int32.toInt (aDo k) <= 99) -> post r aBT xM xG aAP zS aAz aAm zH aBX aDo aOe) (hK134 : ∀ (x1 : Int32) (x2 : Int32) (x4 : Int32) (x5 : Int32) (jC : Int32) (bL : Int32) (bY : Int32) (jD : Nat) (mLn : Int32) (oF : Int32) (rP : Int32) (dQ : Int32) (sW : Nat -> Int32) (uZ : Nat -> Int32) (vY : Nat -> Int32), (0 <= Int32.toInt x1 /\ Int32.toInt x1 <= 99) -> (0 <= Int32.toInt x2 /\ Int32.toInt x2 <= 7) -> (-1 <= Int32.toInt x5 /\ Int32.toInt x5 <= 6) -> (0 <= Int32.toInt jC /\ Int32.toInt jC <= 0) -> (0 <= Int32.toInt bL /\ Int32.toInt bL <= 16) -> (0 <= Int32.toInt bY /\ Int32.toInt bY <= 0) -> (jD = 1) -> (0 <= Int32.toInt mLn /\ Int32.toInt mLn <= 80) -> (80 <= Int32.toInt oF /\ Int32.toInt oF <= 80) -> (0 <= Int32.toInt rP /\ Int32.toInt rP <= 80) -> (-1 <= Int32.toInt dQ /\ Int32.toInt dQ <= -1) -> (∀ k : Nat, 0 <= Int32.toInt (uZ k) /\ Int32.toInt (uZ k) <= 99) -> (GD vY x2 aG x5 0) -> (AL vY x4 aG) -> (0 <= Int32.toInt x5 -> Int32.toInt x4 = 0) -> (Int32.toInt x5 <= Int32.toInt x2 - 1) -> (Int32.toInt x2 <= 6) -> (Int32.toInt x5 + 1 < n134) -> K134 x1 x2 x4 x5 jC bL bY jD mLn oF rP dQ sW uZ vY) (hK142 : ∀ (x1 : Int32) (x2 : Int32) (x4 : Int32) (x5 : Int32) (x6 : Int32) (jC : Int32) (bL : Int32) (bY : Int32) (jD : Nat) (mLn : Int32) (oF : Int32) (rP : Int32) (dQ : Int32) (sW : Nat -> Int32) (uZ : Nat -> Int32) (vY : Nat -> Int32), (0 <= Int32.toInt x1 /\ Int32.toInt x1 <= 99) -> (0 <= Int32.toInt x2 /\ Int32.toInt x2 <= 7) -> (0 <= Int32.toInt x5 /\ Int32.toInt x5 <= 6) -> (0 <= Int32.toInt x6 /\ Int32.toInt x6 <= 8) -> (0 <= Int32.toInt jC /\ Int32.toInt jC <= 0) -> (0 <= Int32.toInt bL /\ Int32.toInt bL <= 16) -> (0 <= Int32.toInt bY /\ Int32.toInt bY <= 0) -> (jD = 1) -> (0 <= Int32.toInt mLn /\ Int32.toInt mLn <= 80) -> (80 <= Int32.toInt oF /\ Int32.toInt oF <= 80) -> (0 <= Int32.toInt rP /\ Int32.toInt rP <= 80) -> (-1 <= Int32.toInt dQ /\ Int32.toInt dQ <= -1) -> (∀ k : Nat, 0 <= Int32.toInt (uZ k) /\ Int32.toInt (uZ k) <= 99) -> (GD vY x2 aG x5 x6) -> (AL vY x4 x6) -> (1 <= Int32.toInt x5 -> Int32.toInt x4 = 0) -> (Int32.toInt x5 <= Int32.toInt x2 - 1) -> (Int32.toInt x2 <= 6) -> (Int32.toInt x6 <= Int32.toInt aG) -> (Int32.toInt x5 + 1 <= n134) -> (8 - Int32.toInt x6 < n142) -> K142 x1 x2 x4 x5 x6 jC bL bY jD mLn oF rP dQ sW uZ vY) (x1 x2 x4 x5 x6 k0 jC bL bY : Int32) (jD : Nat) (mLn oF rP dQ : Int32) (sW uZ vY : Nat -> Int32) (aBK : 0 <= Int32.toInt x1 /\ Int32.toInt x1 <= 99) (aBN : 0 <= Int32.toInt x2 /\ Int32.toInt x2 <= 7) (aF7 : 0 <= Int32.toInt x5 /\ Int32.toInt x5 <= 6) (h_x6 : 0 <= Int32.toInt x6 /\ Int32.toInt x6 <= 7) (h_k0 : 0 <= Int32.toInt k0 /\ Int32.toInt k0 <= 1) (aA4 : 0 <= Int32.toInt jC /\ Int32.toInt jC <= 0) (yJ : 0 <= Int32.toInt bL /\ Int32.toInt bL <= 16) (yG : 0 <= Int32.toInt bY /\ Int32.toInt bY <= 0) (yM : jD = 1) (zE : 0 <= Int32.toInt mLn /\ Int32.toInt mLn <= 80) (aAR : 80 <= Int32.toInt oF /\ Int32.toInt oF <= 80) (aA1 : 0 <= Int32.toInt rP /\ Int32.toInt rP <= 80) (aAA : -1 <= Int32.toInt dQ /\ Int32.toInt dQ <= -1) (aBW : ∀ k : Nat, 0 <= Int32.toInt (uZ k) /\ Int32.toInt (uZ k) <= 99) (hx0 : GD vY x2 aG x5 x6) (hx1 : AL vY x4 x6) (hx2 : 1 <= Int32.toInt x5 -> Int32.toInt x4 = 0) (hx3 : Int32.toInt x5 <= Int32.toInt x2 - 1) (hx4 : Int32.toInt x2 <= 6) (hx5 : Int32.toInt x6 < Int32.toInt aG) (hx6 : Int32.toInt k0 = 0 \/ Int32.toInt x5 = Int32.toInt x2 - 1) (hn134 : Int32.toInt x5 + 1 <= n134) (hn142 : 8 - Int32.toInt x6 <= n142) : ws_X10_grass_164 post K134 K142 aG nG qO qQ x1 x2 x4 x5 x6 k0 jC bL bY jD mLn oF rP dQ sW uZ vY := by
  have l0 := aE0
  have f78 := aAT x4
  exact ⟨10, tb_X10_grass_169 aG nG qO qQ vZ xT zG zI hpost hK134 hK142 _ x1 x2 x4 x5 x6 k0 0 jC bL bY jD mLn oF rP dQ sW uZ vY aBK aBN aF7 h_x6 (by omega) aA4 yJ yG yM zE aAR aA1 aAA aBW (by first | assumption | exact GD_init (by omega) | exact GD_dn (by assumption) (by omega) (by omega) | exact GD_s (by assumption) (by omega) | exact GD_eq (by assumption) (by omega)) (by first | assumption | exact AL_z (by omega) | exact AL_s (by assumption) (by omega) | exact AL_le (by assumption) (by omega)) hx2 hx3 hx4 hx5 (by omega) (by first | assumption | exact SU_0 (by omega) | exact SU_s (by assumption) (by omega) | exact SU_le (by assumption) (by omega)) hn134 hn142 (by omega)⟩
set_option maxHeartbeats 8000000 in
set_option maxRecDepth 200000 in
theorem ts_X10_grass_142 {post : Int32 -> Int32 -> Int32 -> Int32 -> Nat -> Int32 -> Int32 -> Int32 -> Int32 -> (Nat -> Int32) -> (Nat -> Int32) -> (Nat -> Int32) -> Prop} {K134 : Int32 -> Int32 -> Int32 -> Int32 -> Int32 -> Int32 -> Int32 -> Nat -> Int32 -> Int32 -> Int32 -> Int32 -> (Nat -> Int32) -> (Nat -> Int32) -> (Nat -> Int32) -> Prop} {next : Int32 -> Int32 -> Int32 -> Int32 -> Int32 -> Int32 -> Int32 -> Int32 -> Nat -> Int32 -> Int32 -> Int32 -> Int32 -> (Nat -> Int32) -> (Nat -> Int32) -> (Nat -> Int32) -> Prop} {n142 n134 : Int} (aG : Int32) (nG qO qQ : Nat -> Int32) (vZ : 0 <= Int32.toInt aG /\ Int32.toInt aG <= 8) (xT : ∀ k : Nat, 0 <= Int32.toInt (nG k) /\ Int32.toInt (nG k) <= 99) (zG : ∀ k : Nat, -128 <= Int32.toInt (qO k) /\ Int32.toInt (qO k) <= 127) (zI : ∀ k : Nat, -128 <= Int32.toInt (qQ k) /\ Int32.toInt (qQ k) <= 127) (hpost : ∀ (r : Int32) (aBT : Int32) (xM : Int32) (xG : Int32) (aAP : Nat) (zS : Int32) (aAz : Int32) (aAm : Int32) (zH : Int32) (aBX : Nat -> Int32) (aDo : Nat -> Int32) (aOe : Nat -> Int32), (0 <= Int32.toInt aBT /\ Int32.toInt aBT <= 0) -> (0 <= Int32.toInt xM /\ Int32.toInt xM <= 16) -> (0 <= Int32.toInt xG /\ Int32.toInt xG <= 0) -> (aAP = 1) -> (0 <= Int32.toInt zS /\ Int32.toInt zS <= 80) -> (80 <= Int32.toInt aAz /\ Int32.toInt aAz <= 80) -> (0 <= Int32.toInt aAm /\ Int32.toInt aAm <= 80) -> (-1 <= Int32.toInt zH /\ Int32.toInt zH <= 80) -> (∀ k : Nat, 0 <= Int32.toInt (aDo k) /\ Int32.toInt (aDo k) <= 99) -> post r aBT xM xG aAP zS aAz aAm zH aBX aDo aOe) (hK134 : ∀ (x1 : Int32) (x2 : Int32) (x4 : Int32) (x5 : Int32) (jC : Int32) (bL : Int32) (bY : Int32) (jD : Nat) (mLn : Int32) (oF : Int32) (rP : Int32) (dQ : Int32) (sW : Nat -> Int32) (uZ : Nat -> Int32) (vY : Nat -> Int32), (0 <= Int32.toInt x1 /\ Int32.toInt x1 <= 99) -> (0 <= Int32.toInt x2 /\ Int32.toInt x2 <= 7) -> (-1 <= Int32.toInt x5 /\ Int32.toInt x5 <= 6) -> (0 <= Int32.toInt jC /\ Int32.toInt jC <= 0) -> (0 <= Int32.toInt bL /\ Int32.toInt bL <= 16) -> (0 <= Int32.toInt bY /\ Int32.toInt bY <= 0) -> (jD = 1) -> (0 <= Int32.toInt mLn /\ Int32.toInt mLn <= 80) -> (80 <= Int32.toInt oF /\ Int32.toInt oF <= 80) -> (0 <= Int32.toInt rP /\ Int32.toInt rP <= 80) -> (-1 <= Int32.toInt dQ /\ Int32.toInt dQ <= -1) -> (∀ k : Nat, 0 <= Int32.toInt (uZ k) /\ Int32.toInt (uZ k) <= 99) -> (GD vY x2 aG x5 0) -> (AL vY x4 aG) -> (0 <= Int32.toInt x5 -> Int32.toInt x4 = 0) -> (Int32.toInt x5 <= Int32.toInt x2 - 1) -> (Int32.toInt x2 <= 6) -> (Int32.toInt x5 + 1 < n134) -> K134 x1 x2 x4 x5 jC bL bY jD mLn oF rP dQ sW uZ vY) (hKn : ∀ (x1 : Int32) (x2 : Int32) (x4 : Int32) (x5 : Int32) (x6 : Int32) (jC : Int32) (bL : Int32) (bY : Int32) (jD : Nat) (mLn : Int32) (oF : Int32) (rP : Int32) (dQ : Int32) (sW : Nat -> Int32) (uZ : Nat -> Int32) (vY : Nat -> Int32), (0 <= Int32.toInt x1 /\ Int32.toInt x1 <= 99) -> (0 <= Int32.toInt x2 /\ Int32.toInt x2 <= 7) -> (0 <= Int32.toInt x5 /\ Int32.toInt x5 <= 6) -> (0 <= Int32.toInt x6 /\ Int32.toInt x6 <= 8) -> (0 <= Int32.toInt jC /\ Int32.toInt jC <= 0) -> (0 <= Int32.toInt bL /\ Int32.toInt bL <= 16) -> (0 <= Int32.toInt bY /\ Int32.toInt bY <= 0) -> (jD = 1) -> (0 <= Int32.toInt mLn /\ Int32.toInt mLn <= 80) -> (80 <= Int32.toInt oF /\ Int32.toInt oF <= 80) -> (0 <= Int32.toInt rP /\ Int32.toInt rP <= 80) -> (-1 <= Int32.toInt dQ /\ Int32.toInt dQ <= -1) -> (∀ k : Nat, 0 <= Int32.toInt (uZ k) /\ Int32.toInt (uZ k) <= 99) -> (GD vY x2 aG x5 x6) -> (AL vY x4 x6) -> (1 <= Int32.toInt x5 -> Int32.toInt x4 = 0) -> (Int32.toInt x5 <= Int32.toInt x2 - 1) -> (Int32.toInt x2 <= 6) -> (Int32.toInt x6 <= Int32.toInt aG) -> (Int32.toInt x5 + 1 <= n134) -> (8 - Int32.toInt x6 < n142) -> next x1 x2 x4 x5 x6 jC bL bY jD mLn oF rP dQ sW uZ vY) (x1 x2 x4 x5 x6 jC bL bY : Int32) (jD : Nat) (mLn oF rP dQ : Int32) (sW uZ vY : Nat -> Int32) (aBK : 0 <= Int32.toInt x1 /\ Int32.toInt x1 <= 99) (aBN : 0 <= Int32.toInt x2 /\ Int32.toInt x2 <= 7) (aF7 : 0 <= Int32.toInt x5 /\ Int32.toInt x5 <= 6) (h_x6 : 0 <= Int32.toInt x6 /\ Int32.toInt x6 <= 8) (aA4 : 0 <= Int32.toInt jC /\ Int32.toInt jC <= 0) (yJ : 0 <= Int32.toInt bL /\ Int32.toInt bL <= 16) (yG : 0 <= Int32.toInt bY /\ Int32.toInt bY <= 0) (yM : jD = 1) (zE : 0 <= Int32.toInt mLn /\ Int32.toInt mLn <= 80) (aAR : 80 <= Int32.toInt oF /\ Int32.toInt oF <= 80) (aA1 : 0 <= Int32.toInt rP /\ Int32.toInt rP <= 80) (aAA : -1 <= Int32.toInt dQ /\ Int32.toInt dQ <= -1) (aBW : ∀ k : Nat, 0 <= Int32.toInt (uZ k) /\ Int32.toInt (uZ k) <= 99) (hx0 : GD vY x2 aG x5 x6) (hx1 : AL vY x4 x6) (hx2 : 1 <= Int32.toInt x5 -> Int32.toInt x4 = 0) (hx3 : Int32.toInt x5 <= Int32.toInt x2 - 1) (hx4 : Int32.toInt x2 <= 6) (hx5 : Int32.toInt x6 <= Int32.toInt aG) (hn134 : Int32.toInt x5 + 1 <= n134) (hn142 : 8 - Int32.toInt x6 <= n142) : ws_X10_grass_142 post K134 next aG nG qO qQ x1 x2 x4 x5 x6 jC bL bY jD mLn oF rP dQ sW uZ vY := by
  have l0 := aI2
  have l1 := aE0
  have l2 := aEc
  refine And.intro (fun c79 => ?_) (fun c79 => ?_)
  · skip
    have c79 := (aAO _ _).mp c79
    intro v80 ev80
    have f81 : Int32.toInt (x5 + (-1)) = Int32.toInt x5 + Int32.toInt ((-1) : Int32) := aAD _ _ (by omega)
    rw [<- ev80] at f81
    have f82 := aAT x4
    exact hK134 x1 x2 x4 v80 jC bL bY jD mLn oF rP dQ sW uZ vY aBK aBN (by omega) aA4 yJ yG yM zE aAR aA1 aAA aBW (by first | assumption | exact GD_init (by omega) | exact GD_dn (by assumption) (by omega) (by omega) | exact GD_s (by assumption) (by omega) | exact GD_eq (by assumption) (by omega)) (by first | assumption | exact AL_z (by omega) | exact AL_s (by assumption) (by omega) | exact AL_le (by assumption) (by omega)) (by omega) (by omega) hx4 (by omega)
  · skip
    have c79 := mt (aAO _ _).mpr c79
    have f84 : Int32.toInt (x2 - 1) = Int32.toInt x2 - Int32.toInt (1 : Int32) := aCA _ _ (by omega)
    refine And.intro (fun c83 => ?_) (fun c83 => ?_)
    · skip
      have c83 := mt (zJ _ _).mpr c83
      have f85 := aAT x4
      exact ts_X10_grass_164 aG nG qO qQ vZ xT zG zI hpost hK134 hKn x1 x2 x4 x5 x6 0 jC bL bY jD mLn oF rP dQ sW uZ vY aBK aBN aF7 (by omega) (by omega) aA4 yJ yG yM zE aAR aA1 aAA aBW (by first | assumption | exact GD_init (by omega) | exact GD_dn (by assumption) (by omega) (by omega) | exact GD_s (by assumption) (by omega) | exact GD_eq (by assumption) (by omega)) (by first | assumption | exact AL_z (by omega) | exact AL_s (by assumption) (by omega) | exact AL_le (by assumption) (by omega)) hx2 hx3 hx4 (by omega) (by omega) hn134 hn142
    · skip
      have c83 := (zJ _ _).mp c83
      have f86 := aAT x4
      exact ts_X10_grass_164 aG nG qO qQ vZ xT zG zI hpost hK134 hKn x1 x2 x4 x5 x6 1 jC bL bY jD mLn oF rP dQ sW uZ vY aBK aBN aF7 (by omega) (by omega) aA4 yJ yG yM zE aAR aA1 aAA aBW (by first | assumption | exact GD_init (by omega) | exact GD_dn (by assumption) (by omega) (by omega) | exact GD_s (by assumption) (by omega) | exact GD_eq (by assumption) (by omega)) (by first | assumption | exact AL_z (by omega) | exact AL_s (by assumption) (by omega) | exact AL_le (by assumption) (by omega)) hx2 hx3 hx4 (by omega) (by omega) hn134 hn142
set_option maxHeartbeats 8000000 in
set_option maxRecDepth 200000 in
theorem tb_X10_grass_142 {post : Int32 -> Int32 -> Int32 -> Int32 -> Nat -> Int32 -> Int32 -> Int32 -> Int32 -> (Nat -> Int32) -> (Nat -> Int32) -> (Nat -> Int32) -> Prop} {K134 : Int32 -> Int32 -> Int32 -> Int32 -> Int32 -> Int32 -> Int32 -> Nat -> Int32 -> Int32 -> Int32 -> Int32 -> (Nat -> Int32) -> (Nat -> Int32) -> (Nat -> Int32) -> Prop} {n134 : Int} (aG : Int32) (nG qO qQ : Nat -> Int32) (vZ : 0 <= Int32.toInt aG /\ Int32.toInt aG <= 8) (xT : ∀ k : Nat, 0 <= Int32.toInt (nG k) /\ Int32.toInt (nG k) <= 99) (zG : ∀ k : Nat, -128 <= Int32.toInt (qO k) /\ Int32.toInt (qO k) <= 127) (zI : ∀ k : Nat, -128 <= Int32.toInt (qQ k) /\ Int32.toInt (qQ k) <= 127) (hpost : ∀ (r : Int32) (aBT : Int32) (xM : Int32) (xG : Int32) (aAP : Nat) (zS : Int32) (aAz : Int32) (aAm : Int32) (zH : Int32) (aBX : Nat -> Int32) (aDo : Nat -> Int32) (aOe : Nat -> Int32), (0 <= Int32.toInt aBT /\ Int32.toInt aBT <= 0) -> (0 <= Int32.toInt xM /\ Int32.toInt xM <= 16) -> (0 <= Int32.toInt xG /\ Int32.toInt xG <= 0) -> (aAP = 1) -> (0 <= Int32.toInt zS /\ Int32.toInt zS <= 80) -> (80 <= Int32.toInt aAz /\ Int32.toInt aAz <= 80) -> (0 <= Int32.toInt aAm /\ Int32.toInt aAm <= 80) -> (-1 <= Int32.toInt zH /\ Int32.toInt zH <= 80) -> (∀ k : Nat, 0 <= Int32.toInt (aDo k) /\ Int32.toInt (aDo k) <= 99) -> post r aBT xM xG aAP zS aAz aAm zH aBX aDo aOe) (hK134 : ∀ (x1 : Int32) (x2 : Int32) (x4 : Int32) (x5 : Int32) (jC : Int32) (bL : Int32) (bY : Int32) (jD : Nat) (mLn : Int32) (oF : Int32) (rP : Int32) (dQ : Int32) (sW : Nat -> Int32) (uZ : Nat -> Int32) (vY : Nat -> Int32), (0 <= Int32.toInt x1 /\ Int32.toInt x1 <= 99) -> (0 <= Int32.toInt x2 /\ Int32.toInt x2 <= 7) -> (-1 <= Int32.toInt x5 /\ Int32.toInt x5 <= 6) -> (0 <= Int32.toInt jC /\ Int32.toInt jC <= 0) -> (0 <= Int32.toInt bL /\ Int32.toInt bL <= 16) -> (0 <= Int32.toInt bY /\ Int32.toInt bY <= 0) -> (jD = 1) -> (0 <= Int32.toInt mLn /\ Int32.toInt mLn <= 80) -> (80 <= Int32.toInt oF /\ Int32.toInt oF <= 80) -> (0 <= Int32.toInt rP /\ Int32.toInt rP <= 80) -> (-1 <= Int32.toInt dQ /\ Int32.toInt dQ <= -1) -> (∀ k : Nat, 0 <= Int32.toInt (uZ k) /\ Int32.toInt (uZ k) <= 99) -> (GD vY x2 aG x5 0) -> (AL vY x4 aG) -> (0 <= Int32.toInt x5 -> Int32.toInt x4 = 0) -> (Int32.toInt x5 <= Int32.toInt x2 - 1) -> (Int32.toInt x2 <= 6) -> (Int32.toInt x5 + 1 < n134) -> K134 x1 x2 x4 x5 jC bL bY jD mLn oF rP dQ sW uZ vY) : ∀ (n : Nat) (x1 x2 x4 x5 x6 jC bL bY : Int32) (jD : Nat) (mLn oF rP dQ : Int32) (sW uZ vY : Nat -> Int32), (0 <= Int32.toInt x1 /\ Int32.toInt x1 <= 99) -> (0 <= Int32.toInt x2 /\ Int32.toInt x2 <= 7) -> (0 <= Int32.toInt x5 /\ Int32.toInt x5 <= 6) -> (0 <= Int32.toInt x6 /\ Int32.toInt x6 <= 8) -> (0 <= Int32.toInt jC /\ Int32.toInt jC <= 0) -> (0 <= Int32.toInt bL /\ Int32.toInt bL <= 16) -> (0 <= Int32.toInt bY /\ Int32.toInt bY <= 0) -> (jD = 1) -> (0 <= Int32.toInt mLn /\ Int32.toInt mLn <= 80) -> (80 <= Int32.toInt oF /\ Int32.toInt oF <= 80) -> (0 <= Int32.toInt rP /\ Int32.toInt rP <= 80) -> (-1 <= Int32.toInt dQ /\ Int32.toInt dQ <= -1) -> (∀ k : Nat, 0 <= Int32.toInt (uZ k) /\ Int32.toInt (uZ k) <= 99) -> (GD vY x2 aG x5 x6) -> (AL vY x4 x6) -> (1 <= Int32.toInt x5 -> Int32.toInt x4 = 0) -> (Int32.toInt x5 <= Int32.toInt x2 - 1) -> (Int32.toInt x2 <= 6) -> (Int32.toInt x6 <= Int32.toInt aG) -> (Int32.toInt x5 + 1 <= n134) -> (8 - Int32.toInt x6 < (n : Int)) -> wb_X10_grass_142 post K134 aG nG qO qQ n x1 x2 x4 x5 x6 jC bL bY jD mLn oF rP dQ sW uZ vY := by
  intro n
  induction n with
  | zero =>
    intro x1 x2 x4 x5 x6 jC bL bY jD mLn oF rP dQ sW uZ vY aBK aBN aF7 h_x6 aA4 yJ yG yM zE aAR aA1 aAA aBW hx0 hx1 hx2 hx3 hx4 hx5 hn134 hm
    exfalso; omega
  | succ n ih =>
    intro x1 x2 x4 x5 x6 jC bL bY jD mLn oF rP dQ sW uZ vY aBK aBN aF7 h_x6 aA4 yJ yG yM zE aAR aA1 aAA aBW hx0 hx1 hx2 hx3 hx4 hx5 hn134 hm
    exact ts_X10_grass_142 aG nG qO qQ vZ xT zG zI hpost hK134 ih x1 x2 x4 x5 x6 jC bL bY jD mLn oF rP dQ sW uZ vY aBK aBN aF7 h_x6 aA4 yJ yG yM zE aAR aA1 aAA aBW hx0 hx1 hx2 hx3 hx4 hx5 hn134 (by omega)
set_option maxHeartbeats 8000000 in
set_option maxRecDepth 200000 in
theorem ts_X10_grass_134 {post : Int32 -> Int32 -> Int32 -> Int32 -> Nat -> Int32 -> Int32 -> Int32 -> Int32 -> (Nat -> Int32) -> (Nat -> Int32) -> (Nat -> Int32) -> Prop} {next : Int32 -> Int32 -> Int32 -> Int32 -> Int32 -> Int32 -> Int32 -> Nat -> Int32 -> Int32 -> Int32 -> Int32 -> (Nat -> Int32) -> (Nat -> Int32) -> (Nat -> Int32) -> Prop} {n134 : Int} (aG : Int32) (nG qO qQ : Nat -> Int32) (vZ : 0 <= Int32.toInt aG /\ Int32.toInt aG <= 8) (xT : ∀ k : Nat, 0 <= Int32.toInt (nG k) /\ Int32.toInt (nG k) <= 99) (zG : ∀ k : Nat, -128 <= Int32.toInt (qO k) /\ Int32.toInt (qO k) <= 127) (zI : ∀ k : Nat, -128 <= Int32.toInt (qQ k) /\ Int32.toInt (qQ k) <= 127) (hpost : ∀ (r : Int32) (aBT : Int32) (xM : Int32) (xG : Int32) (aAP : Nat) (zS : Int32) (aAz : Int32) (aAm : Int32) (zH : Int32) (aBX : Nat -> Int32) (aDo : Nat -> Int32) (aOe : Nat -> Int32), (0 <= Int32.toInt aBT /\ Int32.toInt aBT <= 0) -> (0 <= Int32.toInt xM /\ Int32.toInt xM <= 16) -> (0 <= Int32.toInt xG /\ Int32.toInt xG <= 0) -> (aAP = 1) -> (0 <= Int32.toInt zS /\ Int32.toInt zS <= 80) -> (80 <= Int32.toInt aAz /\ Int32.toInt aAz <= 80) -> (0 <= Int32.toInt aAm /\ Int32.toInt aAm <= 80) -> (-1 <= Int32.toInt zH /\ Int32.toInt zH <= 80) -> (∀ k : Nat, 0 <= Int32.toInt (aDo k) /\ Int32.toInt (aDo k) <= 99) -> post r aBT xM xG aAP zS aAz aAm zH aBX aDo aOe) (hKn : ∀ (x1 : Int32) (x2 : Int32) (x4 : Int32) (x5 : Int32) (jC : Int32) (bL : Int32) (bY : Int32) (jD : Nat) (mLn : Int32) (oF : Int32) (rP : Int32) (dQ : Int32) (sW : Nat -> Int32) (uZ : Nat -> Int32) (vY : Nat -> Int32), (0 <= Int32.toInt x1 /\ Int32.toInt x1 <= 99) -> (0 <= Int32.toInt x2 /\ Int32.toInt x2 <= 7) -> (-1 <= Int32.toInt x5 /\ Int32.toInt x5 <= 6) -> (0 <= Int32.toInt jC /\ Int32.toInt jC <= 0) -> (0 <= Int32.toInt bL /\ Int32.toInt bL <= 16) -> (0 <= Int32.toInt bY /\ Int32.toInt bY <= 0) -> (jD = 1) -> (0 <= Int32.toInt mLn /\ Int32.toInt mLn <= 80) -> (80 <= Int32.toInt oF /\ Int32.toInt oF <= 80) -> (0 <= Int32.toInt rP /\ Int32.toInt rP <= 80) -> (-1 <= Int32.toInt dQ /\ Int32.toInt dQ <= -1) -> (∀ k : Nat, 0 <= Int32.toInt (uZ k) /\ Int32.toInt (uZ k) <= 99) -> (GD vY x2 aG x5 0) -> (AL vY x4 aG) -> (0 <= Int32.toInt x5 -> Int32.toInt x4 = 0) -> (Int32.toInt x5 <= Int32.toInt x2 - 1) -> (Int32.toInt x2 <= 6) -> (Int32.toInt x5 + 1 < n134) -> next x1 x2 x4 x5 jC bL bY jD mLn oF rP dQ sW uZ vY) (x1 x2 x4 x5 jC bL bY : Int32) (jD : Nat) (mLn oF rP dQ : Int32) (sW uZ vY : Nat -> Int32) (aBK : 0 <= Int32.toInt x1 /\ Int32.toInt x1 <= 99) (aBN : 0 <= Int32.toInt x2 /\ Int32.toInt x2 <= 7) (aF7 : -1 <= Int32.toInt x5 /\ Int32.toInt x5 <= 6) (aA4 : 0 <= Int32.toInt jC /\ Int32.toInt jC <= 0) (yJ : 0 <= Int32.toInt bL /\ Int32.toInt bL <= 16) (yG : 0 <= Int32.toInt bY /\ Int32.toInt bY <= 0) (yM : jD = 1) (zE : 0 <= Int32.toInt mLn /\ Int32.toInt mLn <= 80) (aAR : 80 <= Int32.toInt oF /\ Int32.toInt oF <= 80) (aA1 : 0 <= Int32.toInt rP /\ Int32.toInt rP <= 80) (aAA : -1 <= Int32.toInt dQ /\ Int32.toInt dQ <= -1) (aBW : ∀ k : Nat, 0 <= Int32.toInt (uZ k) /\ Int32.toInt (uZ k) <= 99) (hx0 : GD vY x2 aG x5 0) (hx1 : AL vY x4 aG) (hx2 : 0 <= Int32.toInt x5 -> Int32.toInt x4 = 0) (hx3 : Int32.toInt x5 <= Int32.toInt x2 - 1) (hx4 : Int32.toInt x2 <= 6) (hn134 : Int32.toInt x5 + 1 <= n134) : ws_X10_grass_134 post next aG nG qO qQ x1 x2 x4 x5 jC bL bY jD mLn oF rP dQ sW uZ vY := by
  have l0 := aI2
  have l1 := aE0
  refine And.intro (fun c87 => ?_) (fun c87 => ?_)
  · skip
    have c87 := (aAd _ _).mp c87
    have f88 := aAT x4
    exact ⟨8, tb_X10_grass_300 aG nG qO qQ vZ xT zG zI hpost _ x2 x4 (-1) 0 jC 0 bY jD mLn oF rP dQ sW uZ vY aBN (by omega) (by omega) aA4 (by omega) yG yM zE aAR aA1 aAA aBW (by first | assumption | exact GD_init (by omega) | exact GD_dn (by assumption) (by omega) (by omega) | exact GD_s (by assumption) (by omega) | exact GD_eq (by assumption) (by omega)) (by first | assumption | exact NX_0 (by assumption) | exact NX_s (k := x6) (by assumption) (by assumption) (by omega) (by omega) (by omega) (by omega)) (by omega) (by omega) hx4 (by omega)⟩
  · skip
    have c87 := mt (aAd _ _).mpr c87
    have f89 := aAT x4
    exact ⟨10, tb_X10_grass_142 aG nG qO qQ vZ xT zG zI hpost hKn _ x1 x2 x4 x5 0 jC bL bY jD mLn oF rP dQ sW uZ vY aBK aBN (by omega) (by omega) aA4 yJ yG yM zE aAR aA1 aAA aBW (by first | assumption | exact GD_init (by omega) | exact GD_dn (by assumption) (by omega) (by omega) | exact GD_s (by assumption) (by omega) | exact GD_eq (by assumption) (by omega)) (by first | assumption | exact AL_z (by omega) | exact AL_s (by assumption) (by omega) | exact AL_le (by assumption) (by omega)) (by omega) hx3 hx4 (by omega) hn134 (by omega)⟩
set_option maxHeartbeats 8000000 in
set_option maxRecDepth 200000 in
theorem tb_X10_grass_134 {post : Int32 -> Int32 -> Int32 -> Int32 -> Nat -> Int32 -> Int32 -> Int32 -> Int32 -> (Nat -> Int32) -> (Nat -> Int32) -> (Nat -> Int32) -> Prop} (aG : Int32) (nG qO qQ : Nat -> Int32) (vZ : 0 <= Int32.toInt aG /\ Int32.toInt aG <= 8) (xT : ∀ k : Nat, 0 <= Int32.toInt (nG k) /\ Int32.toInt (nG k) <= 99) (zG : ∀ k : Nat, -128 <= Int32.toInt (qO k) /\ Int32.toInt (qO k) <= 127) (zI : ∀ k : Nat, -128 <= Int32.toInt (qQ k) /\ Int32.toInt (qQ k) <= 127) (hpost : ∀ (r : Int32) (aBT : Int32) (xM : Int32) (xG : Int32) (aAP : Nat) (zS : Int32) (aAz : Int32) (aAm : Int32) (zH : Int32) (aBX : Nat -> Int32) (aDo : Nat -> Int32) (aOe : Nat -> Int32), (0 <= Int32.toInt aBT /\ Int32.toInt aBT <= 0) -> (0 <= Int32.toInt xM /\ Int32.toInt xM <= 16) -> (0 <= Int32.toInt xG /\ Int32.toInt xG <= 0) -> (aAP = 1) -> (0 <= Int32.toInt zS /\ Int32.toInt zS <= 80) -> (80 <= Int32.toInt aAz /\ Int32.toInt aAz <= 80) -> (0 <= Int32.toInt aAm /\ Int32.toInt aAm <= 80) -> (-1 <= Int32.toInt zH /\ Int32.toInt zH <= 80) -> (∀ k : Nat, 0 <= Int32.toInt (aDo k) /\ Int32.toInt (aDo k) <= 99) -> post r aBT xM xG aAP zS aAz aAm zH aBX aDo aOe) : ∀ (n : Nat) (x1 x2 x4 x5 jC bL bY : Int32) (jD : Nat) (mLn oF rP dQ : Int32) (sW uZ vY : Nat -> Int32), (0 <= Int32.toInt x1 /\ Int32.toInt x1 <= 99) -> (0 <= Int32.toInt x2 /\ Int32.toInt x2 <= 7) -> (-1 <= Int32.toInt x5 /\ Int32.toInt x5 <= 6) -> (0 <= Int32.toInt jC /\ Int32.toInt jC <= 0) -> (0 <= Int32.toInt bL /\ Int32.toInt bL <= 16) -> (0 <= Int32.toInt bY /\ Int32.toInt bY <= 0) -> (jD = 1) -> (0 <= Int32.toInt mLn /\ Int32.toInt mLn <= 80) -> (80 <= Int32.toInt oF /\ Int32.toInt oF <= 80) -> (0 <= Int32.toInt rP /\ Int32.toInt rP <= 80) -> (-1 <= Int32.toInt dQ /\ Int32.toInt dQ <= -1) -> (∀ k : Nat, 0 <= Int32.toInt (uZ k) /\ Int32.toInt (uZ k) <= 99) -> (GD vY x2 aG x5 0) -> (AL vY x4 aG) -> (0 <= Int32.toInt x5 -> Int32.toInt x4 = 0) -> (Int32.toInt x5 <= Int32.toInt x2 - 1) -> (Int32.toInt x2 <= 6) -> (Int32.toInt x5 + 1 < (n : Int)) -> wb_X10_grass_134 post aG nG qO qQ n x1 x2 x4 x5 jC bL bY jD mLn oF rP dQ sW uZ vY := by
  intro n
  induction n with
  | zero =>
    intro x1 x2 x4 x5 jC bL bY jD mLn oF rP dQ sW uZ vY aBK aBN aF7 aA4 yJ yG yM zE aAR aA1 aAA aBW hx0 hx1 hx2 hx3 hx4 hm
    exfalso; omega
  | succ n ih =>
    intro x1 x2 x4 x5 jC bL bY jD mLn oF rP dQ sW uZ vY aBK aBN aF7 aA4 yJ yG yM zE aAR aA1 aAA aBW hx0 hx1 hx2 hx3 hx4 hm
    exact ts_X10_grass_134 aG nG qO qQ vZ xT zG zI hpost ih x1 x2 x4 x5 jC bL bY jD mLn oF rP dQ sW uZ vY aBK aBN aF7 aA4 yJ yG yM zE aAR aA1 aAA aBW hx0 hx1 hx2 hx3 hx4 (by omega)
set_option maxHeartbeats 8000000 in
set_option maxRecDepth 200000 in
theorem ts_X10_grass_112 {post : Int32 -> Int32 -> Int32 -> Int32 -> Nat -> Int32 -> Int32 -> Int32 -> Int32 -> (Nat -> Int32) -> (Nat -> Int32) -> (Nat -> Int32) -> Prop} (aG : Int32) (nG qO qQ : Nat -> Int32) (vZ : 0 <= Int32.toInt aG /\ Int32.toInt aG <= 8) (xT : ∀ k : Nat, 0 <= Int32.toInt (nG k) /\ Int32.toInt (nG k) <= 99) (zG : ∀ k : Nat, -128 <= Int32.toInt (qO k) /\ Int32.toInt (qO k) <= 127) (zI : ∀ k : Nat, -128 <= Int32.toInt (qQ k) /\ Int32.toInt (qQ k) <= 127) (hpost : ∀ (r : Int32) (aBT : Int32) (xM : Int32) (xG : Int32) (aAP : Nat) (zS : Int32) (aAz : Int32) (aAm : Int32) (zH : Int32) (aBX : Nat -> Int32) (aDo : Nat -> Int32) (aOe : Nat -> Int32), (0 <= Int32.toInt aBT /\ Int32.toInt aBT <= 0) -> (0 <= Int32.toInt xM /\ Int32.toInt xM <= 16) -> (0 <= Int32.toInt xG /\ Int32.toInt xG <= 0) -> (aAP = 1) -> (0 <= Int32.toInt zS /\ Int32.toInt zS <= 80) -> (80 <= Int32.toInt aAz /\ Int32.toInt aAz <= 80) -> (0 <= Int32.toInt aAm /\ Int32.toInt aAm <= 80) -> (-1 <= Int32.toInt zH /\ Int32.toInt zH <= 80) -> (∀ k : Nat, 0 <= Int32.toInt (aDo k) /\ Int32.toInt (aDo k) <= 99) -> post r aBT xM xG aAP zS aAz aAm zH aBX aDo aOe) (x1 x2 jC bL bY : Int32) (jD : Nat) (mLn oF rP dQ : Int32) (sW uZ vY : Nat -> Int32) (aBK : 0 <= Int32.toInt x1 /\ Int32.toInt x1 <= 99) (aBN : 0 <= Int32.toInt x2 /\ Int32.toInt x2 <= 7) (aA4 : 0 <= Int32.toInt jC /\ Int32.toInt jC <= 0) (yJ : 0 <= Int32.toInt bL /\ Int32.toInt bL <= 16) (yG : 0 <= Int32.toInt bY /\ Int32.toInt bY <= 0) (yM : jD = 1) (zE : 0 <= Int32.toInt mLn /\ Int32.toInt mLn <= 80) (aAR : 80 <= Int32.toInt oF /\ Int32.toInt oF <= 80) (aA1 : 0 <= Int32.toInt rP /\ Int32.toInt rP <= 80) (aAA : -1 <= Int32.toInt dQ /\ Int32.toInt dQ <= 80) (aBW : ∀ k : Nat, 0 <= Int32.toInt (uZ k) /\ Int32.toInt (uZ k) <= 99) (hx0 : Int32.toInt x2 <= 6 \/ Int32.toInt dQ ≠ -1) : ws_X10_grass_112 post aG nG qO qQ x1 x2 jC bL bY jD mLn oF rP dQ sW uZ vY := by
  have l0 := aI2
  have l1 := aE0
  have l2 := aEc
  refine And.intro (fun c90 => ?_) (fun c90 => ?_)
  · skip
    have c90 := mt (zJ _ _).mpr c90
    refine And.intro (fun h9 => absurd h9 (by decide)) (fun _ => ?_)
    have f91 : Int32.toInt ((-1) - dQ) = Int32.toInt ((-1) : Int32) - Int32.toInt dQ := aCA _ _ (by omega)
    obtain ⟨w92, ew92⟩ : ∃ w9 : Int32, w9 = (-1) - dQ := ⟨_, rfl⟩
    rw [<- ew92] at f91
    have key9 := hpost w92 jC bL bY jD mLn oF rP dQ sW uZ vY aA4 yJ yG yM zE aAR aA1 aAA aBW
    subst ew92
    exact key9
  · skip
    have c90 := (zJ _ _).mp c90
    refine And.intro (fun _ => ?_) (fun h9 => absurd h9 (by decide))
    intro v93 ev93
    have f94 : Int32.toInt (x2 - 1) = Int32.toInt x2 - Int32.toInt (1 : Int32) := aCA _ _ (by omega)
    rw [<- ev93] at f94
    exact ⟨9, tb_X10_grass_134 aG nG qO qQ vZ xT zG zI hpost _ x1 x2 0 v93 jC bL bY jD mLn oF rP dQ sW uZ vY aBK aBN (by omega) aA4 yJ yG yM zE aAR aA1 (by omega) aBW (by first | assumption | exact GD_init (by omega) | exact GD_dn (by assumption) (by omega) (by omega) | exact GD_s (by assumption) (by omega) | exact GD_eq (by assumption) (by omega)) (by first | assumption | exact AL_z (by omega) | exact AL_s (by assumption) (by omega) | exact AL_le (by assumption) (by omega)) (by omega) (by omega) (by omega) (by omega)⟩
set_option maxHeartbeats 8000000 in
set_option maxRecDepth 200000 in
theorem ts_X10_grass_93 {post : Int32 -> Int32 -> Int32 -> Int32 -> Nat -> Int32 -> Int32 -> Int32 -> Int32 -> (Nat -> Int32) -> (Nat -> Int32) -> (Nat -> Int32) -> Prop} (aG : Int32) (nG qO qQ : Nat -> Int32) (vZ : 0 <= Int32.toInt aG /\ Int32.toInt aG <= 8) (xT : ∀ k : Nat, 0 <= Int32.toInt (nG k) /\ Int32.toInt (nG k) <= 99) (zG : ∀ k : Nat, -128 <= Int32.toInt (qO k) /\ Int32.toInt (qO k) <= 127) (zI : ∀ k : Nat, -128 <= Int32.toInt (qQ k) /\ Int32.toInt (qQ k) <= 127) (hpost : ∀ (r : Int32) (aBT : Int32) (xM : Int32) (xG : Int32) (aAP : Nat) (zS : Int32) (aAz : Int32) (aAm : Int32) (zH : Int32) (aBX : Nat -> Int32) (aDo : Nat -> Int32) (aOe : Nat -> Int32), (0 <= Int32.toInt aBT /\ Int32.toInt aBT <= 0) -> (0 <= Int32.toInt xM /\ Int32.toInt xM <= 16) -> (0 <= Int32.toInt xG /\ Int32.toInt xG <= 0) -> (aAP = 1) -> (0 <= Int32.toInt zS /\ Int32.toInt zS <= 80) -> (80 <= Int32.toInt aAz /\ Int32.toInt aAz <= 80) -> (0 <= Int32.toInt aAm /\ Int32.toInt aAm <= 80) -> (-1 <= Int32.toInt zH /\ Int32.toInt zH <= 80) -> (∀ k : Nat, 0 <= Int32.toInt (aDo k) /\ Int32.toInt (aDo k) <= 99) -> post r aBT xM xG aAP zS aAz aAm zH aBX aDo aOe) (x1 x2 jC bL bY : Int32) (jD : Nat) (mLn oF rP dQ : Int32) (sW uZ vY : Nat -> Int32) (aBK : 0 <= Int32.toInt x1 /\ Int32.toInt x1 <= 99) (aBN : 0 <= Int32.toInt x2 /\ Int32.toInt x2 <= 7) (aA4 : 0 <= Int32.toInt jC /\ Int32.toInt jC <= 0) (yJ : 0 <= Int32.toInt bL /\ Int32.toInt bL <= 16) (yG : 0 <= Int32.toInt bY /\ Int32.toInt bY <= 0) (yM : jD = 1) (zE : 0 <= Int32.toInt mLn /\ Int32.toInt mLn <= 80) (aAR : 80 <= Int32.toInt oF /\ Int32.toInt oF <= 80) (aA1 : 0 <= Int32.toInt rP /\ Int32.toInt rP <= 80) (aAA : -1 <= Int32.toInt dQ /\ Int32.toInt dQ <= 80) (aBW : ∀ k : Nat, 0 <= Int32.toInt (uZ k) /\ Int32.toInt (uZ k) <= 99) (hx0 : Int32.toInt x2 <= 6 \/ Int32.toInt dQ ≠ -1) : ws_X10_grass_93 post aG nG qO qQ x1 x2 jC bL bY jD mLn oF rP dQ sW uZ vY := by
  have l0 := aI2
  refine And.intro (fun c95 => ?_) (fun c95 => ?_)
  · skip
    have c95 := (aAO _ _).mp c95
    exact ts_X10_grass_112 aG nG qO qQ vZ xT zG zI hpost x1 x2 jC bL bY jD mLn oF rP dQ sW uZ vY aBK aBN aA4 yJ yG yM zE aAR aA1 aAA aBW hx0
  · skip
    have c95 := mt (aAO _ _).mpr c95
    refine And.intro (fun c96 => ?_) (fun c96 => ?_)
    · skip
      have c96 := mt (zJ _ _).mpr c96
      refine And.intro (fun _ => ?_) (fun h9 => absurd h9 (by decide))
      exact ts_X10_grass_112 aG nG qO qQ vZ xT zG zI hpost x1 x2 jC bL bY jD mLn oF rP dQ sW uZ vY aBK aBN aA4 yJ yG yM zE aAR aA1 aAA aBW hx0
    · skip
      have c96 := (zJ _ _).mp c96
      refine And.intro (fun h9 => absurd h9 (by decide)) (fun _ => ?_)
      exact ts_X10_grass_112 aG nG qO qQ vZ xT zG zI hpost x1 x2 jC bL bY jD mLn oF rP rP sW uZ vY aBK aBN aA4 yJ yG yM zE aAR aA1 (by omega) aBW (by omega)
set_option maxHeartbeats 8000000 in
set_option maxRecDepth 200000 in
theorem ts_X10_grass_41 {post : Int32 -> Int32 -> Int32 -> Int32 -> Nat -> Int32 -> Int32 -> Int32 -> Int32 -> (Nat -> Int32) -> (Nat -> Int32) -> (Nat -> Int32) -> Prop} {next : Int32 -> Int32 -> Int32 -> Int32 -> Int32 -> Int32 -> Nat -> Int32 -> Int32 -> Int32 -> Int32 -> (Nat -> Int32) -> (Nat -> Int32) -> (Nat -> Int32) -> Prop} {n41 : Int} (aG : Int32) (nG qO qQ : Nat -> Int32) (vZ : 0 <= Int32.toInt aG /\ Int32.toInt aG <= 8) (xT : ∀ k : Nat, 0 <= Int32.toInt (nG k) /\ Int32.toInt (nG k) <= 99) (zG : ∀ k : Nat, -128 <= Int32.toInt (qO k) /\ Int32.toInt (qO k) <= 127) (zI : ∀ k : Nat, -128 <= Int32.toInt (qQ k) /\ Int32.toInt (qQ k) <= 127) (hpost : ∀ (r : Int32) (aBT : Int32) (xM : Int32) (xG : Int32) (aAP : Nat) (zS : Int32) (aAz : Int32) (aAm : Int32) (zH : Int32) (aBX : Nat -> Int32) (aDo : Nat -> Int32) (aOe : Nat -> Int32), (0 <= Int32.toInt aBT /\ Int32.toInt aBT <= 0) -> (0 <= Int32.toInt xM /\ Int32.toInt xM <= 16) -> (0 <= Int32.toInt xG /\ Int32.toInt xG <= 0) -> (aAP = 1) -> (0 <= Int32.toInt zS /\ Int32.toInt zS <= 80) -> (80 <= Int32.toInt aAz /\ Int32.toInt aAz <= 80) -> (0 <= Int32.toInt aAm /\ Int32.toInt aAm <= 80) -> (-1 <= Int32.toInt zH /\ Int32.toInt zH <= 80) -> (∀ k : Nat, 0 <= Int32.toInt (aDo k) /\ Int32.toInt (aDo k) <= 99) -> post r aBT xM xG aAP zS aAz aAm zH aBX aDo aOe) (hKn : ∀ (x1 : Int32) (x2 : Int32) (x3 : Int32) (jC : Int32) (bL : Int32) (bY : Int32) (jD : Nat) (mLn : Int32) (oF : Int32) (rP : Int32) (dQ : Int32) (sW : Nat -> Int32) (uZ : Nat -> Int32) (vY : Nat -> Int32), (0 <= Int32.toInt x1 /\ Int32.toInt x1 <= 99) -> (0 <= Int32.toInt x2 /\ Int32.toInt x2 <= 7) -> (0 <= Int32.toInt x3 /\ Int32.toInt x3 <= 1) -> (0 <= Int32.toInt jC /\ Int32.toInt jC <= 0) -> (0 <= Int32.toInt bL /\ Int32.toInt bL <= 16) -> (0 <= Int32.toInt bY /\ Int32.toInt bY <= 0) -> (jD = 1) -> (0 <= Int32.toInt mLn /\ Int32.toInt mLn <= 80) -> (80 <= Int32.toInt oF /\ Int32.toInt oF <= 80) -> (0 <= Int32.toInt rP /\ Int32.toInt rP <= 80) -> (-1 <= Int32.toInt dQ /\ Int32.toInt dQ <= 80) -> (∀ k : Nat, 0 <= Int32.toInt (uZ k) /\ Int32.toInt (uZ k) <= 99) -> (Int32.toInt x2 <= 6 \/ Int32.toInt dQ ≠ -1) -> (7 - Int32.toInt x2 < n41) -> next x1 x2 x3 jC bL bY jD mLn oF rP dQ sW uZ vY) (x1 x2 x3 jC bL bY : Int32) (jD : Nat) (mLn oF rP dQ : Int32) (sW uZ vY : Nat -> Int32) (aBK : 0 <= Int32.toInt x1 /\ Int32.toInt x1 <= 99) (aBN : 0 <= Int32.toInt x2 /\ Int32.toInt x2 <= 7) (aCH : 0 <= Int32.toInt x3 /\ Int32.toInt x3 <= 1) (aA4 : 0 <= Int32.toInt jC /\ Int32.toInt jC <= 0) (yJ : 0 <= Int32.toInt bL /\ Int32.toInt bL <= 16) (yG : 0 <= Int32.toInt bY /\ Int32.toInt bY <= 0) (yM : jD = 1) (zE : 0 <= Int32.toInt mLn /\ Int32.toInt mLn <= 80) (aAR : 80 <= Int32.toInt oF /\ Int32.toInt oF <= 80) (aA1 : 0 <= Int32.toInt rP /\ Int32.toInt rP <= 80) (aAA : -1 <= Int32.toInt dQ /\ Int32.toInt dQ <= 80) (aBW : ∀ k : Nat, 0 <= Int32.toInt (uZ k) /\ Int32.toInt (uZ k) <= 99) (hx0 : Int32.toInt x2 <= 6 \/ Int32.toInt dQ ≠ -1) (hn41 : 7 - Int32.toInt x2 <= n41) : ws_X10_grass_41 post next aG nG qO qQ x1 x2 x3 jC bL bY jD mLn oF rP dQ sW uZ vY := by
  have l0 := aI2
  have l1 := aE0
  have l2 := li_2
  have l3 := li_6
  refine And.intro (fun c97 => ?_) (fun c97 => ?_)
  · skip
    have c97 := (zJ _ _).mp c97
    exact ts_X10_grass_93 aG nG qO qQ vZ xT zG zI hpost x1 x2 jC bL bY jD mLn oF rP dQ sW uZ vY aBK aBN aA4 yJ yG yM zE aAR aA1 aAA aBW hx0
  · skip
    have c97 := mt (zJ _ _).mpr c97
    refine And.intro (fun c98 => ?_) (fun c98 => ?_)
    · skip
      have c98 := mt (zJ _ _).mpr c98
      refine And.intro (fun _ => ?_) (fun h9 => absurd h9 (by decide))
      exact ts_X10_grass_93 aG nG qO qQ vZ xT zG zI hpost x1 x2 jC bL bY jD mLn oF rP dQ sW uZ vY aBK aBN aA4 yJ yG yM zE aAR aA1 aAA aBW hx0
    · skip
      have c98 := (zJ _ _).mp c98
      refine And.intro (fun h9 => absurd h9 (by decide)) (fun _ => ?_)
      refine And.intro (fun c99 => ?_) (fun c99 => ?_)
      · skip
        have c99 := mt (zJ _ _).mpr c99
        refine aXA (by omega) (by first | exact yM | exact Or.inl rfl | exact Or.inr rfl | omega) zE (by omega) aA1 aAA zG zI (by omega) (fun r102 m_at_100 m_wrong_101 h_r102 h_m_at_100 h_m_wrong_101 ox103 ox104 ox105 ox106 => ?_)
        refine And.intro (aBZ (by omega)) ?_
        have a107 : ∀ k : Nat, 0 <= Int32.toInt ((upd uZ x2.toNatClampNeg r102) k) /\ Int32.toInt ((upd uZ x2.toNatClampNeg r102) k) <= 99 := t_upd (fun k => by have q9 := aBW k; omega) (by omega)
        exact ts_X10_grass_80 aG nG qO qQ vZ xT zG zI hpost hKn x1 x2 jC bL bY jD mLn oF m_at_100 m_wrong_101 sW (upd uZ x2.toNatClampNeg r102) vY aBK (by omega) aA4 yJ yG yM zE aAR h_m_at_100 h_m_wrong_101 (fun k => by have q9 := a107 k; omega) (by omega) hn41
      · skip
        have c99 := (zJ _ _).mp c99
        refine And.intro (fun c108 => ?_) (fun c108 => ?_)
        · skip
          have c108 := mt (zJ _ _).mpr c108
          exfalso; omega
        · skip
          have c108 := (zJ _ _).mp c108
          refine And.intro (fun h9 => absurd h9 (by decide)) (fun _ => ?_)
          exact ts_X10_grass_80 aG nG qO qQ vZ xT zG zI hpost hKn x1 x2 jC bL bY jD mLn oF rP rP sW uZ vY aBK (by omega) aA4 yJ yG yM zE aAR aA1 (by omega) aBW (by omega) hn41
set_option maxHeartbeats 8000000 in
set_option maxRecDepth 200000 in
theorem tb_X10_grass_41 {post : Int32 -> Int32 -> Int32 -> Int32 -> Nat -> Int32 -> Int32 -> Int32 -> Int32 -> (Nat -> Int32) -> (Nat -> Int32) -> (Nat -> Int32) -> Prop} (aG : Int32) (nG qO qQ : Nat -> Int32) (vZ : 0 <= Int32.toInt aG /\ Int32.toInt aG <= 8) (xT : ∀ k : Nat, 0 <= Int32.toInt (nG k) /\ Int32.toInt (nG k) <= 99) (zG : ∀ k : Nat, -128 <= Int32.toInt (qO k) /\ Int32.toInt (qO k) <= 127) (zI : ∀ k : Nat, -128 <= Int32.toInt (qQ k) /\ Int32.toInt (qQ k) <= 127) (hpost : ∀ (r : Int32) (aBT : Int32) (xM : Int32) (xG : Int32) (aAP : Nat) (zS : Int32) (aAz : Int32) (aAm : Int32) (zH : Int32) (aBX : Nat -> Int32) (aDo : Nat -> Int32) (aOe : Nat -> Int32), (0 <= Int32.toInt aBT /\ Int32.toInt aBT <= 0) -> (0 <= Int32.toInt xM /\ Int32.toInt xM <= 16) -> (0 <= Int32.toInt xG /\ Int32.toInt xG <= 0) -> (aAP = 1) -> (0 <= Int32.toInt zS /\ Int32.toInt zS <= 80) -> (80 <= Int32.toInt aAz /\ Int32.toInt aAz <= 80) -> (0 <= Int32.toInt aAm /\ Int32.toInt aAm <= 80) -> (-1 <= Int32.toInt zH /\ Int32.toInt zH <= 80) -> (∀ k : Nat, 0 <= Int32.toInt (aDo k) /\ Int32.toInt (aDo k) <= 99) -> post r aBT xM xG aAP zS aAz aAm zH aBX aDo aOe) : ∀ (n : Nat) (x1 x2 x3 jC bL bY : Int32) (jD : Nat) (mLn oF rP dQ : Int32) (sW uZ vY : Nat -> Int32), (0 <= Int32.toInt x1 /\ Int32.toInt x1 <= 99) -> (0 <= Int32.toInt x2 /\ Int32.toInt x2 <= 7) -> (0 <= Int32.toInt x3 /\ Int32.toInt x3 <= 1) -> (0 <= Int32.toInt jC /\ Int32.toInt jC <= 0) -> (0 <= Int32.toInt bL /\ Int32.toInt bL <= 16) -> (0 <= Int32.toInt bY /\ Int32.toInt bY <= 0) -> (jD = 1) -> (0 <= Int32.toInt mLn /\ Int32.toInt mLn <= 80) -> (80 <= Int32.toInt oF /\ Int32.toInt oF <= 80) -> (0 <= Int32.toInt rP /\ Int32.toInt rP <= 80) -> (-1 <= Int32.toInt dQ /\ Int32.toInt dQ <= 80) -> (∀ k : Nat, 0 <= Int32.toInt (uZ k) /\ Int32.toInt (uZ k) <= 99) -> (Int32.toInt x2 <= 6 \/ Int32.toInt dQ ≠ -1) -> (7 - Int32.toInt x2 < (n : Int)) -> wb_X10_grass_41 post aG nG qO qQ n x1 x2 x3 jC bL bY jD mLn oF rP dQ sW uZ vY := by
  intro n
  induction n with
  | zero =>
    intro x1 x2 x3 jC bL bY jD mLn oF rP dQ sW uZ vY aBK aBN aCH aA4 yJ yG yM zE aAR aA1 aAA aBW hx0 hm
    exfalso; omega
  | succ n ih =>
    intro x1 x2 x3 jC bL bY jD mLn oF rP dQ sW uZ vY aBK aBN aCH aA4 yJ yG yM zE aAR aA1 aAA aBW hx0 hm
    exact ts_X10_grass_41 aG nG qO qQ vZ xT zG zI hpost ih x1 x2 x3 jC bL bY jD mLn oF rP dQ sW uZ vY aBK aBN aCH aA4 yJ yG yM zE aAR aA1 aAA aBW hx0 (by omega)
set_option maxHeartbeats 8000000 in
set_option maxRecDepth 200000 in
theorem t_X10_grass {post : Int32 -> Int32 -> Int32 -> Int32 -> Nat -> Int32 -> Int32 -> Int32 -> Int32 -> (Nat -> Int32) -> (Nat -> Int32) -> (Nat -> Int32) -> Prop} {p0 aG jC bL bY : Int32} {jD : Nat} {mLn oF rP dQ : Int32} {nG qO sW qQ uZ vY : Nat -> Int32} (vZ : 0 <= Int32.toInt aG /\ Int32.toInt aG <= 8) (aA4 : 0 <= Int32.toInt jC /\ Int32.toInt jC <= 80) (yJ : 0 <= Int32.toInt bL /\ Int32.toInt bL <= 16) (yG : 0 <= Int32.toInt bY /\ Int32.toInt bY <= 1) (yM : jD = 0 \/ jD = 1 \/ jD = 2) (zE : 0 <= Int32.toInt mLn /\ Int32.toInt mLn <= 80) (aAR : 0 <= Int32.toInt oF /\ Int32.toInt oF <= 80) (aA1 : 0 <= Int32.toInt rP /\ Int32.toInt rP <= 80) (aAA : -1 <= Int32.toInt dQ /\ Int32.toInt dQ <= 80) (xT : ∀ k : Nat, 0 <= Int32.toInt (nG k) /\ Int32.toInt (nG k) <= 99) (zG : ∀ k : Nat, -128 <= Int32.toInt (qO k) /\ Int32.toInt (qO k) <= 127) (zI : ∀ k : Nat, -128 <= Int32.toInt (qQ k) /\ Int32.toInt (qQ k) <= 127) (aBW : ∀ k : Nat, 0 <= Int32.toInt (uZ k) /\ Int32.toInt (uZ k) <= 99) (hpost : ∀ (r : Int32) (aBT : Int32) (xM : Int32) (xG : Int32) (aAP : Nat) (zS : Int32) (aAz : Int32) (aAm : Int32) (zH : Int32) (aBX : Nat -> Int32) (aDo : Nat -> Int32) (aOe : Nat -> Int32), (0 <= Int32.toInt aBT /\ Int32.toInt aBT <= 0) -> (0 <= Int32.toInt xM /\ Int32.toInt xM <= 16) -> (0 <= Int32.toInt xG /\ Int32.toInt xG <= 0) -> (aAP = 1) -> (0 <= Int32.toInt zS /\ Int32.toInt zS <= 80) -> (80 <= Int32.toInt aAz /\ Int32.toInt aAz <= 80) -> (0 <= Int32.toInt aAm /\ Int32.toInt aAm <= 80) -> (-1 <= Int32.toInt zH /\ Int32.toInt zH <= 80) -> (∀ k : Nat, 0 <= Int32.toInt (aDo k) /\ Int32.toInt (aDo k) <= 99) -> post r aBT xM xG aAP zS aAz aAm zH aBX aDo aOe) : wp_X10_grass post p0 aG jC bL bY jD mLn oF rP dQ nG qO sW qQ uZ vY := by
  have l0 := aI2
  have l1 := aE0
  have l2 := aEc
  have l3 := li_80
  have l4 := li_99
  have f110 := aAT p0
  refine And.intro (fun c109 => ?_) (fun c109 => ?_)
  · skip
    have c109 := (aAd _ _).mp c109
    refine And.intro (fun h9 => absurd h9 (by decide)) (fun _ => ?_)
    exact hpost _ _ _ _ _ _ _ _ _ _ _ _ (by omega) yJ (by omega) (by first | exact yM | exact Or.inl rfl | exact Or.inr rfl | omega) aA4 (by omega) (by omega) (by omega) aBW
  · skip
    have c109 := mt (aAd _ _).mpr c109
    refine And.intro (fun c111 => ?_) (fun c111 => ?_)
    · skip
      have c111 := (aAd _ _).mp c111
      refine And.intro (fun h9 => absurd h9 (by decide)) (fun _ => ?_)
      exact hpost _ _ _ _ _ _ _ _ _ _ _ _ (by omega) yJ (by omega) (by first | exact yM | exact Or.inl rfl | exact Or.inr rfl | omega) aA4 (by omega) (by omega) (by omega) aBW
    · skip
      have c111 := mt (aAd _ _).mpr c111
      refine And.intro (fun _ => ?_) (fun h9 => absurd h9 (by decide))
      exact ⟨9, tb_X10_grass_41 aG nG qO qQ vZ xT zG zI hpost _ p0 0 1 0 bL 0 1 jC 80 0 (-1) sW uZ vY (by omega) (by omega) (by omega) (by omega) yJ (by omega) (by first | exact yM | exact Or.inl rfl | exact Or.inr rfl | omega) aA4 (by omega) (by omega) (by omega) aBW (by omega) (by omega)⟩
set_option maxHeartbeats 8000000 in
set_option maxRecDepth 200000 in
theorem ts_X10_marks_66 {post : Int32 -> Int32 -> Prop} {K32 : Int32 -> Int32 -> Int32 -> Int32 -> Int32 -> Prop} {n32 : Int} (aG : Int32) (nG : Nat -> Int32) (vZ : 0 <= Int32.toInt aG /\ Int32.toInt aG <= 8) (xT : ∀ k : Nat, 0 <= Int32.toInt (nG k) /\ Int32.toInt (nG k) <= 99) (hpost : ∀ (r : Int32) (xG : Int32), (-1 <= Int32.toInt r /\ Int32.toInt r <= 255) -> (0 <= Int32.toInt xG /\ Int32.toInt xG <= 0) -> post r xG) (hK32 : ∀ (x1 : Int32) (x2 : Int32) (x3 : Int32) (x4 : Int32) (bY : Int32), (0 <= Int32.toInt x1 /\ Int32.toInt x1 <= 99) -> (0 <= Int32.toInt x2 /\ Int32.toInt x2 <= 99) -> (0 <= Int32.toInt x3 /\ Int32.toInt x3 <= 255) -> (0 <= Int32.toInt x4 /\ Int32.toInt x4 <= 8) -> (0 <= Int32.toInt bY /\ Int32.toInt bY <= 0) -> (8 - Int32.toInt x4 < n32) -> K32 x1 x2 x3 x4 bY) (x1 x2 x4 k0 k1 bY : Int32) (aBK : 0 <= Int32.toInt x1 /\ Int32.toInt x1 <= 99) (aBN : 0 <= Int32.toInt x2 /\ Int32.toInt x2 <= 99) (aDO : 0 <= Int32.toInt x4 /\ Int32.toInt x4 <= 7) (h_k0 : 0 <= Int32.toInt k0 /\ Int32.toInt k0 <= 255) (h_k1 : 0 <= Int32.toInt k1 /\ Int32.toInt k1 <= 128) (yG : 0 <= Int32.toInt bY /\ Int32.toInt bY <= 0) (hn32 : 8 - Int32.toInt x4 <= n32) : ws_X10_marks_66 post K32 aG nG x1 x2 x4 k0 k1 bY := by
  have l0 := aEc
  intro v1 ev1
  have f2 := ti_or 8 256 k0 k1 (by decide) (by omega) (by omega)
  have hv1 := congrArg Int32.toInt ev1
  intro v3 ev3
  have f4 : Int32.toInt (x4 + 1) = Int32.toInt x4 + Int32.toInt (1 : Int32) := aAD _ _ (by omega)
  rw [<- ev3] at f4
  exact hK32 x1 x2 v1 v3 bY aBK aBN (by omega) (by omega) yG (by omega)
set_option maxHeartbeats 8000000 in
set_option maxRecDepth 200000 in
theorem ts_X10_marks_32 {post : Int32 -> Int32 -> Prop} {next : Int32 -> Int32 -> Int32 -> Int32 -> Int32 -> Prop} {n32 : Int} (aG : Int32) (nG : Nat -> Int32) (vZ : 0 <= Int32.toInt aG /\ Int32.toInt aG <= 8) (xT : ∀ k : Nat, 0 <= Int32.toInt (nG k) /\ Int32.toInt (nG k) <= 99) (hpost : ∀ (r : Int32) (xG : Int32), (-1 <= Int32.toInt r /\ Int32.toInt r <= 255) -> (0 <= Int32.toInt xG /\ Int32.toInt xG <= 0) -> post r xG) (hKn : ∀ (x1 : Int32) (x2 : Int32) (x3 : Int32) (x4 : Int32) (bY : Int32), (0 <= Int32.toInt x1 /\ Int32.toInt x1 <= 99) -> (0 <= Int32.toInt x2 /\ Int32.toInt x2 <= 99) -> (0 <= Int32.toInt x3 /\ Int32.toInt x3 <= 255) -> (0 <= Int32.toInt x4 /\ Int32.toInt x4 <= 8) -> (0 <= Int32.toInt bY /\ Int32.toInt bY <= 0) -> (8 - Int32.toInt x4 < n32) -> next x1 x2 x3 x4 bY) (x1 x2 x3 x4 bY : Int32) (aBK : 0 <= Int32.toInt x1 /\ Int32.toInt x1 <= 99) (aBN : 0 <= Int32.toInt x2 /\ Int32.toInt x2 <= 99) (aCH : 0 <= Int32.toInt x3 /\ Int32.toInt x3 <= 255) (aDO : 0 <= Int32.toInt x4 /\ Int32.toInt x4 <= 8) (yG : 0 <= Int32.toInt bY /\ Int32.toInt bY <= 0) (hn32 : 8 - Int32.toInt x4 <= n32) : ws_X10_marks_32 post next aG nG x1 x2 x3 x4 bY := by
  have l0 := aE0
  refine And.intro (fun c5 => ?_) (fun c5 => ?_)
  · skip
    have c5 := (aAO _ _).mp c5
    exact hpost _ _ (by omega) yG
  · skip
    have c5 := mt (aAO _ _).mpr c5
    refine And.intro (aBZ (by omega)) ?_
    intro v6 ev6
    have f7 := xT x4.toNatClampNeg
    have hv6 := congrArg Int32.toInt ev6
    intro v8 ev8
    have f9 : Int32.toInt (v6 - x1) = Int32.toInt v6 - Int32.toInt x1 := aCA _ _ (by omega)
    rw [<- ev8] at f9
    intro v10 ev10
    have f11 := ti_abs v8 (by omega)
    have hv10 := congrArg Int32.toInt ev10
    refine And.intro (fun c12 => ?_) (fun c12 => ?_)
    · skip
      have c12 := (aAd _ _).mp c12
      exact ts_X10_marks_66 aG nG vZ xT hpost hKn x1 x2 x4 x3 0 bY aBK aBN (by omega) aCH (by omega) yG hn32
    · skip
      have c12 := mt (aAd _ _).mpr c12
      intro v13 ev13
      have f14 := aDv 7 128 x4 (by decide) (by omega)
      have hv13 := congrArg Int32.toInt ev13
      exact ts_X10_marks_66 aG nG vZ xT hpost hKn x1 x2 x4 x3 v13 bY aBK aBN (by omega) aCH (by omega) yG hn32
set_option maxHeartbeats 8000000 in
set_option maxRecDepth 200000 in
theorem tb_X10_marks_32 {post : Int32 -> Int32 -> Prop} (aG : Int32) (nG : Nat -> Int32) (vZ : 0 <= Int32.toInt aG /\ Int32.toInt aG <= 8) (xT : ∀ k : Nat, 0 <= Int32.toInt (nG k) /\ Int32.toInt (nG k) <= 99) (hpost : ∀ (r : Int32) (xG : Int32), (-1 <= Int32.toInt r /\ Int32.toInt r <= 255) -> (0 <= Int32.toInt xG /\ Int32.toInt xG <= 0) -> post r xG) : ∀ (n : Nat) (x1 x2 x3 x4 bY : Int32), (0 <= Int32.toInt x1 /\ Int32.toInt x1 <= 99) -> (0 <= Int32.toInt x2 /\ Int32.toInt x2 <= 99) -> (0 <= Int32.toInt x3 /\ Int32.toInt x3 <= 255) -> (0 <= Int32.toInt x4 /\ Int32.toInt x4 <= 8) -> (0 <= Int32.toInt bY /\ Int32.toInt bY <= 0) -> (8 - Int32.toInt x4 < (n : Int)) -> wb_X10_marks_32 post aG nG n x1 x2 x3 x4 bY := by
  intro n
  induction n with
  | zero =>
    intro x1 x2 x3 x4 bY aBK aBN aCH aDO yG hm
    exfalso; omega
  | succ n ih =>
    intro x1 x2 x3 x4 bY aBK aBN aCH aDO yG hm
    exact ts_X10_marks_32 aG nG vZ xT hpost ih x1 x2 x3 x4 bY aBK aBN aCH aDO yG (by omega)
set_option maxHeartbeats 8000000 in
set_option maxRecDepth 200000 in
theorem t_X10_marks {post : Int32 -> Int32 -> Prop} {p0 p1 aG bY : Int32} {nG : Nat -> Int32} (vZ : 0 <= Int32.toInt aG /\ Int32.toInt aG <= 8) (yG : 0 <= Int32.toInt bY /\ Int32.toInt bY <= 1) (xT : ∀ k : Nat, 0 <= Int32.toInt (nG k) /\ Int32.toInt (nG k) <= 99) (hpost : ∀ (r : Int32) (xG : Int32), (-1 <= Int32.toInt r /\ Int32.toInt r <= 255) -> (0 <= Int32.toInt xG /\ Int32.toInt xG <= 0) -> post r xG) : wp_X10_marks post p0 p1 aG bY nG := by
  have l0 := aI2
  have l1 := aE0
  have l2 := li_99
  have f16 := aAT p0
  refine And.intro (fun c15 => ?_) (fun c15 => ?_)
  · skip
    have c15 := (aAd _ _).mp c15
    refine And.intro (fun _ => ?_) (fun h9 => absurd h9 (by decide))
    exact hpost _ _ (by omega) (by omega)
  · skip
    have c15 := mt (aAd _ _).mpr c15
    refine And.intro (fun c17 => ?_) (fun c17 => ?_)
    · skip
      have c17 := (aAd _ _).mp c17
      refine And.intro (fun _ => ?_) (fun h9 => absurd h9 (by decide))
      exact hpost _ _ (by omega) (by omega)
    · skip
      have c17 := mt (aAd _ _).mpr c17
      refine And.intro (fun h9 => absurd h9 (by decide)) (fun _ => ?_)
      have f19 := aAT p1
      refine And.intro (fun c18 => ?_) (fun c18 => ?_)
      · skip
        have c18 := (aAd _ _).mp c18
        refine And.intro (fun h9 => absurd h9 (by decide)) (fun _ => ?_)
        exact hpost _ _ (by omega) (by omega)
      · skip
        have c18 := mt (aAd _ _).mpr c18
        refine And.intro (fun c20 => ?_) (fun c20 => ?_)
        · skip
          have c20 := (aAd _ _).mp c20
          refine And.intro (fun h9 => absurd h9 (by decide)) (fun _ => ?_)
          exact hpost _ _ (by omega) (by omega)
        · skip
          have c20 := mt (aAd _ _).mpr c20
          refine And.intro (fun _ => ?_) (fun h9 => absurd h9 (by decide))
          exact ⟨10, tb_X10_marks_32 aG nG vZ xT hpost _ p0 p1 0 0 0 (by omega) (by omega) (by omega) (by omega) (by omega) (by omega)⟩
set_option maxHeartbeats 8000000 in
set_option maxRecDepth 200000 in
theorem ts_X10_fits_156 {post : Int32 -> Int32 -> Int32 -> Int32 -> (Nat -> Int32) -> (Nat -> Int32) -> Prop} {SB : Int} {K73 : Int32 -> Int32 -> Int32 -> Int32 -> Int32 -> Int32 -> Int32 -> Int32 -> Int32 -> (Nat -> Int32) -> (Nat -> Int32) -> Prop} {n73 : Int} (bT aG : Int32) (qG m_x gR qR nG oO pJ : Nat -> Int32) (xJ : 0 <= Int32.toInt bT /\ Int32.toInt bT <= 16) (vZ : 0 <= Int32.toInt aG /\ Int32.toInt aG <= 8) (xU : ∀ k : Nat, k = 17 -> -1 <= Int32.toInt (qG k) /\ Int32.toInt (qG k) <= SB) (xV : ∀ k : Nat, k = 19 -> 0 <= Int32.toInt (qG k) /\ Int32.toInt (qG k) <= 9) (aAW : ∀ k : Nat, 0 <= Int32.toInt (m_x k) /\ Int32.toInt (m_x k) <= 99) (xK : ∀ k : Nat, 0 <= Int32.toInt (gR k) /\ Int32.toInt (gR k) <= 99) (zM : ∀ k : Nat, 0 <= Int32.toInt (qR k) /\ Int32.toInt (qR k) <= 9) (xT : ∀ k : Nat, 0 <= Int32.toInt (nG k) /\ Int32.toInt (nG k) <= 99) (yF : ∀ k : Nat, 0 <= Int32.toInt (oO k) /\ Int32.toInt (oO k) <= 99) (yD : ∀ k : Nat, k = 4 -> 1 <= Int32.toInt (pJ k) /\ Int32.toInt (pJ k) <= 30) (xZ : ∀ k : Nat, k = 3 -> 0 <= Int32.toInt (pJ k) /\ Int32.toInt (pJ k) <= 9) (hc0 : -1 <= SB /\ SB <= 7) (hc1 : (Int32.toInt aG <= 0 /\ SB = 0) \/ (1 <= Int32.toInt aG /\ SB = Int32.toInt aG - 1)) (hpost : ∀ (r : Int32) (xM : Int32) (xG : Int32) (aAS : Int32) (aBX : Nat -> Int32) (aA5 : Nat -> Int32), (0 <= Int32.toInt xM /\ Int32.toInt xM <= 16) -> (0 <= Int32.toInt xG /\ Int32.toInt xG <= 0) -> (0 <= Int32.toInt aAS /\ Int32.toInt aAS <= 65535) -> (∀ k : Nat, 0 <= Int32.toInt (aA5 k) /\ Int32.toInt (aA5 k) <= 65535) -> post r xM xG aAS aBX aA5) (hK73 : ∀ (x1 : Int32) (x2 : Int32) (x3 : Int32) (x4 : Int32) (x5 : Int32) (x6 : Int32) (bL : Int32) (bY : Int32) (dO : Int32) (sW : Nat -> Int32) (sH : Nat -> Int32), (0 <= Int32.toInt x1 /\ Int32.toInt x1 <= 65535) -> (0 <= Int32.toInt x2 /\ Int32.toInt x2 <= 255) -> (-1 <= Int32.toInt x4 /\ Int32.toInt x4 <= 255) -> (-1 <= Int32.toInt x5 /\ Int32.toInt x5 <= 255) -> (0 <= Int32.toInt x6 /\ Int32.toInt x6 <= 256) -> (0 <= Int32.toInt bL /\ Int32.toInt bL <= 16) -> (0 <= Int32.toInt bY /\ Int32.toInt bY <= 0) -> (0 <= Int32.toInt dO /\ Int32.toInt dO <= 65535) -> (∀ k : Nat, 0 <= Int32.toInt (sH k) /\ Int32.toInt (sH k) <= 65535) -> (256 - Int32.toInt x6 < n73) -> K73 x1 x2 x3 x4 x5 x6 bL bY dO sW sH) (x1 x2 x3 x4 x5 x6 bL bY dO : Int32) (sW sH : Nat -> Int32) (aBK : 0 <= Int32.toInt x1 /\ Int32.toInt x1 <= 65535) (aBN : 0 <= Int32.toInt x2 /\ Int32.toInt x2 <= 255) (aDO : -1 <= Int32.toInt x4 /\ Int32.toInt x4 <= 255) (aF7 : -1 <= Int32.toInt x5 /\ Int32.toInt x5 <= 255) (h_x6 : 0 <= Int32.toInt x6 /\ Int32.toInt x6 <= 255) (yJ : 0 <= Int32.toInt bL /\ Int32.toInt bL <= 16) (yG : 0 <= Int32.toInt bY /\ Int32.toInt bY <= 0) (aAH : 0 <= Int32.toInt dO /\ Int32.toInt dO <= 65535) (zY : ∀ k : Nat, 0 <= Int32.toInt (sH k) /\ Int32.toInt (sH k) <= 65535) (hn73 : 256 - Int32.toInt x6 <= n73) : ws_X10_fits_156 post K73 bT aG qG m_x gR qR nG oO pJ x1 x2 x3 x4 x5 x6 bL bY dO sW sH := by
  have l0 := aEc
  intro v1 ev1
  have f2 : Int32.toInt (x6 + 1) = Int32.toInt x6 + Int32.toInt (1 : Int32) := aAD _ _ (by omega)
  rw [<- ev1] at f2
  have f3 := aAT x3
  exact hK73 x1 x2 x3 x4 x5 v1 bL bY dO sW sH aBK aBN aDO aF7 (by omega) yJ yG aAH zY (by omega)
set_option maxHeartbeats 8000000 in
set_option maxRecDepth 200000 in
theorem ts_X10_fits_152 {post : Int32 -> Int32 -> Int32 -> Int32 -> (Nat -> Int32) -> (Nat -> Int32) -> Prop} {SB : Int} {K73 : Int32 -> Int32 -> Int32 -> Int32 -> Int32 -> Int32 -> Int32 -> Int32 -> Int32 -> (Nat -> Int32) -> (Nat -> Int32) -> Prop} {n73 : Int} (bT aG : Int32) (qG m_x gR qR nG oO pJ : Nat -> Int32) (xJ : 0 <= Int32.toInt bT /\ Int32.toInt bT <= 16) (vZ : 0 <= Int32.toInt aG /\ Int32.toInt aG <= 8) (xU : ∀ k : Nat, k = 17 -> -1 <= Int32.toInt (qG k) /\ Int32.toInt (qG k) <= SB) (xV : ∀ k : Nat, k = 19 -> 0 <= Int32.toInt (qG k) /\ Int32.toInt (qG k) <= 9) (aAW : ∀ k : Nat, 0 <= Int32.toInt (m_x k) /\ Int32.toInt (m_x k) <= 99) (xK : ∀ k : Nat, 0 <= Int32.toInt (gR k) /\ Int32.toInt (gR k) <= 99) (zM : ∀ k : Nat, 0 <= Int32.toInt (qR k) /\ Int32.toInt (qR k) <= 9) (xT : ∀ k : Nat, 0 <= Int32.toInt (nG k) /\ Int32.toInt (nG k) <= 99) (yF : ∀ k : Nat, 0 <= Int32.toInt (oO k) /\ Int32.toInt (oO k) <= 99) (yD : ∀ k : Nat, k = 4 -> 1 <= Int32.toInt (pJ k) /\ Int32.toInt (pJ k) <= 30) (xZ : ∀ k : Nat, k = 3 -> 0 <= Int32.toInt (pJ k) /\ Int32.toInt (pJ k) <= 9) (hc0 : -1 <= SB /\ SB <= 7) (hc1 : (Int32.toInt aG <= 0 /\ SB = 0) \/ (1 <= Int32.toInt aG /\ SB = Int32.toInt aG - 1)) (hpost : ∀ (r : Int32) (xM : Int32) (xG : Int32) (aAS : Int32) (aBX : Nat -> Int32) (aA5 : Nat -> Int32), (0 <= Int32.toInt xM /\ Int32.toInt xM <= 16) -> (0 <= Int32.toInt xG /\ Int32.toInt xG <= 0) -> (0 <= Int32.toInt aAS /\ Int32.toInt aAS <= 65535) -> (∀ k : Nat, 0 <= Int32.toInt (aA5 k) /\ Int32.toInt (aA5 k) <= 65535) -> post r xM xG aAS aBX aA5) (hK73 : ∀ (x1 : Int32) (x2 : Int32) (x3 : Int32) (x4 : Int32) (x5 : Int32) (x6 : Int32) (bL : Int32) (bY : Int32) (dO : Int32) (sW : Nat -> Int32) (sH : Nat -> Int32), (0 <= Int32.toInt x1 /\ Int32.toInt x1 <= 65535) -> (0 <= Int32.toInt x2 /\ Int32.toInt x2 <= 255) -> (-1 <= Int32.toInt x4 /\ Int32.toInt x4 <= 255) -> (-1 <= Int32.toInt x5 /\ Int32.toInt x5 <= 255) -> (0 <= Int32.toInt x6 /\ Int32.toInt x6 <= 256) -> (0 <= Int32.toInt bL /\ Int32.toInt bL <= 16) -> (0 <= Int32.toInt bY /\ Int32.toInt bY <= 0) -> (0 <= Int32.toInt dO /\ Int32.toInt dO <= 65535) -> (∀ k : Nat, 0 <= Int32.toInt (sH k) /\ Int32.toInt (sH k) <= 65535) -> (256 - Int32.toInt x6 < n73) -> K73 x1 x2 x3 x4 x5 x6 bL bY dO sW sH) (x1 x2 x3 x4 x6 bL bY dO : Int32) (sW sH : Nat -> Int32) (aBK : 0 <= Int32.toInt x1 /\ Int32.toInt x1 <= 65535) (aBN : 0 <= Int32.toInt x2 /\ Int32.toInt x2 <= 255) (aDO : 0 <= Int32.toInt x4 /\ Int32.toInt x4 <= 255) (h_x6 : 0 <= Int32.toInt x6 /\ Int32.toInt x6 <= 255) (yJ : 0 <= Int32.toInt bL /\ Int32.toInt bL <= 16) (yG : 0 <= Int32.toInt bY /\ Int32.toInt bY <= 0) (aAH : 0 <= Int32.toInt dO /\ Int32.toInt dO <= 65535) (zY : ∀ k : Nat, 0 <= Int32.toInt (sH k) /\ Int32.toInt (sH k) <= 65535) (hn73 : 256 - Int32.toInt x6 <= n73) : ws_X10_fits_152 post K73 bT aG qG m_x gR qR nG oO pJ x1 x2 x3 x4 x6 bL bY dO sW sH := by
  have f4 := aAT x3
  exact ts_X10_fits_156 bT aG qG m_x gR qR nG oO pJ xJ vZ xU xV aAW xK zM xT yF yD xZ hc0 hc1 hpost hK73 x1 x2 x3 x4 x6 x6 bL bY dO sW sH aBK aBN (by omega) (by omega) h_x6 yJ yG aAH zY hn73
set_option maxHeartbeats 8000000 in
set_option maxRecDepth 200000 in
theorem ts_X10_fits_133 {post : Int32 -> Int32 -> Int32 -> Int32 -> (Nat -> Int32) -> (Nat -> Int32) -> Prop} {SB : Int} {K73 : Int32 -> Int32 -> Int32 -> Int32 -> Int32 -> Int32 -> Int32 -> Int32 -> Int32 -> (Nat -> Int32) -> (Nat -> Int32) -> Prop} {n73 : Int} (bT aG : Int32) (qG m_x gR qR nG oO pJ : Nat -> Int32) (xJ : 0 <= Int32.toInt bT /\ Int32.toInt bT <= 16) (vZ : 0 <= Int32.toInt aG /\ Int32.toInt aG <= 8) (xU : ∀ k : Nat, k = 17 -> -1 <= Int32.toInt (qG k) /\ Int32.toInt (qG k) <= SB) (xV : ∀ k : Nat, k = 19 -> 0 <= Int32.toInt (qG k) /\ Int32.toInt (qG k) <= 9) (aAW : ∀ k : Nat, 0 <= Int32.toInt (m_x k) /\ Int32.toInt (m_x k) <= 99) (xK : ∀ k : Nat, 0 <= Int32.toInt (gR k) /\ Int32.toInt (gR k) <= 99) (zM : ∀ k : Nat, 0 <= Int32.toInt (qR k) /\ Int32.toInt (qR k) <= 9) (xT : ∀ k : Nat, 0 <= Int32.toInt (nG k) /\ Int32.toInt (nG k) <= 99) (yF : ∀ k : Nat, 0 <= Int32.toInt (oO k) /\ Int32.toInt (oO k) <= 99) (yD : ∀ k : Nat, k = 4 -> 1 <= Int32.toInt (pJ k) /\ Int32.toInt (pJ k) <= 30) (xZ : ∀ k : Nat, k = 3 -> 0 <= Int32.toInt (pJ k) /\ Int32.toInt (pJ k) <= 9) (hc0 : -1 <= SB /\ SB <= 7) (hc1 : (Int32.toInt aG <= 0 /\ SB = 0) \/ (1 <= Int32.toInt aG /\ SB = Int32.toInt aG - 1)) (hpost : ∀ (r : Int32) (xM : Int32) (xG : Int32) (aAS : Int32) (aBX : Nat -> Int32) (aA5 : Nat -> Int32), (0 <= Int32.toInt xM /\ Int32.toInt xM <= 16) -> (0 <= Int32.toInt xG /\ Int32.toInt xG <= 0) -> (0 <= Int32.toInt aAS /\ Int32.toInt aAS <= 65535) -> (∀ k : Nat, 0 <= Int32.toInt (aA5 k) /\ Int32.toInt (aA5 k) <= 65535) -> post r xM xG aAS aBX aA5) (hK73 : ∀ (x1 : Int32) (x2 : Int32) (x3 : Int32) (x4 : Int32) (x5 : Int32) (x6 : Int32) (bL : Int32) (bY : Int32) (dO : Int32) (sW : Nat -> Int32) (sH : Nat -> Int32), (0 <= Int32.toInt x1 /\ Int32.toInt x1 <= 65535) -> (0 <= Int32.toInt x2 /\ Int32.toInt x2 <= 255) -> (-1 <= Int32.toInt x4 /\ Int32.toInt x4 <= 255) -> (-1 <= Int32.toInt x5 /\ Int32.toInt x5 <= 255) -> (0 <= Int32.toInt x6 /\ Int32.toInt x6 <= 256) -> (0 <= Int32.toInt bL /\ Int32.toInt bL <= 16) -> (0 <= Int32.toInt bY /\ Int32.toInt bY <= 0) -> (0 <= Int32.toInt dO /\ Int32.toInt dO <= 65535) -> (∀ k : Nat, 0 <= Int32.toInt (sH k) /\ Int32.toInt (sH k) <= 65535) -> (256 - Int32.toInt x6 < n73) -> K73 x1 x2 x3 x4 x5 x6 bL bY dO sW sH) (x1 x2 x3 x4 x5 x6 bL bY dO : Int32) (sW sH : Nat -> Int32) (aBK : 0 <= Int32.toInt x1 /\ Int32.toInt x1 <= 65535) (aBN : 0 <= Int32.toInt x2 /\ Int32.toInt x2 <= 255) (aDO : 0 <= Int32.toInt x4 /\ Int32.toInt x4 <= 255) (aF7 : -1 <= Int32.toInt x5 /\ Int32.toInt x5 <= 255) (h_x6 : 0 <= Int32.toInt x6 /\ Int32.toInt x6 <= 255) (yJ : 0 <= Int32.toInt bL /\ Int32.toInt bL <= 16) (yG : 0 <= Int32.toInt bY /\ Int32.toInt bY <= 0) (aAH : 0 <= Int32.toInt dO /\ Int32.toInt dO <= 65535) (zY : ∀ k : Nat, 0 <= Int32.toInt (sH k) /\ Int32.toInt (sH k) <= 65535) (hn73 : 256 - Int32.toInt x6 <= n73) : ws_X10_fits_133 post K73 bT aG qG m_x gR qR nG oO pJ x1 x2 x3 x4 x5 x6 bL bY dO sW sH := by
  have l0 := aI2
  have l1 := aKH
  have l2 := aJ8
  have l3 := li_63
  have l4 := aJ9
  refine And.intro (fun c5 => ?_) (fun c5 => ?_)
  · skip
    have c5 := (zJ _ _).mp c5
    have f6 := aAT x3
    exact ts_X10_fits_152 bT aG qG m_x gR qR nG oO pJ xJ vZ xU xV aAW xK zM xT yF yD xZ hc0 hc1 hpost hK73 x1 x2 x3 x4 x6 bL bY dO sW sH aBK aBN aDO h_x6 yJ yG aAH zY hn73
  · skip
    have c5 := mt (zJ _ _).mpr c5
    intro v7 ev7
    intro v8 ev8
    have f10 := aAQ v7 1431655765 (by omega)
    have f9 : Int32.toInt (x6 - (v7 &&& 1431655765)) = Int32.toInt x6 - Int32.toInt (v7 &&& 1431655765) := aCA _ _ (by omega)
    rw [<- ev8] at f9
    intro v11 ev11
    have f12 := aAQ v8 858993459 (by omega)
    have hv11 := congrArg Int32.toInt ev11
    intro v13 ev13
    intro v14 ev14
    have f16 := aAQ v13 858993459 (by omega)
    have f15 : Int32.toInt (v11 + (v13 &&& 858993459)) = Int32.toInt v11 + Int32.toInt (v13 &&& 858993459) := aAD _ _ (by omega)
    rw [<- ev14] at f15
    intro v17 ev17
    have hv17 := congrArg Int32.toInt ev17
    intro v19 ev19
    have f20 := aAQ v17 252645135 (by omega)
    have hv19 := congrArg Int32.toInt ev19
    intro v21 ev21
    have hv21 := congrArg Int32.toInt ev21
    intro v23 ev23
    have hv23 := congrArg Int32.toInt ev23
    intro v25 ev25
    intro v26 ev26
    have f28 := aAQ v25 1431655765 (by omega)
    have f27 : Int32.toInt (x5 - (v25 &&& 1431655765)) = Int32.toInt x5 - Int32.toInt (v25 &&& 1431655765) := aCA _ _ (by omega)
    rw [<- ev26] at f27
    intro v29 ev29
    have f30 := aAQ v26 858993459 (by omega)
    have hv29 := congrArg Int32.toInt ev29
    intro v31 ev31
    intro v32 ev32
    have f34 := aAQ v31 858993459 (by omega)
    have f33 : Int32.toInt (v29 + (v31 &&& 858993459)) = Int32.toInt v29 + Int32.toInt (v31 &&& 858993459) := aAD _ _ (by omega)
    rw [<- ev32] at f33
    intro v35 ev35
    have hv35 := congrArg Int32.toInt ev35
    intro v37 ev37
    have f38 := aAQ v35 252645135 (by omega)
    have hv37 := congrArg Int32.toInt ev37
    intro v39 ev39
    have hv39 := congrArg Int32.toInt ev39
    intro v41 ev41
    have hv41 := congrArg Int32.toInt ev41
    have f44 := aAQ v23 63 (by omega)
    have f45 := aAQ v41 63 (by omega)
    refine And.intro (fun c43 => ?_) (fun c43 => ?_)
    · skip
      have c43 := (aAO _ _).mp c43
      have f46 := aAT x3
      exact ts_X10_fits_156 bT aG qG m_x gR qR nG oO pJ xJ vZ xU xV aAW xK zM xT yF yD xZ hc0 hc1 hpost hK73 x1 x2 x3 x4 x5 x6 bL bY dO sW sH aBK aBN (by omega) aF7 h_x6 yJ yG aAH zY hn73
    · skip
      have c43 := mt (aAO _ _).mpr c43
      have f47 := aAT x3
      exact ts_X10_fits_152 bT aG qG m_x gR qR nG oO pJ xJ vZ xU xV aAW xK zM xT yF yD xZ hc0 hc1 hpost hK73 x1 x2 x3 x4 x6 bL bY dO sW sH aBK aBN aDO h_x6 yJ yG aAH zY hn73
set_option maxHeartbeats 8000000 in
set_option maxRecDepth 200000 in
theorem ts_X10_fits_129 {post : Int32 -> Int32 -> Int32 -> Int32 -> (Nat -> Int32) -> (Nat -> Int32) -> Prop} {SB : Int} {K73 : Int32 -> Int32 -> Int32 -> Int32 -> Int32 -> Int32 -> Int32 -> Int32 -> Int32 -> (Nat -> Int32) -> (Nat -> Int32) -> Prop} {n73 : Int} (bT aG : Int32) (qG m_x gR qR nG oO pJ : Nat -> Int32) (xJ : 0 <= Int32.toInt bT /\ Int32.toInt bT <= 16) (vZ : 0 <= Int32.toInt aG /\ Int32.toInt aG <= 8) (xU : ∀ k : Nat, k = 17 -> -1 <= Int32.toInt (qG k) /\ Int32.toInt (qG k) <= SB) (xV : ∀ k : Nat, k = 19 -> 0 <= Int32.toInt (qG k) /\ Int32.toInt (qG k) <= 9) (aAW : ∀ k : Nat, 0 <= Int32.toInt (m_x k) /\ Int32.toInt (m_x k) <= 99) (xK : ∀ k : Nat, 0 <= Int32.toInt (gR k) /\ Int32.toInt (gR k) <= 99) (zM : ∀ k : Nat, 0 <= Int32.toInt (qR k) /\ Int32.toInt (qR k) <= 9) (xT : ∀ k : Nat, 0 <= Int32.toInt (nG k) /\ Int32.toInt (nG k) <= 99) (yF : ∀ k : Nat, 0 <= Int32.toInt (oO k) /\ Int32.toInt (oO k) <= 99) (yD : ∀ k : Nat, k = 4 -> 1 <= Int32.toInt (pJ k) /\ Int32.toInt (pJ k) <= 30) (xZ : ∀ k : Nat, k = 3 -> 0 <= Int32.toInt (pJ k) /\ Int32.toInt (pJ k) <= 9) (hc0 : -1 <= SB /\ SB <= 7) (hc1 : (Int32.toInt aG <= 0 /\ SB = 0) \/ (1 <= Int32.toInt aG /\ SB = Int32.toInt aG - 1)) (hpost : ∀ (r : Int32) (xM : Int32) (xG : Int32) (aAS : Int32) (aBX : Nat -> Int32) (aA5 : Nat -> Int32), (0 <= Int32.toInt xM /\ Int32.toInt xM <= 16) -> (0 <= Int32.toInt xG /\ Int32.toInt xG <= 0) -> (0 <= Int32.toInt aAS /\ Int32.toInt aAS <= 65535) -> (∀ k : Nat, 0 <= Int32.toInt (aA5 k) /\ Int32.toInt (aA5 k) <= 65535) -> post r xM xG aAS aBX aA5) (hK73 : ∀ (x1 : Int32) (x2 : Int32) (x3 : Int32) (x4 : Int32) (x5 : Int32) (x6 : Int32) (bL : Int32) (bY : Int32) (dO : Int32) (sW : Nat -> Int32) (sH : Nat -> Int32), (0 <= Int32.toInt x1 /\ Int32.toInt x1 <= 65535) -> (0 <= Int32.toInt x2 /\ Int32.toInt x2 <= 255) -> (-1 <= Int32.toInt x4 /\ Int32.toInt x4 <= 255) -> (-1 <= Int32.toInt x5 /\ Int32.toInt x5 <= 255) -> (0 <= Int32.toInt x6 /\ Int32.toInt x6 <= 256) -> (0 <= Int32.toInt bL /\ Int32.toInt bL <= 16) -> (0 <= Int32.toInt bY /\ Int32.toInt bY <= 0) -> (0 <= Int32.toInt dO /\ Int32.toInt dO <= 65535) -> (∀ k : Nat, 0 <= Int32.toInt (sH k) /\ Int32.toInt (sH k) <= 65535) -> (256 - Int32.toInt x6 < n73) -> K73 x1 x2 x3 x4 x5 x6 bL bY dO sW sH) (x1 x2 x3 x5 x6 bL bY dO : Int32) (sW sH : Nat -> Int32) (aBK : 0 <= Int32.toInt x1 /\ Int32.toInt x1 <= 65535) (aBN : 0 <= Int32.toInt x2 /\ Int32.toInt x2 <= 255) (aF7 : -1 <= Int32.toInt x5 /\ Int32.toInt x5 <= 255) (h_x6 : 0 <= Int32.toInt x6 /\ Int32.toInt x6 <= 255) (yJ : 0 <= Int32.toInt bL /\ Int32.toInt bL <= 16) (yG : 0 <= Int32.toInt bY /\ Int32.toInt bY <= 0) (aAH : 0 <= Int32.toInt dO /\ Int32.toInt dO <= 65535) (zY : ∀ k : Nat, 0 <= Int32.toInt (sH k) /\ Int32.toInt (sH k) <= 65535) (hn73 : 256 - Int32.toInt x6 <= n73) : ws_X10_fits_129 post K73 bT aG qG m_x gR qR nG oO pJ x1 x2 x3 x5 x6 bL bY dO sW sH := by
  have f48 := aAT x3
  exact ts_X10_fits_133 bT aG qG m_x gR qR nG oO pJ xJ vZ xU xV aAW xK zM xT yF yD xZ hc0 hc1 hpost hK73 x1 x2 x3 x6 x5 x6 bL bY dO sW sH aBK aBN h_x6 aF7 h_x6 yJ yG aAH zY hn73
set_option maxHeartbeats 8000000 in
set_option maxRecDepth 200000 in
theorem ts_X10_fits_73 {post : Int32 -> Int32 -> Int32 -> Int32 -> (Nat -> Int32) -> (Nat -> Int32) -> Prop} {SB : Int} {next : Int32 -> Int32 -> Int32 -> Int32 -> Int32 -> Int32 -> Int32 -> Int32 -> Int32 -> (Nat -> Int32) -> (Nat -> Int32) -> Prop} {n73 : Int} (bT aG : Int32) (qG m_x gR qR nG oO pJ : Nat -> Int32) (xJ : 0 <= Int32.toInt bT /\ Int32.toInt bT <= 16) (vZ : 0 <= Int32.toInt aG /\ Int32.toInt aG <= 8) (xU : ∀ k : Nat, k = 17 -> -1 <= Int32.toInt (qG k) /\ Int32.toInt (qG k) <= SB) (xV : ∀ k : Nat, k = 19 -> 0 <= Int32.toInt (qG k) /\ Int32.toInt (qG k) <= 9) (aAW : ∀ k : Nat, 0 <= Int32.toInt (m_x k) /\ Int32.toInt (m_x k) <= 99) (xK : ∀ k : Nat, 0 <= Int32.toInt (gR k) /\ Int32.toInt (gR k) <= 99) (zM : ∀ k : Nat, 0 <= Int32.toInt (qR k) /\ Int32.toInt (qR k) <= 9) (xT : ∀ k : Nat, 0 <= Int32.toInt (nG k) /\ Int32.toInt (nG k) <= 99) (yF : ∀ k : Nat, 0 <= Int32.toInt (oO k) /\ Int32.toInt (oO k) <= 99) (yD : ∀ k : Nat, k = 4 -> 1 <= Int32.toInt (pJ k) /\ Int32.toInt (pJ k) <= 30) (xZ : ∀ k : Nat, k = 3 -> 0 <= Int32.toInt (pJ k) /\ Int32.toInt (pJ k) <= 9) (hc0 : -1 <= SB /\ SB <= 7) (hc1 : (Int32.toInt aG <= 0 /\ SB = 0) \/ (1 <= Int32.toInt aG /\ SB = Int32.toInt aG - 1)) (hpost : ∀ (r : Int32) (xM : Int32) (xG : Int32) (aAS : Int32) (aBX : Nat -> Int32) (aA5 : Nat -> Int32), (0 <= Int32.toInt xM /\ Int32.toInt xM <= 16) -> (0 <= Int32.toInt xG /\ Int32.toInt xG <= 0) -> (0 <= Int32.toInt aAS /\ Int32.toInt aAS <= 65535) -> (∀ k : Nat, 0 <= Int32.toInt (aA5 k) /\ Int32.toInt (aA5 k) <= 65535) -> post r xM xG aAS aBX aA5) (hKn : ∀ (x1 : Int32) (x2 : Int32) (x3 : Int32) (x4 : Int32) (x5 : Int32) (x6 : Int32) (bL : Int32) (bY : Int32) (dO : Int32) (sW : Nat -> Int32) (sH : Nat -> Int32), (0 <= Int32.toInt x1 /\ Int32.toInt x1 <= 65535) -> (0 <= Int32.toInt x2 /\ Int32.toInt x2 <= 255) -> (-1 <= Int32.toInt x4 /\ Int32.toInt x4 <= 255) -> (-1 <= Int32.toInt x5 /\ Int32.toInt x5 <= 255) -> (0 <= Int32.toInt x6 /\ Int32.toInt x6 <= 256) -> (0 <= Int32.toInt bL /\ Int32.toInt bL <= 16) -> (0 <= Int32.toInt bY /\ Int32.toInt bY <= 0) -> (0 <= Int32.toInt dO /\ Int32.toInt dO <= 65535) -> (∀ k : Nat, 0 <= Int32.toInt (sH k) /\ Int32.toInt (sH k) <= 65535) -> (256 - Int32.toInt x6 < n73) -> next x1 x2 x3 x4 x5 x6 bL bY dO sW sH) (x1 x2 x3 x4 x5 x6 bL bY dO : Int32) (sW sH : Nat -> Int32) (aBK : 0 <= Int32.toInt x1 /\ Int32.toInt x1 <= 65535) (aBN : 0 <= Int32.toInt x2 /\ Int32.toInt x2 <= 255) (aDO : -1 <= Int32.toInt x4 /\ Int32.toInt x4 <= 255) (aF7 : -1 <= Int32.toInt x5 /\ Int32.toInt x5 <= 255) (h_x6 : 0 <= Int32.toInt x6 /\ Int32.toInt x6 <= 256) (yJ : 0 <= Int32.toInt bL /\ Int32.toInt bL <= 16) (yG : 0 <= Int32.toInt bY /\ Int32.toInt bY <= 0) (aAH : 0 <= Int32.toInt dO /\ Int32.toInt dO <= 65535) (zY : ∀ k : Nat, 0 <= Int32.toInt (sH k) /\ Int32.toInt (sH k) <= 65535) (hn73 : 256 - Int32.toInt x6 <= n73) : ws_X10_fits_73 post next bT aG qG m_x gR qR nG oO pJ x1 x2 x3 x4 x5 x6 bL bY dO sW sH := by
  have l0 := aI2
  have l1 := aE0
  have l2 := aEc
  have l3 := aKH
  have l4 := aJ8
  have l5 := li_63
  have l6 := aJ9
  intro v49 ev49
  have f50 := aDv 8 256 aG (by decide) (by omega)
  have hv49 := congrArg Int32.toInt ev49
  have f52 : Int32.toInt (v49 - 1) = Int32.toInt v49 - Int32.toInt (1 : Int32) := aCA _ _ (by omega)
  refine And.intro (fun c51 => ?_) (fun c51 => ?_)
  · skip
    have c51 := (aAd _ _).mp c51
    refine And.intro (aBZ (by omega)) ?_
    intro v53 ev53
    have f54 : Int32.toInt (0 + 1) = Int32.toInt (0 : Int32) + Int32.toInt (1 : Int32) := aAD _ _ (by omega)
    rw [<- ev53] at f54
    refine And.intro (aBZ (by omega)) ?_
    intro v55 ev55
    have f56 : Int32.toInt (v53 + 1) = Int32.toInt v53 + Int32.toInt (1 : Int32) := aAD _ _ (by omega)
    rw [<- ev55] at f56
    exact hpost _ _ _ _ _ _ (by omega) yG aAH zY
  · skip
    have c51 := mt (aAd _ _).mpr c51
    have f59 := aBx x6 (x2 ^^^ (-1)) (by omega)
    refine And.intro (fun c57 => ?_) (fun c57 => ?_)
    · skip
      have c57 := mt (zJ _ _).mpr c57
      have f60 := aAT x3
      exact ts_X10_fits_156 bT aG qG m_x gR qR nG oO pJ xJ vZ xU xV aAW xK zM xT yF yD xZ hc0 hc1 hpost hKn x1 x2 x3 x4 x5 x6 bL bY dO sW sH aBK aBN aDO aF7 (by omega) yJ yG aAH zY hn73
    · skip
      have c57Z := c57
      have c57 := (zJ _ _).mp c57
      have s61 := ti_subset x6 x2 (c57Z) (by omega)
      refine aSL (by omega) vZ zY (fun r62 h_r62 => ?_)
      have f65 := aBx x1 (r62 ^^^ (-1)) (by omega)
      refine And.intro (fun c63 => ?_) (fun c63 => ?_)
      · skip
        have c63Z := c63
        have c63 := (zJ _ _).mp c63
        have s66 := ti_subset x1 r62 (c63Z) (by omega)
        intro v67 ev67
        have hv67 := congrArg Int32.toInt ev67
        refine And.intro (fun c69 => ?_) (fun c69 => ?_)
        · skip
          have c69 := (zJ _ _).mp c69
          have f70 := aAT v67
          exact ts_X10_fits_129 bT aG qG m_x gR qR nG oO pJ xJ vZ xU xV aAW xK zM xT yF yD xZ hc0 hc1 hpost hKn x1 x2 v67 x5 x6 bL bY dO sW sH aBK aBN aF7 (by omega) yJ yG aAH zY hn73
        · skip
          have c69 := mt (zJ _ _).mpr c69
          intro v71 ev71
          intro v72 ev72
          have f74 := aAQ v71 1431655765 (by omega)
          have f73 : Int32.toInt (x6 - (v71 &&& 1431655765)) = Int32.toInt x6 - Int32.toInt (v71 &&& 1431655765) := aCA _ _ (by omega)
          rw [<- ev72] at f73
          intro v75 ev75
          have f76 := aAQ v72 858993459 (by omega)
          have hv75 := congrArg Int32.toInt ev75
          intro v77 ev77
          intro v78 ev78
          have f80 := aAQ v77 858993459 (by omega)
          have f79 : Int32.toInt (v75 + (v77 &&& 858993459)) = Int32.toInt v75 + Int32.toInt (v77 &&& 858993459) := aAD _ _ (by omega)
          rw [<- ev78] at f79
          intro v81 ev81
          have hv81 := congrArg Int32.toInt ev81
          intro v83 ev83
          have f84 := aAQ v81 252645135 (by omega)
          have hv83 := congrArg Int32.toInt ev83
          intro v85 ev85
          have hv85 := congrArg Int32.toInt ev85
          intro v87 ev87
          have hv87 := congrArg Int32.toInt ev87
          intro v89 ev89
          intro v90 ev90
          have f92 := aAQ v89 1431655765 (by omega)
          have f91 : Int32.toInt (x4 - (v89 &&& 1431655765)) = Int32.toInt x4 - Int32.toInt (v89 &&& 1431655765) := aCA _ _ (by omega)
          rw [<- ev90] at f91
          intro v93 ev93
          have f94 := aAQ v90 858993459 (by omega)
          have hv93 := congrArg Int32.toInt ev93
          intro v95 ev95
          intro v96 ev96
          have f98 := aAQ v95 858993459 (by omega)
          have f97 : Int32.toInt (v93 + (v95 &&& 858993459)) = Int32.toInt v93 + Int32.toInt (v95 &&& 858993459) := aAD _ _ (by omega)
          rw [<- ev96] at f97
          intro v99 ev99
          have hv99 := congrArg Int32.toInt ev99
          intro v101 ev101
          have f102 := aAQ v99 252645135 (by omega)
          have hv101 := congrArg Int32.toInt ev101
          intro v103 ev103
          have hv103 := congrArg Int32.toInt ev103
          intro v105 ev105
          have hv105 := congrArg Int32.toInt ev105
          have f108 := aAQ v87 63 (by omega)
          have f109 := aAQ v105 63 (by omega)
          refine And.intro (fun c107 => ?_) (fun c107 => ?_)
          · skip
            have c107 := (aAO _ _).mp c107
            have f110 := aAT v67
            exact ts_X10_fits_133 bT aG qG m_x gR qR nG oO pJ xJ vZ xU xV aAW xK zM xT yF yD xZ hc0 hc1 hpost hKn x1 x2 v67 x4 x5 x6 bL bY dO sW sH aBK aBN (by omega) aF7 (by omega) yJ yG aAH zY hn73
          · skip
            have c107 := mt (aAO _ _).mpr c107
            have f111 := aAT v67
            exact ts_X10_fits_129 bT aG qG m_x gR qR nG oO pJ xJ vZ xU xV aAW xK zM xT yF yD xZ hc0 hc1 hpost hKn x1 x2 v67 x5 x6 bL bY dO sW sH aBK aBN aF7 (by omega) yJ yG aAH zY hn73
      · skip
        have c63 := mt (zJ _ _).mpr c63
        have f112 := aAT x3
        exact ts_X10_fits_156 bT aG qG m_x gR qR nG oO pJ xJ vZ xU xV aAW xK zM xT yF yD xZ hc0 hc1 hpost hKn x1 x2 x3 x4 x5 x6 bL bY dO sW sH aBK aBN aDO aF7 (by omega) yJ yG aAH zY hn73
set_option maxHeartbeats 8000000 in
set_option maxRecDepth 200000 in
theorem tb_X10_fits_73 {post : Int32 -> Int32 -> Int32 -> Int32 -> (Nat -> Int32) -> (Nat -> Int32) -> Prop} {SB : Int} (bT aG : Int32) (qG m_x gR qR nG oO pJ : Nat -> Int32) (xJ : 0 <= Int32.toInt bT /\ Int32.toInt bT <= 16) (vZ : 0 <= Int32.toInt aG /\ Int32.toInt aG <= 8) (xU : ∀ k : Nat, k = 17 -> -1 <= Int32.toInt (qG k) /\ Int32.toInt (qG k) <= SB) (xV : ∀ k : Nat, k = 19 -> 0 <= Int32.toInt (qG k) /\ Int32.toInt (qG k) <= 9) (aAW : ∀ k : Nat, 0 <= Int32.toInt (m_x k) /\ Int32.toInt (m_x k) <= 99) (xK : ∀ k : Nat, 0 <= Int32.toInt (gR k) /\ Int32.toInt (gR k) <= 99) (zM : ∀ k : Nat, 0 <= Int32.toInt (qR k) /\ Int32.toInt (qR k) <= 9) (xT : ∀ k : Nat, 0 <= Int32.toInt (nG k) /\ Int32.toInt (nG k) <= 99) (yF : ∀ k : Nat, 0 <= Int32.toInt (oO k) /\ Int32.toInt (oO k) <= 99) (yD : ∀ k : Nat, k = 4 -> 1 <= Int32.toInt (pJ k) /\ Int32.toInt (pJ k) <= 30) (xZ : ∀ k : Nat, k = 3 -> 0 <= Int32.toInt (pJ k) /\ Int32.toInt (pJ k) <= 9) (hc0 : -1 <= SB /\ SB <= 7) (hc1 : (Int32.toInt aG <= 0 /\ SB = 0) \/ (1 <= Int32.toInt aG /\ SB = Int32.toInt aG - 1)) (hpost : ∀ (r : Int32) (xM : Int32) (xG : Int32) (aAS : Int32) (aBX : Nat -> Int32) (aA5 : Nat -> Int32), (0 <= Int32.toInt xM /\ Int32.toInt xM <= 16) -> (0 <= Int32.toInt xG /\ Int32.toInt xG <= 0) -> (0 <= Int32.toInt aAS /\ Int32.toInt aAS <= 65535) -> (∀ k : Nat, 0 <= Int32.toInt (aA5 k) /\ Int32.toInt (aA5 k) <= 65535) -> post r xM xG aAS aBX aA5) : ∀ (n : Nat) (x1 x2 x3 x4 x5 x6 bL bY dO : Int32) (sW sH : Nat -> Int32), (0 <= Int32.toInt x1 /\ Int32.toInt x1 <= 65535) -> (0 <= Int32.toInt x2 /\ Int32.toInt x2 <= 255) -> (-1 <= Int32.toInt x4 /\ Int32.toInt x4 <= 255) -> (-1 <= Int32.toInt x5 /\ Int32.toInt x5 <= 255) -> (0 <= Int32.toInt x6 /\ Int32.toInt x6 <= 256) -> (0 <= Int32.toInt bL /\ Int32.toInt bL <= 16) -> (0 <= Int32.toInt bY /\ Int32.toInt bY <= 0) -> (0 <= Int32.toInt dO /\ Int32.toInt dO <= 65535) -> (∀ k : Nat, 0 <= Int32.toInt (sH k) /\ Int32.toInt (sH k) <= 65535) -> (256 - Int32.toInt x6 < (n : Int)) -> wb_X10_fits_73 post bT aG qG m_x gR qR nG oO pJ n x1 x2 x3 x4 x5 x6 bL bY dO sW sH := by
  intro n
  induction n with
  | zero =>
    intro x1 x2 x3 x4 x5 x6 bL bY dO sW sH aBK aBN aDO aF7 h_x6 yJ yG aAH zY hm
    exfalso; omega
  | succ n ih =>
    intro x1 x2 x3 x4 x5 x6 bL bY dO sW sH aBK aBN aDO aF7 h_x6 yJ yG aAH zY hm
    exact ts_X10_fits_73 bT aG qG m_x gR qR nG oO pJ xJ vZ xU xV aAW xK zM xT yF yD xZ hc0 hc1 hpost ih x1 x2 x3 x4 x5 x6 bL bY dO sW sH aBK aBN aDO aF7 h_x6 yJ yG aAH zY (by omega)
set_option maxHeartbeats 8000000 in
set_option maxRecDepth 200000 in
theorem ts_X10_fits_54 {post : Int32 -> Int32 -> Int32 -> Int32 -> (Nat -> Int32) -> (Nat -> Int32) -> Prop} {SB : Int} {K27 : Int32 -> Int32 -> Int32 -> Int32 -> Int32 -> Int32 -> (Nat -> Int32) -> (Nat -> Int32) -> Prop} {n27 : Int} (bT aG : Int32) (qG m_x gR qR nG oO pJ : Nat -> Int32) (xJ : 0 <= Int32.toInt bT /\ Int32.toInt bT <= 16) (vZ : 0 <= Int32.toInt aG /\ Int32.toInt aG <= 8) (xU : ∀ k : Nat, k = 17 -> -1 <= Int32.toInt (qG k) /\ Int32.toInt (qG k) <= SB) (xV : ∀ k : Nat, k = 19 -> 0 <= Int32.toInt (qG k) /\ Int32.toInt (qG k) <= 9) (aAW : ∀ k : Nat, 0 <= Int32.toInt (m_x k) /\ Int32.toInt (m_x k) <= 99) (xK : ∀ k : Nat, 0 <= Int32.toInt (gR k) /\ Int32.toInt (gR k) <= 99) (zM : ∀ k : Nat, 0 <= Int32.toInt (qR k) /\ Int32.toInt (qR k) <= 9) (xT : ∀ k : Nat, 0 <= Int32.toInt (nG k) /\ Int32.toInt (nG k) <= 99) (yF : ∀ k : Nat, 0 <= Int32.toInt (oO k) /\ Int32.toInt (oO k) <= 99) (yD : ∀ k : Nat, k = 4 -> 1 <= Int32.toInt (pJ k) /\ Int32.toInt (pJ k) <= 30) (xZ : ∀ k : Nat, k = 3 -> 0 <= Int32.toInt (pJ k) /\ Int32.toInt (pJ k) <= 9) (hc0 : -1 <= SB /\ SB <= 7) (hc1 : (Int32.toInt aG <= 0 /\ SB = 0) \/ (1 <= Int32.toInt aG /\ SB = Int32.toInt aG - 1)) (hpost : ∀ (r : Int32) (xM : Int32) (xG : Int32) (aAS : Int32) (aBX : Nat -> Int32) (aA5 : Nat -> Int32), (0 <= Int32.toInt xM /\ Int32.toInt xM <= 16) -> (0 <= Int32.toInt xG /\ Int32.toInt xG <= 0) -> (0 <= Int32.toInt aAS /\ Int32.toInt aAS <= 65535) -> (∀ k : Nat, 0 <= Int32.toInt (aA5 k) /\ Int32.toInt (aA5 k) <= 65535) -> post r xM xG aAS aBX aA5) (hK27 : ∀ (x1 : Int32) (x2 : Int32) (x3 : Int32) (bL : Int32) (bY : Int32) (dO : Int32) (sW : Nat -> Int32) (sH : Nat -> Int32), (0 <= Int32.toInt x1 /\ Int32.toInt x1 <= 65535) -> (0 <= Int32.toInt x2 /\ Int32.toInt x2 <= 255) -> (0 <= Int32.toInt x3 /\ Int32.toInt x3 <= 8) -> (0 <= Int32.toInt bL /\ Int32.toInt bL <= 16) -> (0 <= Int32.toInt bY /\ Int32.toInt bY <= 0) -> (0 <= Int32.toInt dO /\ Int32.toInt dO <= 65535) -> (∀ k : Nat, 0 <= Int32.toInt (sH k) /\ Int32.toInt (sH k) <= 65535) -> (8 - Int32.toInt x3 < n27) -> K27 x1 x2 x3 bL bY dO sW sH) (x1 x3 k0 k1 bL bY dO : Int32) (sW sH : Nat -> Int32) (aBK : 0 <= Int32.toInt x1 /\ Int32.toInt x1 <= 65535) (aCH : 0 <= Int32.toInt x3 /\ Int32.toInt x3 <= 7) (h_k0 : 0 <= Int32.toInt k0 /\ Int32.toInt k0 <= 255) (h_k1 : 0 <= Int32.toInt k1 /\ Int32.toInt k1 <= 128) (yJ : 0 <= Int32.toInt bL /\ Int32.toInt bL <= 16) (yG : 0 <= Int32.toInt bY /\ Int32.toInt bY <= 0) (aAH : 0 <= Int32.toInt dO /\ Int32.toInt dO <= 65535) (zY : ∀ k : Nat, 0 <= Int32.toInt (sH k) /\ Int32.toInt (sH k) <= 65535) (hn27 : 8 - Int32.toInt x3 <= n27) : ws_X10_fits_54 post K27 bT aG qG m_x gR qR nG oO pJ x1 x3 k0 k1 bL bY dO sW sH := by
  have l0 := aEc
  intro v113 ev113
  have f114 := ti_or 8 256 k0 k1 (by decide) (by omega) (by omega)
  have hv113 := congrArg Int32.toInt ev113
  intro v115 ev115
  have f116 : Int32.toInt (x3 + 1) = Int32.toInt x3 + Int32.toInt (1 : Int32) := aAD _ _ (by omega)
  rw [<- ev115] at f116
  exact hK27 x1 v113 v115 bL bY dO sW sH aBK (by omega) (by omega) yJ yG aAH zY (by omega)
set_option maxHeartbeats 8000000 in
set_option maxRecDepth 200000 in
theorem ts_X10_fits_27 {post : Int32 -> Int32 -> Int32 -> Int32 -> (Nat -> Int32) -> (Nat -> Int32) -> Prop} {SB : Int} {next : Int32 -> Int32 -> Int32 -> Int32 -> Int32 -> Int32 -> (Nat -> Int32) -> (Nat -> Int32) -> Prop} {n27 : Int} (bT aG : Int32) (qG m_x gR qR nG oO pJ : Nat -> Int32) (xJ : 0 <= Int32.toInt bT /\ Int32.toInt bT <= 16) (vZ : 0 <= Int32.toInt aG /\ Int32.toInt aG <= 8) (xU : ∀ k : Nat, k = 17 -> -1 <= Int32.toInt (qG k) /\ Int32.toInt (qG k) <= SB) (xV : ∀ k : Nat, k = 19 -> 0 <= Int32.toInt (qG k) /\ Int32.toInt (qG k) <= 9) (aAW : ∀ k : Nat, 0 <= Int32.toInt (m_x k) /\ Int32.toInt (m_x k) <= 99) (xK : ∀ k : Nat, 0 <= Int32.toInt (gR k) /\ Int32.toInt (gR k) <= 99) (zM : ∀ k : Nat, 0 <= Int32.toInt (qR k) /\ Int32.toInt (qR k) <= 9) (xT : ∀ k : Nat, 0 <= Int32.toInt (nG k) /\ Int32.toInt (nG k) <= 99) (yF : ∀ k : Nat, 0 <= Int32.toInt (oO k) /\ Int32.toInt (oO k) <= 99) (yD : ∀ k : Nat, k = 4 -> 1 <= Int32.toInt (pJ k) /\ Int32.toInt (pJ k) <= 30) (xZ : ∀ k : Nat, k = 3 -> 0 <= Int32.toInt (pJ k) /\ Int32.toInt (pJ k) <= 9) (hc0 : -1 <= SB /\ SB <= 7) (hc1 : (Int32.toInt aG <= 0 /\ SB = 0) \/ (1 <= Int32.toInt aG /\ SB = Int32.toInt aG - 1)) (hpost : ∀ (r : Int32) (xM : Int32) (xG : Int32) (aAS : Int32) (aBX : Nat -> Int32) (aA5 : Nat -> Int32), (0 <= Int32.toInt xM /\ Int32.toInt xM <= 16) -> (0 <= Int32.toInt xG /\ Int32.toInt xG <= 0) -> (0 <= Int32.toInt aAS /\ Int32.toInt aAS <= 65535) -> (∀ k : Nat, 0 <= Int32.toInt (aA5 k) /\ Int32.toInt (aA5 k) <= 65535) -> post r xM xG aAS aBX aA5) (hKn : ∀ (x1 : Int32) (x2 : Int32) (x3 : Int32) (bL : Int32) (bY : Int32) (dO : Int32) (sW : Nat -> Int32) (sH : Nat -> Int32), (0 <= Int32.toInt x1 /\ Int32.toInt x1 <= 65535) -> (0 <= Int32.toInt x2 /\ Int32.toInt x2 <= 255) -> (0 <= Int32.toInt x3 /\ Int32.toInt x3 <= 8) -> (0 <= Int32.toInt bL /\ Int32.toInt bL <= 16) -> (0 <= Int32.toInt bY /\ Int32.toInt bY <= 0) -> (0 <= Int32.toInt dO /\ Int32.toInt dO <= 65535) -> (∀ k : Nat, 0 <= Int32.toInt (sH k) /\ Int32.toInt (sH k) <= 65535) -> (8 - Int32.toInt x3 < n27) -> next x1 x2 x3 bL bY dO sW sH) (x1 x2 x3 bL bY dO : Int32) (sW sH : Nat -> Int32) (aBK : 0 <= Int32.toInt x1 /\ Int32.toInt x1 <= 65535) (aBN : 0 <= Int32.toInt x2 /\ Int32.toInt x2 <= 255) (aCH : 0 <= Int32.toInt x3 /\ Int32.toInt x3 <= 8) (yJ : 0 <= Int32.toInt bL /\ Int32.toInt bL <= 16) (yG : 0 <= Int32.toInt bY /\ Int32.toInt bY <= 0) (aAH : 0 <= Int32.toInt dO /\ Int32.toInt dO <= 65535) (zY : ∀ k : Nat, 0 <= Int32.toInt (sH k) /\ Int32.toInt (sH k) <= 65535) (hn27 : 8 - Int32.toInt x3 <= n27) : ws_X10_fits_27 post next bT aG qG m_x gR qR nG oO pJ x1 x2 x3 bL bY dO sW sH := by
  have l0 := aI2
  have l1 := aE0
  refine And.intro (fun c117 => ?_) (fun c117 => ?_)
  · skip
    have c117 := (aAO _ _).mp c117
    exact ⟨258, tb_X10_fits_73 bT aG qG m_x gR qR nG oO pJ xJ vZ xU xV aAW xK zM xT yF yD xZ hc0 hc1 hpost _ x1 x2 0 (-1) (-1) 0 bL bY dO sW sH aBK aBN (by omega) (by omega) (by omega) yJ yG aAH zY (by omega)⟩
  · skip
    have c117 := mt (aAO _ _).mpr c117
    refine And.intro (aBZ (by omega)) ?_
    intro v118 ev118
    have f119 := zY x3.toNatClampNeg
    have hv118 := congrArg Int32.toInt ev118
    have f121 := aAQ v118 x1 (by omega)
    have f122 := aBx v118 x1 (by omega)
    refine And.intro (fun c120 => ?_) (fun c120 => ?_)
    · skip
      have c120 := (zJ _ _).mp c120
      exact ts_X10_fits_54 bT aG qG m_x gR qR nG oO pJ xJ vZ xU xV aAW xK zM xT yF yD xZ hc0 hc1 hpost hKn x1 x3 x2 0 bL bY dO sW sH aBK (by omega) aBN (by omega) yJ yG aAH zY hn27
    · skip
      have c120 := mt (zJ _ _).mpr c120
      intro v123 ev123
      have f124 := aDv 7 128 x3 (by decide) (by omega)
      have hv123 := congrArg Int32.toInt ev123
      exact ts_X10_fits_54 bT aG qG m_x gR qR nG oO pJ xJ vZ xU xV aAW xK zM xT yF yD xZ hc0 hc1 hpost hKn x1 x3 x2 v123 bL bY dO sW sH aBK (by omega) aBN (by omega) yJ yG aAH zY hn27
set_option maxHeartbeats 8000000 in
set_option maxRecDepth 200000 in
theorem tb_X10_fits_27 {post : Int32 -> Int32 -> Int32 -> Int32 -> (Nat -> Int32) -> (Nat -> Int32) -> Prop} {SB : Int} (bT aG : Int32) (qG m_x gR qR nG oO pJ : Nat -> Int32) (xJ : 0 <= Int32.toInt bT /\ Int32.toInt bT <= 16) (vZ : 0 <= Int32.toInt aG /\ Int32.toInt aG <= 8) (xU : ∀ k : Nat, k = 17 -> -1 <= Int32.toInt (qG k) /\ Int32.toInt (qG k) <= SB) (xV : ∀ k : Nat, k = 19 -> 0 <= Int32.toInt (qG k) /\ Int32.toInt (qG k) <= 9) (aAW : ∀ k : Nat, 0 <= Int32.toInt (m_x k) /\ Int32.toInt (m_x k) <= 99) (xK : ∀ k : Nat, 0 <= Int32.toInt (gR k) /\ Int32.toInt (gR k) <= 99) (zM : ∀ k : Nat, 0 <= Int32.toInt (qR k) /\ Int32.toInt (qR k) <= 9) (xT : ∀ k : Nat, 0 <= Int32.toInt (nG k) /\ Int32.toInt (nG k) <= 99) (yF : ∀ k : Nat, 0 <= Int32.toInt (oO k) /\ Int32.toInt (oO k) <= 99) (yD : ∀ k : Nat, k = 4 -> 1 <= Int32.toInt (pJ k) /\ Int32.toInt (pJ k) <= 30) (xZ : ∀ k : Nat, k = 3 -> 0 <= Int32.toInt (pJ k) /\ Int32.toInt (pJ k) <= 9) (hc0 : -1 <= SB /\ SB <= 7) (hc1 : (Int32.toInt aG <= 0 /\ SB = 0) \/ (1 <= Int32.toInt aG /\ SB = Int32.toInt aG - 1)) (hpost : ∀ (r : Int32) (xM : Int32) (xG : Int32) (aAS : Int32) (aBX : Nat -> Int32) (aA5 : Nat -> Int32), (0 <= Int32.toInt xM /\ Int32.toInt xM <= 16) -> (0 <= Int32.toInt xG /\ Int32.toInt xG <= 0) -> (0 <= Int32.toInt aAS /\ Int32.toInt aAS <= 65535) -> (∀ k : Nat, 0 <= Int32.toInt (aA5 k) /\ Int32.toInt (aA5 k) <= 65535) -> post r xM xG aAS aBX aA5) : ∀ (n : Nat) (x1 x2 x3 bL bY dO : Int32) (sW sH : Nat -> Int32), (0 <= Int32.toInt x1 /\ Int32.toInt x1 <= 65535) -> (0 <= Int32.toInt x2 /\ Int32.toInt x2 <= 255) -> (0 <= Int32.toInt x3 /\ Int32.toInt x3 <= 8) -> (0 <= Int32.toInt bL /\ Int32.toInt bL <= 16) -> (0 <= Int32.toInt bY /\ Int32.toInt bY <= 0) -> (0 <= Int32.toInt dO /\ Int32.toInt dO <= 65535) -> (∀ k : Nat, 0 <= Int32.toInt (sH k) /\ Int32.toInt (sH k) <= 65535) -> (8 - Int32.toInt x3 < (n : Int)) -> wb_X10_fits_27 post bT aG qG m_x gR qR nG oO pJ n x1 x2 x3 bL bY dO sW sH := by
  intro n
  induction n with
  | zero =>
    intro x1 x2 x3 bL bY dO sW sH aBK aBN aCH yJ yG aAH zY hm
    exfalso; omega
  | succ n ih =>
    intro x1 x2 x3 bL bY dO sW sH aBK aBN aCH yJ yG aAH zY hm
    exact ts_X10_fits_27 bT aG qG m_x gR qR nG oO pJ xJ vZ xU xV aAW xK zM xT yF yD xZ hc0 hc1 hpost ih x1 x2 x3 bL bY dO sW sH aBK aBN aCH yJ yG aAH zY (by omega)
set_option maxHeartbeats 8000000 in
set_option maxRecDepth 200000 in
theorem t_X10_fits {post : Int32 -> Int32 -> Int32 -> Int32 -> (Nat -> Int32) -> (Nat -> Int32) -> Prop} {SB : Int} {p0 bT aG bL bY dO : Int32} {qG m_x gR qR nG oO pJ sW sH : Nat -> Int32} (xJ : 0 <= Int32.toInt bT /\ Int32.toInt bT <= 16) (vZ : 0 <= Int32.toInt aG /\ Int32.toInt aG <= 8) (yJ : 0 <= Int32.toInt bL /\ Int32.toInt bL <= 16) (yG : 0 <= Int32.toInt bY /\ Int32.toInt bY <= 1) (aAH : 0 <= Int32.toInt dO /\ Int32.toInt dO <= 65535) (xU : ∀ k : Nat, k = 17 -> -1 <= Int32.toInt (qG k) /\ Int32.toInt (qG k) <= SB) (xV : ∀ k : Nat, k = 19 -> 0 <= Int32.toInt (qG k) /\ Int32.toInt (qG k) <= 9) (aAW : ∀ k : Nat, 0 <= Int32.toInt (m_x k) /\ Int32.toInt (m_x k) <= 99) (xK : ∀ k : Nat, 0 <= Int32.toInt (gR k) /\ Int32.toInt (gR k) <= 99) (zM : ∀ k : Nat, 0 <= Int32.toInt (qR k) /\ Int32.toInt (qR k) <= 9) (xT : ∀ k : Nat, 0 <= Int32.toInt (nG k) /\ Int32.toInt (nG k) <= 99) (yF : ∀ k : Nat, 0 <= Int32.toInt (oO k) /\ Int32.toInt (oO k) <= 99) (yD : ∀ k : Nat, k = 4 -> 1 <= Int32.toInt (pJ k) /\ Int32.toInt (pJ k) <= 30) (xZ : ∀ k : Nat, k = 3 -> 0 <= Int32.toInt (pJ k) /\ Int32.toInt (pJ k) <= 9) (zY : ∀ k : Nat, 0 <= Int32.toInt (sH k) /\ Int32.toInt (sH k) <= 65535) (hc0 : -1 <= SB /\ SB <= 7) (hc1 : (Int32.toInt aG <= 0 /\ SB = 0) \/ (1 <= Int32.toInt aG /\ SB = Int32.toInt aG - 1)) (hpost : ∀ (r : Int32) (xM : Int32) (xG : Int32) (aAS : Int32) (aBX : Nat -> Int32) (aA5 : Nat -> Int32), (0 <= Int32.toInt xM /\ Int32.toInt xM <= 16) -> (0 <= Int32.toInt xG /\ Int32.toInt xG <= 0) -> (0 <= Int32.toInt aAS /\ Int32.toInt aAS <= 65535) -> (∀ k : Nat, 0 <= Int32.toInt (aA5 k) /\ Int32.toInt (aA5 k) <= 65535) -> post r xM xG aAS aBX aA5) : wp_X10_fits post p0 bT aG bL bY dO qG m_x gR qR nG oO pJ sW sH := by
  have l0 := aE0
  have l1 := aEc
  have l2 := li_18
  intro v125 ev125
  have f126 := aDv 16 65536 bT (by decide) (by omega)
  have hv125 := congrArg Int32.toInt ev125
  have f128 := aAT p0
  refine And.intro (fun c127 => ?_) (fun c127 => ?_)
  · skip
    have c127 := (aAd _ _).mp c127
    refine And.intro (fun h9 => absurd h9 (by decide)) (fun _ => ?_)
    exact hpost _ _ _ _ _ _ yJ (by omega) aAH zY
  · skip
    have c127 := mt (aAd _ _).mpr c127
    have f130 : Int32.toInt (v125 - 1) = Int32.toInt v125 - Int32.toInt (1 : Int32) := aCA _ _ (by omega)
    refine And.intro (fun c129 => ?_) (fun c129 => ?_)
    · skip
      have c129 := (aAd _ _).mp c129
      refine And.intro (fun h9 => absurd h9 (by decide)) (fun _ => ?_)
      exact hpost _ _ _ _ _ _ yJ (by omega) aAH zY
    · skip
      have c129 := mt (aAd _ _).mpr c129
      refine And.intro (fun _ => ?_) (fun h9 => absurd h9 (by decide))
      intro v131 ev131
      have hv131 := congrArg Int32.toInt ev131
      refine aLb xJ vZ aAH xU xV aAW xK zM xT yF yD xZ zY (by omega) (by omega) (fun m_wanted_133 m_hand_134 h_m_wanted_133 h_m_hand_134 => ?_)
      exact ⟨10, tb_X10_fits_27 bT aG qG m_x gR qR nG oO pJ xJ vZ xU xV aAW xK zM xT yF yD xZ hc0 hc1 hpost _ p0 0 0 bL 0 m_wanted_133 sW m_hand_134 (by omega) (by omega) (by omega) yJ (by omega) h_m_wanted_133 h_m_hand_134 (by omega)⟩
set_option maxHeartbeats 8000000 in
set_option maxRecDepth 200000 in
theorem t_X10_leaned {post : Int32 -> Int32 -> Prop} {p0 p1 bT aG bY : Int32} {m_x gR nG oO pJ : Nat -> Int32} (xJ : 0 <= Int32.toInt bT /\ Int32.toInt bT <= 16) (vZ : 0 <= Int32.toInt aG /\ Int32.toInt aG <= 8) (yG : 0 <= Int32.toInt bY /\ Int32.toInt bY <= 1) (aAW : ∀ k : Nat, 0 <= Int32.toInt (m_x k) /\ Int32.toInt (m_x k) <= 99) (xK : ∀ k : Nat, 0 <= Int32.toInt (gR k) /\ Int32.toInt (gR k) <= 99) (xT : ∀ k : Nat, 0 <= Int32.toInt (nG k) /\ Int32.toInt (nG k) <= 99) (yF : ∀ k : Nat, 0 <= Int32.toInt (oO k) /\ Int32.toInt (oO k) <= 99) (yD : ∀ k : Nat, k = 4 -> 1 <= Int32.toInt (pJ k) /\ Int32.toInt (pJ k) <= 30) (xZ : ∀ k : Nat, k = 3 -> 0 <= Int32.toInt (pJ k) /\ Int32.toInt (pJ k) <= 9) (hpost : ∀ (r : Int32) (xG : Int32), (-2 <= Int32.toInt r /\ Int32.toInt r <= 30) -> (0 <= Int32.toInt xG /\ Int32.toInt xG <= 0) -> post r xG) : wp_X10_leaned post p0 p1 bT aG bY m_x gR nG oO pJ := by
  have l0 := aI2
  have l1 := li_m2
  have l2 := aE0
  have l3 := aEc
  have l4 := li_30
  intro v1 ev1
  have f2 : Int32.toInt (bT - 1) = Int32.toInt bT - Int32.toInt (1 : Int32) := aCA _ _ (by omega)
  rw [<- ev1] at f2
  have f4 := aAT p0
  refine And.intro (fun c3 => ?_) (fun c3 => ?_)
  · skip
    have c3 := (aAd _ _).mp c3
    refine And.intro (aHE (by omega)) ?_
    refine And.intro (fun _ => ?_) (fun h9 => absurd h9 (by decide))
    exact hpost _ _ (by omega) (by omega)
  · skip
    have c3 := mt (aAd _ _).mpr c3
    refine And.intro (fun c5 => ?_) (fun c5 => ?_)
    · skip
      have c5 := (aAd _ _).mp c5
      refine And.intro (aHE (by omega)) ?_
      refine And.intro (fun _ => ?_) (fun h9 => absurd h9 (by decide))
      exact hpost _ _ (by omega) (by omega)
    · skip
      have c5 := mt (aAd _ _).mpr c5
      refine And.intro (aHE (by omega)) ?_
      refine And.intro (fun h9 => absurd h9 (by decide)) (fun _ => ?_)
      intro v6 ev6
      have f7 : Int32.toInt (aG - 1) = Int32.toInt aG - Int32.toInt (1 : Int32) := aCA _ _ (by omega)
      rw [<- ev6] at f7
      have f9 := aAT p1
      refine And.intro (fun c8 => ?_) (fun c8 => ?_)
      · skip
        have c8 := (aAd _ _).mp c8
        refine And.intro (aHE (by omega)) ?_
        refine And.intro (fun h9 => absurd h9 (by decide)) (fun _ => ?_)
        exact hpost _ _ (by omega) (by omega)
      · skip
        have c8 := mt (aAd _ _).mpr c8
        refine And.intro (fun c10 => ?_) (fun c10 => ?_)
        · skip
          have c10 := (aAd _ _).mp c10
          refine And.intro (aHE (by omega)) ?_
          refine And.intro (fun h9 => absurd h9 (by decide)) (fun _ => ?_)
          exact hpost _ _ (by omega) (by omega)
        · skip
          have c10 := mt (aAd _ _).mpr c10
          refine And.intro (aHE (by omega)) ?_
          refine And.intro (fun _ => ?_) (fun h9 => absurd h9 (by decide))
          refine t_X10_leanOf (by omega) (by omega) aAW xK xT yF yD xZ (fun r11 h_r11 => ?_)
          refine And.intro (fun c12 => ?_) (fun c12 => ?_)
          · skip
            have c12 := (aAO _ _).mp c12
            exact hpost _ _ (by omega) (by omega)
          · skip
            have c12 := mt (aAO _ _).mpr c12
            exact hpost _ _ (by omega) (by omega)
set_option maxHeartbeats 8000000 in
set_option maxRecDepth 200000 in
theorem ts_X10_autumn_129 {post : Int32 -> Int32 -> Int32 -> Int32 -> (Nat -> Int32) -> Prop} {SB : Int} {K55 : Int32 -> Int32 -> Int32 -> Int32 -> Int32 -> Int32 -> Int32 -> Int32 -> Int32 -> Int32 -> (Nat -> Int32) -> Prop} {K91 : Int32 -> Int32 -> Int32 -> Int32 -> Int32 -> Int32 -> Int32 -> Int32 -> Int32 -> Int32 -> Int32 -> Int32 -> Int32 -> (Nat -> Int32) -> Prop} {n55 n91 : Int} (bT : Int32) (qG pW qR : Nat -> Int32) (xJ : 0 <= Int32.toInt bT /\ Int32.toInt bT <= 16) (xU : ∀ k : Nat, k = 17 -> -1 <= Int32.toInt (qG k) /\ Int32.toInt (qG k) <= SB) (xV : ∀ k : Nat, k = 19 -> 0 <= Int32.toInt (qG k) /\ Int32.toInt (qG k) <= 9) (yR : ∀ k : Nat, 0 <= Int32.toInt (pW k) /\ Int32.toInt (pW k) <= 9) (zM : ∀ k : Nat, 0 <= Int32.toInt (qR k) /\ Int32.toInt (qR k) <= 9) (hc0 : -1 <= SB /\ SB <= 7) (hpost : ∀ (r : Int32) (xM : Int32) (xG : Int32) (m_drawn' : Int32) (aBX : Nat -> Int32), (-1 <= Int32.toInt r /\ Int32.toInt r <= 63) -> (0 <= Int32.toInt xM /\ Int32.toInt xM <= 16) -> (0 <= Int32.toInt xG /\ Int32.toInt xG <= 0) -> post r xM xG m_drawn' aBX) (hK55 : ∀ (x2 : Int32) (x3 : Int32) (x4 : Int32) (x5 : Int32) (x6 : Int32) (x7 : Int32) (x8 : Int32) (bL : Int32) (bY : Int32) (jY : Int32) (sW : Nat -> Int32), (1 <= Int32.toInt x2 /\ Int32.toInt x2 <= 30) -> (0 <= Int32.toInt x3 /\ Int32.toInt x3 <= 10) -> (0 <= Int32.toInt x4 /\ Int32.toInt x4 <= 65535) -> (0 <= Int32.toInt x5 /\ Int32.toInt x5 <= 65535) -> (0 <= Int32.toInt x6 /\ Int32.toInt x6 <= 63) -> (-1 <= Int32.toInt x7 /\ Int32.toInt x7 <= 30) -> (1 <= Int32.toInt x8 /\ Int32.toInt x8 <= 31) -> (0 <= Int32.toInt bL /\ Int32.toInt bL <= 16) -> (0 <= Int32.toInt bY /\ Int32.toInt bY <= 0) -> (31 - Int32.toInt x8 < n55) -> K55 x2 x3 x4 x5 x6 x7 x8 bL bY jY sW) (hK91 : ∀ (x2 : Int32) (x3 : Int32) (x4 : Int32) (x5 : Int32) (x6 : Int32) (x7 : Int32) (x8 : Int32) (x9 : Int32) (x10 : Int32) (x11 : Int32) (bL : Int32) (bY : Int32) (jY : Int32) (sW : Nat -> Int32), (1 <= Int32.toInt x2 /\ Int32.toInt x2 <= 30) -> (0 <= Int32.toInt x3 /\ Int32.toInt x3 <= 10) -> (0 <= Int32.toInt x4 /\ Int32.toInt x4 <= 65535) -> (0 <= Int32.toInt x5 /\ Int32.toInt x5 <= 65535) -> (0 <= Int32.toInt x6 /\ Int32.toInt x6 <= 63) -> (-1 <= Int32.toInt x7 /\ Int32.toInt x7 <= 30) -> (1 <= Int32.toInt x8 /\ Int32.toInt x8 <= 30) -> (0 <= Int32.toInt x9 /\ Int32.toInt x9 <= 65535) -> (0 <= Int32.toInt x10 /\ Int32.toInt x10 <= 65535) -> (0 <= Int32.toInt x11 /\ Int32.toInt x11 <= 16) -> (0 <= Int32.toInt bL /\ Int32.toInt bL <= 16) -> (0 <= Int32.toInt bY /\ Int32.toInt bY <= 0) -> (31 - Int32.toInt x8 <= n55) -> (16 - Int32.toInt x11 < n91) -> K91 x2 x3 x4 x5 x6 x7 x8 x9 x10 x11 bL bY jY sW) (x2 x3 x4 x5 x6 x7 x8 x9 x10 x11 bL bY jY : Int32) (sW : Nat -> Int32) (aBN : 1 <= Int32.toInt x2 /\ Int32.toInt x2 <= 30) (aCH : 0 <= Int32.toInt x3 /\ Int32.toInt x3 <= 10) (aDO : 0 <= Int32.toInt x4 /\ Int32.toInt x4 <= 65535) (aF7 : 0 <= Int32.toInt x5 /\ Int32.toInt x5 <= 65535) (h_x6 : 0 <= Int32.toInt x6 /\ Int32.toInt x6 <= 63) (h_x7 : -1 <= Int32.toInt x7 /\ Int32.toInt x7 <= 30) (h_x8 : 1 <= Int32.toInt x8 /\ Int32.toInt x8 <= 30) (h_x9 : 0 <= Int32.toInt x9 /\ Int32.toInt x9 <= 65535) (h_x10 : 0 <= Int32.toInt x10 /\ Int32.toInt x10 <= 65535) (h_x11 : 0 <= Int32.toInt x11 /\ Int32.toInt x11 <= 15) (yJ : 0 <= Int32.toInt bL /\ Int32.toInt bL <= 16) (yG : 0 <= Int32.toInt bY /\ Int32.toInt bY <= 0) (hn55 : 31 - Int32.toInt x8 <= n55) (hn91 : 16 - Int32.toInt x11 <= n91) : ws_X10_autumn_129 post K55 K91 bT qG pW qR x2 x3 x4 x5 x6 x7 x8 x9 x10 x11 bL bY jY sW := by
  have l0 := aEc
  intro v1 ev1
  have f2 : Int32.toInt (x11 + 1) = Int32.toInt x11 + Int32.toInt (1 : Int32) := aAD _ _ (by omega)
  rw [<- ev1] at f2
  have f3 := aAT jY
  exact hK91 x2 x3 x4 x5 x6 x7 x8 x9 x10 v1 bL bY jY sW aBN aCH aDO aF7 h_x6 h_x7 h_x8 h_x9 h_x10 (by omega) yJ yG hn55 (by omega)
set_option maxHeartbeats 8000000 in
set_option maxRecDepth 200000 in
theorem ts_X10_autumn_175 {post : Int32 -> Int32 -> Int32 -> Int32 -> (Nat -> Int32) -> Prop} {SB : Int} {K55 : Int32 -> Int32 -> Int32 -> Int32 -> Int32 -> Int32 -> Int32 -> Int32 -> Int32 -> Int32 -> (Nat -> Int32) -> Prop} {n55 : Int} (bT : Int32) (qG pW qR : Nat -> Int32) (xJ : 0 <= Int32.toInt bT /\ Int32.toInt bT <= 16) (xU : ∀ k : Nat, k = 17 -> -1 <= Int32.toInt (qG k) /\ Int32.toInt (qG k) <= SB) (xV : ∀ k : Nat, k = 19 -> 0 <= Int32.toInt (qG k) /\ Int32.toInt (qG k) <= 9) (yR : ∀ k : Nat, 0 <= Int32.toInt (pW k) /\ Int32.toInt (pW k) <= 9) (zM : ∀ k : Nat, 0 <= Int32.toInt (qR k) /\ Int32.toInt (qR k) <= 9) (hc0 : -1 <= SB /\ SB <= 7) (hpost : ∀ (r : Int32) (xM : Int32) (xG : Int32) (m_drawn' : Int32) (aBX : Nat -> Int32), (-1 <= Int32.toInt r /\ Int32.toInt r <= 63) -> (0 <= Int32.toInt xM /\ Int32.toInt xM <= 16) -> (0 <= Int32.toInt xG /\ Int32.toInt xG <= 0) -> post r xM xG m_drawn' aBX) (hK55 : ∀ (x2 : Int32) (x3 : Int32) (x4 : Int32) (x5 : Int32) (x6 : Int32) (x7 : Int32) (x8 : Int32) (bL : Int32) (bY : Int32) (jY : Int32) (sW : Nat -> Int32), (1 <= Int32.toInt x2 /\ Int32.toInt x2 <= 30) -> (0 <= Int32.toInt x3 /\ Int32.toInt x3 <= 10) -> (0 <= Int32.toInt x4 /\ Int32.toInt x4 <= 65535) -> (0 <= Int32.toInt x5 /\ Int32.toInt x5 <= 65535) -> (0 <= Int32.toInt x6 /\ Int32.toInt x6 <= 63) -> (-1 <= Int32.toInt x7 /\ Int32.toInt x7 <= 30) -> (1 <= Int32.toInt x8 /\ Int32.toInt x8 <= 31) -> (0 <= Int32.toInt bL /\ Int32.toInt bL <= 16) -> (0 <= Int32.toInt bY /\ Int32.toInt bY <= 0) -> (31 - Int32.toInt x8 < n55) -> K55 x2 x3 x4 x5 x6 x7 x8 bL bY jY sW) (x2 x3 x4 x5 x6 x7 x8 bL bY jY : Int32) (sW : Nat -> Int32) (aBN : 1 <= Int32.toInt x2 /\ Int32.toInt x2 <= 30) (aCH : 0 <= Int32.toInt x3 /\ Int32.toInt x3 <= 10) (aDO : 0 <= Int32.toInt x4 /\ Int32.toInt x4 <= 65535) (aF7 : 0 <= Int32.toInt x5 /\ Int32.toInt x5 <= 65535) (h_x6 : 0 <= Int32.toInt x6 /\ Int32.toInt x6 <= 63) (h_x7 : -1 <= Int32.toInt x7 /\ Int32.toInt x7 <= 30) (h_x8 : 1 <= Int32.toInt x8 /\ Int32.toInt x8 <= 30) (yJ : 0 <= Int32.toInt bL /\ Int32.toInt bL <= 16) (yG : 0 <= Int32.toInt bY /\ Int32.toInt bY <= 0) (hn55 : 31 - Int32.toInt x8 <= n55) : ws_X10_autumn_175 post K55 bT qG pW qR x2 x3 x4 x5 x6 x7 x8 bL bY jY sW := by
  have l0 := aEc
  intro v4 ev4
  have f5 : Int32.toInt (x8 + 1) = Int32.toInt x8 + Int32.toInt (1 : Int32) := aAD _ _ (by omega)
  rw [<- ev4] at f5
  have f6 := aAT jY
  exact hK55 x2 x3 x4 x5 x6 x7 v4 bL bY jY sW aBN aCH aDO aF7 h_x6 h_x7 (by omega) yJ yG (by omega)
set_option maxHeartbeats 8000000 in
set_option maxRecDepth 200000 in
theorem ts_X10_autumn_91 {post : Int32 -> Int32 -> Int32 -> Int32 -> (Nat -> Int32) -> Prop} {SB : Int} {K55 : Int32 -> Int32 -> Int32 -> Int32 -> Int32 -> Int32 -> Int32 -> Int32 -> Int32 -> Int32 -> (Nat -> Int32) -> Prop} {next : Int32 -> Int32 -> Int32 -> Int32 -> Int32 -> Int32 -> Int32 -> Int32 -> Int32 -> Int32 -> Int32 -> Int32 -> Int32 -> (Nat -> Int32) -> Prop} {n91 n55 : Int} (bT : Int32) (qG pW qR : Nat -> Int32) (xJ : 0 <= Int32.toInt bT /\ Int32.toInt bT <= 16) (xU : ∀ k : Nat, k = 17 -> -1 <= Int32.toInt (qG k) /\ Int32.toInt (qG k) <= SB) (xV : ∀ k : Nat, k = 19 -> 0 <= Int32.toInt (qG k) /\ Int32.toInt (qG k) <= 9) (yR : ∀ k : Nat, 0 <= Int32.toInt (pW k) /\ Int32.toInt (pW k) <= 9) (zM : ∀ k : Nat, 0 <= Int32.toInt (qR k) /\ Int32.toInt (qR k) <= 9) (hc0 : -1 <= SB /\ SB <= 7) (hpost : ∀ (r : Int32) (xM : Int32) (xG : Int32) (m_drawn' : Int32) (aBX : Nat -> Int32), (-1 <= Int32.toInt r /\ Int32.toInt r <= 63) -> (0 <= Int32.toInt xM /\ Int32.toInt xM <= 16) -> (0 <= Int32.toInt xG /\ Int32.toInt xG <= 0) -> post r xM xG m_drawn' aBX) (hK55 : ∀ (x2 : Int32) (x3 : Int32) (x4 : Int32) (x5 : Int32) (x6 : Int32) (x7 : Int32) (x8 : Int32) (bL : Int32) (bY : Int32) (jY : Int32) (sW : Nat -> Int32), (1 <= Int32.toInt x2 /\ Int32.toInt x2 <= 30) -> (0 <= Int32.toInt x3 /\ Int32.toInt x3 <= 10) -> (0 <= Int32.toInt x4 /\ Int32.toInt x4 <= 65535) -> (0 <= Int32.toInt x5 /\ Int32.toInt x5 <= 65535) -> (0 <= Int32.toInt x6 /\ Int32.toInt x6 <= 63) -> (-1 <= Int32.toInt x7 /\ Int32.toInt x7 <= 30) -> (1 <= Int32.toInt x8 /\ Int32.toInt x8 <= 31) -> (0 <= Int32.toInt bL /\ Int32.toInt bL <= 16) -> (0 <= Int32.toInt bY /\ Int32.toInt bY <= 0) -> (31 - Int32.toInt x8 < n55) -> K55 x2 x3 x4 x5 x6 x7 x8 bL bY jY sW) (hKn : ∀ (x2 : Int32) (x3 : Int32) (x4 : Int32) (x5 : Int32) (x6 : Int32) (x7 : Int32) (x8 : Int32) (x9 : Int32) (x10 : Int32) (x11 : Int32) (bL : Int32) (bY : Int32) (jY : Int32) (sW : Nat -> Int32), (1 <= Int32.toInt x2 /\ Int32.toInt x2 <= 30) -> (0 <= Int32.toInt x3 /\ Int32.toInt x3 <= 10) -> (0 <= Int32.toInt x4 /\ Int32.toInt x4 <= 65535) -> (0 <= Int32.toInt x5 /\ Int32.toInt x5 <= 65535) -> (0 <= Int32.toInt x6 /\ Int32.toInt x6 <= 63) -> (-1 <= Int32.toInt x7 /\ Int32.toInt x7 <= 30) -> (1 <= Int32.toInt x8 /\ Int32.toInt x8 <= 30) -> (0 <= Int32.toInt x9 /\ Int32.toInt x9 <= 65535) -> (0 <= Int32.toInt x10 /\ Int32.toInt x10 <= 65535) -> (0 <= Int32.toInt x11 /\ Int32.toInt x11 <= 16) -> (0 <= Int32.toInt bL /\ Int32.toInt bL <= 16) -> (0 <= Int32.toInt bY /\ Int32.toInt bY <= 0) -> (31 - Int32.toInt x8 <= n55) -> (16 - Int32.toInt x11 < n91) -> next x2 x3 x4 x5 x6 x7 x8 x9 x10 x11 bL bY jY sW) (x2 x3 x4 x5 x6 x7 x8 x9 x10 x11 bL bY jY : Int32) (sW : Nat -> Int32) (aBN : 1 <= Int32.toInt x2 /\ Int32.toInt x2 <= 30) (aCH : 0 <= Int32.toInt x3 /\ Int32.toInt x3 <= 10) (aDO : 0 <= Int32.toInt x4 /\ Int32.toInt x4 <= 65535) (aF7 : 0 <= Int32.toInt x5 /\ Int32.toInt x5 <= 65535) (h_x6 : 0 <= Int32.toInt x6 /\ Int32.toInt x6 <= 63) (h_x7 : -1 <= Int32.toInt x7 /\ Int32.toInt x7 <= 30) (h_x8 : 1 <= Int32.toInt x8 /\ Int32.toInt x8 <= 30) (h_x9 : 0 <= Int32.toInt x9 /\ Int32.toInt x9 <= 65535) (h_x10 : 0 <= Int32.toInt x10 /\ Int32.toInt x10 <= 65535) (h_x11 : 0 <= Int32.toInt x11 /\ Int32.toInt x11 <= 16) (yJ : 0 <= Int32.toInt bL /\ Int32.toInt bL <= 16) (yG : 0 <= Int32.toInt bY /\ Int32.toInt bY <= 0) (hn55 : 31 - Int32.toInt x8 <= n55) (hn91 : 16 - Int32.toInt x11 <= n91) : ws_X10_autumn_91 post K55 next bT qG pW qR x2 x3 x4 x5 x6 x7 x8 x9 x10 x11 bL bY jY sW := by
  have l0 := aE0
  have l1 := aEc
  have l2 := li_10
  have l3 := aKH
  have l4 := aJ8
  have l5 := li_63
  have l6 := aJ9
  refine And.intro (fun c7 => ?_) (fun c7 => ?_)
  · skip
    have c7 := (aAO _ _).mp c7
    intro v8 ev8
    have f10 := aBx x4 (x10 ^^^ (-1)) (by omega)
    have hv8 := congrArg Int32.toInt ev8
    intro v11 ev11
    have f12 := ti_or 16 65536 x5 x10 (by decide) (by omega) (by omega)
    have hv11 := congrArg Int32.toInt ev11
    intro v13 ev13
    intro v14 ev14
    have f16 := aAQ v13 1431655765 (by omega)
    have f15 : Int32.toInt (x10 - (v13 &&& 1431655765)) = Int32.toInt x10 - Int32.toInt (v13 &&& 1431655765) := aCA _ _ (by omega)
    rw [<- ev14] at f15
    intro v17 ev17
    have f18 := aAQ v14 858993459 (by omega)
    have hv17 := congrArg Int32.toInt ev17
    intro v19 ev19
    intro v20 ev20
    have f22 := aAQ v19 858993459 (by omega)
    have f21 : Int32.toInt (v17 + (v19 &&& 858993459)) = Int32.toInt v17 + Int32.toInt (v19 &&& 858993459) := aAD _ _ (by omega)
    rw [<- ev20] at f21
    intro v23 ev23
    have hv23 := congrArg Int32.toInt ev23
    intro v25 ev25
    have f26 := aAQ v23 252645135 (by omega)
    have hv25 := congrArg Int32.toInt ev25
    intro v27 ev27
    have hv27 := congrArg Int32.toInt ev27
    intro v29 ev29
    have hv29 := congrArg Int32.toInt ev29
    have f32 := aAQ v29 63 (by omega)
    refine And.intro (fun c31 => ?_) (fun c31 => ?_)
    · skip
      have c31 := (aAd _ _).mp c31
      intro v33 ev33
      intro v34 ev34
      have f36 := aAQ v33 1431655765 (by omega)
      have f35 : Int32.toInt (x10 - (v33 &&& 1431655765)) = Int32.toInt x10 - Int32.toInt (v33 &&& 1431655765) := aCA _ _ (by omega)
      rw [<- ev34] at f35
      intro v37 ev37
      have f38 := aAQ v34 858993459 (by omega)
      have hv37 := congrArg Int32.toInt ev37
      intro v39 ev39
      intro v40 ev40
      have f42 := aAQ v39 858993459 (by omega)
      have f41 : Int32.toInt (v37 + (v39 &&& 858993459)) = Int32.toInt v37 + Int32.toInt (v39 &&& 858993459) := aAD _ _ (by omega)
      rw [<- ev40] at f41
      intro v43 ev43
      have hv43 := congrArg Int32.toInt ev43
      intro v45 ev45
      have f46 := aAQ v43 252645135 (by omega)
      have hv45 := congrArg Int32.toInt ev45
      intro v47 ev47
      have hv47 := congrArg Int32.toInt ev47
      intro v49 ev49
      have hv49 := congrArg Int32.toInt ev49
      have f51 := aAQ v49 63 (by omega)
      have f52 := aAT jY
      exact ts_X10_autumn_175 bT qG pW qR xJ xU xV yR zM hc0 hpost hK55 x2 x3 v8 v11 (v49 &&& 63) x8 x8 bL bY jY sW aBN aCH (by omega) (by omega) (by omega) (by omega) h_x8 yJ yG hn55
    · skip
      have c31 := mt (aAd _ _).mpr c31
      have f53 := aAT jY
      exact ts_X10_autumn_175 bT qG pW qR xJ xU xV yR zM hc0 hpost hK55 x2 x3 v8 v11 x6 x7 x8 bL bY jY sW aBN aCH (by omega) (by omega) h_x6 h_x7 h_x8 yJ yG hn55
  · skip
    have c7 := mt (aAO _ _).mpr c7
    intro v54 ev54
    have f55 := aRJ x9 x11 (by omega)
    have hv54 := congrArg Int32.toInt ev54
    intro v56 ev56
    have f57 := aAQ v54 1 (by omega)
    have f58 := aBx v54 1 (by omega)
    have hv56 := congrArg Int32.toInt ev56
    refine And.intro (fun c59 => ?_) (fun c59 => ?_)
    · skip
      have c59 := mt (zJ _ _).mpr c59
      refine And.intro (fun _ => ?_) (fun h9 => absurd h9 (by decide))
      have f60 := aAT jY
      exact ts_X10_autumn_129 bT qG pW qR xJ xU xV yR zM hc0 hpost hK55 hKn x2 x3 x4 x5 x6 x7 x8 x9 x10 x11 bL bY jY sW aBN aCH aDO aF7 h_x6 h_x7 h_x8 h_x9 h_x10 (by omega) yJ yG hn55 hn91
    · skip
      have c59 := (zJ _ _).mp c59
      refine And.intro (fun h9 => absurd h9 (by decide)) (fun _ => ?_)
      intro v61 ev61
      have hv61 := congrArg Int32.toInt ev61
      intro v63 ev63
      have hv63 := congrArg Int32.toInt ev63
      intro v65 ev65
      refine And.intro (mt (zJ _ _).mp (by omega)) ?_
      refine And.intro (fun c66 => ?_) (fun c66 => ?_)
      · skip
        have c66 := (aAO _ _).mp c66
        have f68 := aAT v63
        exact ts_X10_autumn_129 bT qG pW qR xJ xU xV yR zM hc0 hpost hK55 hKn x2 x3 x4 x5 x6 x7 x8 x9 x10 x11 bL bY v63 sW aBN aCH aDO aF7 h_x6 h_x7 h_x8 h_x9 h_x10 (by omega) yJ yG hn55 hn91
      · skip
        have c66 := mt (aAO _ _).mpr c66
        intro v69 ev69
        have f71 := aDv 15 32768 x11 (by decide) (by omega)
        have f70 := ti_or 16 65536 x10 (1 <<< (x11 &&& 31)) (by decide) (by omega) (by omega)
        have hv69 := congrArg Int32.toInt ev69
        have f72 := aAT v63
        exact ts_X10_autumn_129 bT qG pW qR xJ xU xV yR zM hc0 hpost hK55 hKn x2 x3 x4 x5 x6 x7 x8 x9 v69 x11 bL bY v63 sW aBN aCH aDO aF7 h_x6 h_x7 h_x8 h_x9 (by omega) (by omega) yJ yG hn55 hn91
set_option maxHeartbeats 8000000 in
set_option maxRecDepth 200000 in
theorem tb_X10_autumn_91 {post : Int32 -> Int32 -> Int32 -> Int32 -> (Nat -> Int32) -> Prop} {SB : Int} {K55 : Int32 -> Int32 -> Int32 -> Int32 -> Int32 -> Int32 -> Int32 -> Int32 -> Int32 -> Int32 -> (Nat -> Int32) -> Prop} {n55 : Int} (bT : Int32) (qG pW qR : Nat -> Int32) (xJ : 0 <= Int32.toInt bT /\ Int32.toInt bT <= 16) (xU : ∀ k : Nat, k = 17 -> -1 <= Int32.toInt (qG k) /\ Int32.toInt (qG k) <= SB) (xV : ∀ k : Nat, k = 19 -> 0 <= Int32.toInt (qG k) /\ Int32.toInt (qG k) <= 9) (yR : ∀ k : Nat, 0 <= Int32.toInt (pW k) /\ Int32.toInt (pW k) <= 9) (zM : ∀ k : Nat, 0 <= Int32.toInt (qR k) /\ Int32.toInt (qR k) <= 9) (hc0 : -1 <= SB /\ SB <= 7) (hpost : ∀ (r : Int32) (xM : Int32) (xG : Int32) (m_drawn' : Int32) (aBX : Nat -> Int32), (-1 <= Int32.toInt r /\ Int32.toInt r <= 63) -> (0 <= Int32.toInt xM /\ Int32.toInt xM <= 16) -> (0 <= Int32.toInt xG /\ Int32.toInt xG <= 0) -> post r xM xG m_drawn' aBX) (hK55 : ∀ (x2 : Int32) (x3 : Int32) (x4 : Int32) (x5 : Int32) (x6 : Int32) (x7 : Int32) (x8 : Int32) (bL : Int32) (bY : Int32) (jY : Int32) (sW : Nat -> Int32), (1 <= Int32.toInt x2 /\ Int32.toInt x2 <= 30) -> (0 <= Int32.toInt x3 /\ Int32.toInt x3 <= 10) -> (0 <= Int32.toInt x4 /\ Int32.toInt x4 <= 65535) -> (0 <= Int32.toInt x5 /\ Int32.toInt x5 <= 65535) -> (0 <= Int32.toInt x6 /\ Int32.toInt x6 <= 63) -> (-1 <= Int32.toInt x7 /\ Int32.toInt x7 <= 30) -> (1 <= Int32.toInt x8 /\ Int32.toInt x8 <= 31) -> (0 <= Int32.toInt bL /\ Int32.toInt bL <= 16) -> (0 <= Int32.toInt bY /\ Int32.toInt bY <= 0) -> (31 - Int32.toInt x8 < n55) -> K55 x2 x3 x4 x5 x6 x7 x8 bL bY jY sW) : ∀ (n : Nat) (x2 x3 x4 x5 x6 x7 x8 x9 x10 x11 bL bY jY : Int32) (sW : Nat -> Int32), (1 <= Int32.toInt x2 /\ Int32.toInt x2 <= 30) -> (0 <= Int32.toInt x3 /\ Int32.toInt x3 <= 10) -> (0 <= Int32.toInt x4 /\ Int32.toInt x4 <= 65535) -> (0 <= Int32.toInt x5 /\ Int32.toInt x5 <= 65535) -> (0 <= Int32.toInt x6 /\ Int32.toInt x6 <= 63) -> (-1 <= Int32.toInt x7 /\ Int32.toInt x7 <= 30) -> (1 <= Int32.toInt x8 /\ Int32.toInt x8 <= 30) -> (0 <= Int32.toInt x9 /\ Int32.toInt x9 <= 65535) -> (0 <= Int32.toInt x10 /\ Int32.toInt x10 <= 65535) -> (0 <= Int32.toInt x11 /\ Int32.toInt x11 <= 16) -> (0 <= Int32.toInt bL /\ Int32.toInt bL <= 16) -> (0 <= Int32.toInt bY /\ Int32.toInt bY <= 0) -> (31 - Int32.toInt x8 <= n55) -> (16 - Int32.toInt x11 < (n : Int)) -> wb_X10_autumn_91 post K55 bT qG pW qR n x2 x3 x4 x5 x6 x7 x8 x9 x10 x11 bL bY jY sW := by
  intro n
  induction n with
  | zero =>
    intro x2 x3 x4 x5 x6 x7 x8 x9 x10 x11 bL bY jY sW aBN aCH aDO aF7 h_x6 h_x7 h_x8 h_x9 h_x10 h_x11 yJ yG hn55 hm
    exfalso; omega
  | succ n ih =>
    intro x2 x3 x4 x5 x6 x7 x8 x9 x10 x11 bL bY jY sW aBN aCH aDO aF7 h_x6 h_x7 h_x8 h_x9 h_x10 h_x11 yJ yG hn55 hm
    exact ts_X10_autumn_91 bT qG pW qR xJ xU xV yR zM hc0 hpost hK55 ih x2 x3 x4 x5 x6 x7 x8 x9 x10 x11 bL bY jY sW aBN aCH aDO aF7 h_x6 h_x7 h_x8 h_x9 h_x10 h_x11 yJ yG hn55 (by omega)
set_option maxHeartbeats 8000000 in
set_option maxRecDepth 200000 in
theorem ts_X10_autumn_55 {post : Int32 -> Int32 -> Int32 -> Int32 -> (Nat -> Int32) -> Prop} {SB : Int} {next : Int32 -> Int32 -> Int32 -> Int32 -> Int32 -> Int32 -> Int32 -> Int32 -> Int32 -> Int32 -> (Nat -> Int32) -> Prop} {n55 : Int} (bT : Int32) (qG pW qR : Nat -> Int32) (xJ : 0 <= Int32.toInt bT /\ Int32.toInt bT <= 16) (xU : ∀ k : Nat, k = 17 -> -1 <= Int32.toInt (qG k) /\ Int32.toInt (qG k) <= SB) (xV : ∀ k : Nat, k = 19 -> 0 <= Int32.toInt (qG k) /\ Int32.toInt (qG k) <= 9) (yR : ∀ k : Nat, 0 <= Int32.toInt (pW k) /\ Int32.toInt (pW k) <= 9) (zM : ∀ k : Nat, 0 <= Int32.toInt (qR k) /\ Int32.toInt (qR k) <= 9) (hc0 : -1 <= SB /\ SB <= 7) (hpost : ∀ (r : Int32) (xM : Int32) (xG : Int32) (m_drawn' : Int32) (aBX : Nat -> Int32), (-1 <= Int32.toInt r /\ Int32.toInt r <= 63) -> (0 <= Int32.toInt xM /\ Int32.toInt xM <= 16) -> (0 <= Int32.toInt xG /\ Int32.toInt xG <= 0) -> post r xM xG m_drawn' aBX) (hKn : ∀ (x2 : Int32) (x3 : Int32) (x4 : Int32) (x5 : Int32) (x6 : Int32) (x7 : Int32) (x8 : Int32) (bL : Int32) (bY : Int32) (jY : Int32) (sW : Nat -> Int32), (1 <= Int32.toInt x2 /\ Int32.toInt x2 <= 30) -> (0 <= Int32.toInt x3 /\ Int32.toInt x3 <= 10) -> (0 <= Int32.toInt x4 /\ Int32.toInt x4 <= 65535) -> (0 <= Int32.toInt x5 /\ Int32.toInt x5 <= 65535) -> (0 <= Int32.toInt x6 /\ Int32.toInt x6 <= 63) -> (-1 <= Int32.toInt x7 /\ Int32.toInt x7 <= 30) -> (1 <= Int32.toInt x8 /\ Int32.toInt x8 <= 31) -> (0 <= Int32.toInt bL /\ Int32.toInt bL <= 16) -> (0 <= Int32.toInt bY /\ Int32.toInt bY <= 0) -> (31 - Int32.toInt x8 < n55) -> next x2 x3 x4 x5 x6 x7 x8 bL bY jY sW) (x2 x3 x4 x5 x6 x7 x8 bL bY jY : Int32) (sW : Nat -> Int32) (aBN : 1 <= Int32.toInt x2 /\ Int32.toInt x2 <= 30) (aCH : 0 <= Int32.toInt x3 /\ Int32.toInt x3 <= 10) (aDO : 0 <= Int32.toInt x4 /\ Int32.toInt x4 <= 65535) (aF7 : 0 <= Int32.toInt x5 /\ Int32.toInt x5 <= 65535) (h_x6 : 0 <= Int32.toInt x6 /\ Int32.toInt x6 <= 63) (h_x7 : -1 <= Int32.toInt x7 /\ Int32.toInt x7 <= 30) (h_x8 : 1 <= Int32.toInt x8 /\ Int32.toInt x8 <= 31) (yJ : 0 <= Int32.toInt bL /\ Int32.toInt bL <= 16) (yG : 0 <= Int32.toInt bY /\ Int32.toInt bY <= 0) (hn55 : 31 - Int32.toInt x8 <= n55) : ws_X10_autumn_55 post next bT qG pW qR x2 x3 x4 x5 x6 x7 x8 bL bY jY sW := by
  have l0 := aE0
  have l1 := aEc
  have l2 := aKH
  have l3 := li_16
  have l4 := li_19
  have l5 := aJ8
  have l6 := li_63
  have l7 := aJ9
  have l8 := li_9
  refine And.intro (fun c73 => ?_) (fun c73 => ?_)
  · skip
    have c73 := (aAd _ _).mp c73
    refine And.intro (aBZ (by omega)) ?_
    intro v74 ev74
    have f75 : Int32.toInt (0 + 1) = Int32.toInt (0 : Int32) + Int32.toInt (1 : Int32) := aAD _ _ (by omega)
    rw [<- ev74] at f75
    intro v76 ev76
    have hv76 := congrArg Int32.toInt ev76
    refine aNU aF7 xJ yR (fun r78 => ?_)
    refine And.intro (aBZ (by omega)) ?_
    intro v79 ev79
    have f80 : Int32.toInt (v74 + 1) = Int32.toInt v74 + Int32.toInt (1 : Int32) := aAD _ _ (by omega)
    rw [<- ev79] at f80
    refine And.intro (aBZ (by omega)) ?_
    intro v81 ev81
    have f82 : Int32.toInt (v79 + 1) = Int32.toInt v79 + Int32.toInt (1 : Int32) := aAD _ _ (by omega)
    rw [<- ev81] at f82
    intro v83 ev83
    intro v84 ev84
    have f86 := aAQ v83 1431655765 (by omega)
    have f85 : Int32.toInt (x5 - (v83 &&& 1431655765)) = Int32.toInt x5 - Int32.toInt (v83 &&& 1431655765) := aCA _ _ (by omega)
    rw [<- ev84] at f85
    intro v87 ev87
    have f88 := aAQ v84 858993459 (by omega)
    have hv87 := congrArg Int32.toInt ev87
    intro v89 ev89
    intro v90 ev90
    have f92 := aAQ v89 858993459 (by omega)
    have f91 : Int32.toInt (v87 + (v89 &&& 858993459)) = Int32.toInt v87 + Int32.toInt (v89 &&& 858993459) := aAD _ _ (by omega)
    rw [<- ev90] at f91
    intro v93 ev93
    have hv93 := congrArg Int32.toInt ev93
    intro v95 ev95
    have f96 := aAQ v93 252645135 (by omega)
    have hv95 := congrArg Int32.toInt ev95
    intro v97 ev97
    have hv97 := congrArg Int32.toInt ev97
    intro v99 ev99
    have hv99 := congrArg Int32.toInt ev99
    have f101 := aAQ v99 63 (by omega)
    exact hpost _ _ _ _ _ (by omega) (by omega) yG
  · skip
    have c73 := mt (aAd _ _).mpr c73
    have q102 := xV (19 : Int32).toNatClampNeg (by have e9 : (19 : Int32).toNatClampNeg = (Int32.toInt (19 : Int32)).toNat := rfl; omega)
    intro v103 ev103
    have hv103 := congrArg Int32.toInt ev103
    intro v105 ev105
    have f106 : Int32.toInt (v103 + x8) = Int32.toInt v103 + Int32.toInt x8 := aAD _ _ (by omega)
    rw [<- ev105] at f106
    intro v107 ev107
    have f108 := ti_min (9 : Int32) v105
    have hv107 := congrArg Int32.toInt ev107
    refine aXh (by omega) xJ zM (fun r109 h_r109 ox110 => ?_)
    intro v111 ev111
    have f112 := aAQ x4 r109 (by omega)
    have f113 := aBx x4 r109 (by omega)
    have hv111 := congrArg Int32.toInt ev111
    have f114 := aAT jY
    exact ⟨18, tb_X10_autumn_91 bT qG pW qR xJ xU xV yR zM hc0 hpost hKn _ x2 x3 x4 x5 x6 x7 x8 v111 0 0 bL bY jY sW aBN aCH aDO aF7 h_x6 h_x7 (by omega) (by omega) (by omega) (by omega) yJ yG hn55 (by omega)⟩
set_option maxHeartbeats 8000000 in
set_option maxRecDepth 200000 in
theorem tb_X10_autumn_55 {post : Int32 -> Int32 -> Int32 -> Int32 -> (Nat -> Int32) -> Prop} {SB : Int} (bT : Int32) (qG pW qR : Nat -> Int32) (xJ : 0 <= Int32.toInt bT /\ Int32.toInt bT <= 16) (xU : ∀ k : Nat, k = 17 -> -1 <= Int32.toInt (qG k) /\ Int32.toInt (qG k) <= SB) (xV : ∀ k : Nat, k = 19 -> 0 <= Int32.toInt (qG k) /\ Int32.toInt (qG k) <= 9) (yR : ∀ k : Nat, 0 <= Int32.toInt (pW k) /\ Int32.toInt (pW k) <= 9) (zM : ∀ k : Nat, 0 <= Int32.toInt (qR k) /\ Int32.toInt (qR k) <= 9) (hc0 : -1 <= SB /\ SB <= 7) (hpost : ∀ (r : Int32) (xM : Int32) (xG : Int32) (m_drawn' : Int32) (aBX : Nat -> Int32), (-1 <= Int32.toInt r /\ Int32.toInt r <= 63) -> (0 <= Int32.toInt xM /\ Int32.toInt xM <= 16) -> (0 <= Int32.toInt xG /\ Int32.toInt xG <= 0) -> post r xM xG m_drawn' aBX) : ∀ (n : Nat) (x2 x3 x4 x5 x6 x7 x8 bL bY jY : Int32) (sW : Nat -> Int32), (1 <= Int32.toInt x2 /\ Int32.toInt x2 <= 30) -> (0 <= Int32.toInt x3 /\ Int32.toInt x3 <= 10) -> (0 <= Int32.toInt x4 /\ Int32.toInt x4 <= 65535) -> (0 <= Int32.toInt x5 /\ Int32.toInt x5 <= 65535) -> (0 <= Int32.toInt x6 /\ Int32.toInt x6 <= 63) -> (-1 <= Int32.toInt x7 /\ Int32.toInt x7 <= 30) -> (1 <= Int32.toInt x8 /\ Int32.toInt x8 <= 31) -> (0 <= Int32.toInt bL /\ Int32.toInt bL <= 16) -> (0 <= Int32.toInt bY /\ Int32.toInt bY <= 0) -> (31 - Int32.toInt x8 < (n : Int)) -> wb_X10_autumn_55 post bT qG pW qR n x2 x3 x4 x5 x6 x7 x8 bL bY jY sW := by
  intro n
  induction n with
  | zero =>
    intro x2 x3 x4 x5 x6 x7 x8 bL bY jY sW aBN aCH aDO aF7 h_x6 h_x7 h_x8 yJ yG hm
    exfalso; omega
  | succ n ih =>
    intro x2 x3 x4 x5 x6 x7 x8 bL bY jY sW aBN aCH aDO aF7 h_x6 h_x7 h_x8 yJ yG hm
    exact ts_X10_autumn_55 bT qG pW qR xJ xU xV yR zM hc0 hpost ih x2 x3 x4 x5 x6 x7 x8 bL bY jY sW aBN aCH aDO aF7 h_x6 h_x7 h_x8 yJ yG (by omega)
set_option maxHeartbeats 8000000 in
set_option maxRecDepth 200000 in
theorem t_X10_autumn {post : Int32 -> Int32 -> Int32 -> Int32 -> (Nat -> Int32) -> Prop} {SB : Int} {p0 p1 p2 bT bL bY jY : Int32} {qG pW qR sW : Nat -> Int32} (xJ : 0 <= Int32.toInt bT /\ Int32.toInt bT <= 16) (yJ : 0 <= Int32.toInt bL /\ Int32.toInt bL <= 16) (yG : 0 <= Int32.toInt bY /\ Int32.toInt bY <= 1) (xU : ∀ k : Nat, k = 17 -> -1 <= Int32.toInt (qG k) /\ Int32.toInt (qG k) <= SB) (xV : ∀ k : Nat, k = 19 -> 0 <= Int32.toInt (qG k) /\ Int32.toInt (qG k) <= 9) (yR : ∀ k : Nat, 0 <= Int32.toInt (pW k) /\ Int32.toInt (pW k) <= 9) (zM : ∀ k : Nat, 0 <= Int32.toInt (qR k) /\ Int32.toInt (qR k) <= 9) (hc0 : -1 <= SB /\ SB <= 7) (hpost : ∀ (r : Int32) (xM : Int32) (xG : Int32) (m_drawn' : Int32) (aBX : Nat -> Int32), (-1 <= Int32.toInt r /\ Int32.toInt r <= 63) -> (0 <= Int32.toInt xM /\ Int32.toInt xM <= 16) -> (0 <= Int32.toInt xG /\ Int32.toInt xG <= 0) -> post r xM xG m_drawn' aBX) : wp_X10_autumn post p0 p1 p2 bT bL bY jY qG pW qR sW := by
  have l0 := aI2
  have l1 := aE0
  have l2 := aEc
  have l3 := li_10
  have l4 := li_30
  have f116 := aAT p1
  refine And.intro (fun c115 => ?_) (fun c115 => ?_)
  · skip
    have c115 := (aAd _ _).mp c115
    refine And.intro (fun _ => ?_) (fun h9 => absurd h9 (by decide))
    exact hpost _ _ _ _ _ (by omega) yJ (by omega)
  · skip
    have c115 := mt (aAd _ _).mpr c115
    refine And.intro (fun c117 => ?_) (fun c117 => ?_)
    · skip
      have c117 := (aAd _ _).mp c117
      refine And.intro (fun _ => ?_) (fun h9 => absurd h9 (by decide))
      exact hpost _ _ _ _ _ (by omega) yJ (by omega)
    · skip
      have c117 := mt (aAd _ _).mpr c117
      refine And.intro (fun h9 => absurd h9 (by decide)) (fun _ => ?_)
      have f119 := aAT p2
      refine And.intro (fun c118 => ?_) (fun c118 => ?_)
      · skip
        have c118 := (aAd _ _).mp c118
        refine And.intro (fun h9 => absurd h9 (by decide)) (fun _ => ?_)
        exact hpost _ _ _ _ _ (by omega) yJ (by omega)
      · skip
        have c118 := mt (aAd _ _).mpr c118
        refine And.intro (fun c120 => ?_) (fun c120 => ?_)
        · skip
          have c120 := (aAd _ _).mp c120
          refine And.intro (fun h9 => absurd h9 (by decide)) (fun _ => ?_)
          exact hpost _ _ _ _ _ (by omega) yJ (by omega)
        · skip
          have c120 := mt (aAd _ _).mpr c120
          refine And.intro (fun _ => ?_) (fun h9 => absurd h9 (by decide))
          refine aKO (by omega) xJ xU xV (by omega) (fun r121 h_r121 ox122 => ?_)
          have f123 := aAT p0
          exact ⟨32, tb_X10_autumn_55 bT qG pW qR xJ xU xV yR zM hc0 hpost _ p1 p2 r121 0 0 (-1) 1 bL 0 p0 sW (by omega) (by omega) h_r121 (by omega) (by omega) (by omega) (by omega) yJ (by omega) (by omega)⟩
set_option maxHeartbeats 8000000 in
set_option maxRecDepth 200000 in
theorem ts_X10_lay_b4_2 {post : (Nat -> Int32) -> Prop} {SB : Int} {next : Int32 -> Int32 -> (Nat -> Int32) -> Prop} {n2 : Int} (qG : Nat -> Int32) (xU : ∀ k : Nat, k = 17 -> -1 <= Int32.toInt (qG k) /\ Int32.toInt (qG k) <= SB) (xV : ∀ k : Nat, k = 19 -> 0 <= Int32.toInt (qG k) /\ Int32.toInt (qG k) <= 9) (hc0 : -1 <= SB /\ SB <= 7) (hpost : ∀ (m_kept' : Nat -> Int32), (∀ k : Nat, k % 21 = 17 -> -1 <= Int32.toInt (m_kept' k) /\ Int32.toInt (m_kept' k) <= SB) -> (∀ k : Nat, k % 21 = 19 -> 0 <= Int32.toInt (m_kept' k) /\ Int32.toInt (m_kept' k) <= 9) -> post m_kept') (hKn : ∀ (x2 : Int32) (x3 : Int32) (xD : Nat -> Int32), (0 <= Int32.toInt x2 /\ Int32.toInt x2 <= 21) -> (0 <= Int32.toInt x3 /\ Int32.toInt x3 <= 21) -> (∀ k : Nat, k % 21 = 17 -> -1 <= Int32.toInt (xD k) /\ Int32.toInt (xD k) <= SB) -> (∀ k : Nat, k % 21 = 19 -> 0 <= Int32.toInt (xD k) /\ Int32.toInt (xD k) <= 9) -> (Int32.toInt x2 % 21 = 0) -> (21 - Int32.toInt x3 < n2) -> next x2 x3 xD) (x2 x3 : Int32) (xD : Nat -> Int32) (aBN : 0 <= Int32.toInt x2 /\ Int32.toInt x2 <= 21) (aCH : 0 <= Int32.toInt x3 /\ Int32.toInt x3 <= 21) (aCE : ∀ k : Nat, k % 21 = 17 -> -1 <= Int32.toInt (xD k) /\ Int32.toInt (xD k) <= SB) (aCF : ∀ k : Nat, k % 21 = 19 -> 0 <= Int32.toInt (xD k) /\ Int32.toInt (xD k) <= 9) (hx0 : Int32.toInt x2 % 21 = 0) (hn2 : 21 - Int32.toInt x3 <= n2) : ws_X10_lay_b4_2 post next qG x2 x3 xD := by
  have l0 := aEc
  have l1 := li_21
  refine And.intro (fun c1 => ?_) (fun c1 => ?_)
  · skip
    have c1 := (aAO _ _).mp c1
    exact hpost _ aCE aCF
  · skip
    have c1 := mt (aAO _ _).mpr c1
    intro v2 ev2
    have f3 : Int32.toInt (x2 + x3) = Int32.toInt x2 + Int32.toInt x3 := aAD _ _ (by omega)
    rw [<- ev2] at f3
    refine And.intro (aBZ (by omega)) ?_
    have q4 := xU x3.toNatClampNeg
    have q5 := xV x3.toNatClampNeg
    have q6 : x3.toNatClampNeg = (Int32.toInt x3).toNat := rfl
    intro v7 ev7
    have hv7 := congrArg Int32.toInt ev7
    refine And.intro (aBZ (by omega)) ?_
    have f10 := aAT v7
    have e9 : ∀ k : Nat, k % 21 = 17 -> -1 <= Int32.toInt ((upd xD v2.toNatClampNeg v7) k) /\ Int32.toInt ((upd xD v2.toNatClampNeg v7) k) <= SB := aCJ (C := fun k => k % 21 = 17) aCE (fun hk => by have e9 : v2.toNatClampNeg = (Int32.toInt v2).toNat := rfl; have hk : v2.toNatClampNeg % 21 = 17 := hk; omega)
    have e11 : ∀ k : Nat, k % 21 = 19 -> 0 <= Int32.toInt ((upd xD v2.toNatClampNeg v7) k) /\ Int32.toInt ((upd xD v2.toNatClampNeg v7) k) <= 9 := aCJ (C := fun k => k % 21 = 19) aCF (fun hk => by have e9 : v2.toNatClampNeg = (Int32.toInt v2).toNat := rfl; have hk : v2.toNatClampNeg % 21 = 19 := hk; omega)
    intro v12 ev12
    have f13 : Int32.toInt (x3 + 1) = Int32.toInt x3 + Int32.toInt (1 : Int32) := aAD _ _ (by omega)
    rw [<- ev12] at f13
    exact hKn x2 v12 (upd xD v2.toNatClampNeg v7) aBN (by omega) e9 e11 hx0 (by omega)
set_option maxHeartbeats 8000000 in
set_option maxRecDepth 200000 in
theorem tb_X10_lay_b4_2 {post : (Nat -> Int32) -> Prop} {SB : Int} (qG : Nat -> Int32) (xU : ∀ k : Nat, k = 17 -> -1 <= Int32.toInt (qG k) /\ Int32.toInt (qG k) <= SB) (xV : ∀ k : Nat, k = 19 -> 0 <= Int32.toInt (qG k) /\ Int32.toInt (qG k) <= 9) (hc0 : -1 <= SB /\ SB <= 7) (hpost : ∀ (m_kept' : Nat -> Int32), (∀ k : Nat, k % 21 = 17 -> -1 <= Int32.toInt (m_kept' k) /\ Int32.toInt (m_kept' k) <= SB) -> (∀ k : Nat, k % 21 = 19 -> 0 <= Int32.toInt (m_kept' k) /\ Int32.toInt (m_kept' k) <= 9) -> post m_kept') : ∀ (n : Nat) (x2 x3 : Int32) (xD : Nat -> Int32), (0 <= Int32.toInt x2 /\ Int32.toInt x2 <= 21) -> (0 <= Int32.toInt x3 /\ Int32.toInt x3 <= 21) -> (∀ k : Nat, k % 21 = 17 -> -1 <= Int32.toInt (xD k) /\ Int32.toInt (xD k) <= SB) -> (∀ k : Nat, k % 21 = 19 -> 0 <= Int32.toInt (xD k) /\ Int32.toInt (xD k) <= 9) -> (Int32.toInt x2 % 21 = 0) -> (21 - Int32.toInt x3 < (n : Int)) -> wb_X10_lay_b4_2 post qG n x2 x3 xD := by
  intro n
  induction n with
  | zero =>
    intro x2 x3 xD aBN aCH aCE aCF hx0 hm
    exfalso; omega
  | succ n ih =>
    intro x2 x3 xD aBN aCH aCE aCF hx0 hm
    exact ts_X10_lay_b4_2 qG xU xV hc0 hpost ih x2 x3 xD aBN aCH aCE aCF hx0 (by omega)
set_option maxHeartbeats 8000000 in
set_option maxRecDepth 200000 in
theorem t_X10_lay_b4 {post : (Nat -> Int32) -> Prop} {SB : Int} {p2 : Int32} {qG xD : Nat -> Int32} (h_p2 : 0 <= Int32.toInt p2 /\ Int32.toInt p2 <= 21) (xU : ∀ k : Nat, k = 17 -> -1 <= Int32.toInt (qG k) /\ Int32.toInt (qG k) <= SB) (xV : ∀ k : Nat, k = 19 -> 0 <= Int32.toInt (qG k) /\ Int32.toInt (qG k) <= 9) (aCE : ∀ k : Nat, k % 21 = 17 -> -1 <= Int32.toInt (xD k) /\ Int32.toInt (xD k) <= SB) (aCF : ∀ k : Nat, k % 21 = 19 -> 0 <= Int32.toInt (xD k) /\ Int32.toInt (xD k) <= 9) (hc0 : -1 <= SB /\ SB <= 7) (hx0 : Int32.toInt p2 % 21 = 0) (hpost : ∀ (m_kept' : Nat -> Int32), (∀ k : Nat, k % 21 = 17 -> -1 <= Int32.toInt (m_kept' k) /\ Int32.toInt (m_kept' k) <= SB) -> (∀ k : Nat, k % 21 = 19 -> 0 <= Int32.toInt (m_kept' k) /\ Int32.toInt (m_kept' k) <= 9) -> post m_kept') : wp_X10_lay_b4 post p2 qG xD := by
  have l0 := aE0
  exact ⟨23, tb_X10_lay_b4_2 qG xU xV hc0 hpost _ p2 0 xD h_p2 (by omega) aCE aCF (by omega) (by omega)⟩
set_option maxHeartbeats 8000000 in
set_option maxRecDepth 200000 in
theorem t_X10_keep {post : Int32 -> Int32 -> (Nat -> Int32) -> (Nat -> Int32) -> (Nat -> Int32) -> Prop} {SB : Int} {p0 bY oX : Int32} {qG xD vJ uI : Nat -> Int32} (yG : 0 <= Int32.toInt bY /\ Int32.toInt bY <= 1) (xU : ∀ k : Nat, k = 17 -> -1 <= Int32.toInt (qG k) /\ Int32.toInt (qG k) <= SB) (xV : ∀ k : Nat, k = 19 -> 0 <= Int32.toInt (qG k) /\ Int32.toInt (qG k) <= 9) (aCE : ∀ k : Nat, k % 21 = 17 -> -1 <= Int32.toInt (xD k) /\ Int32.toInt (xD k) <= SB) (aCF : ∀ k : Nat, k % 21 = 19 -> 0 <= Int32.toInt (xD k) /\ Int32.toInt (xD k) <= 9) (aB5 : ∀ k : Nat, 0 <= Int32.toInt (vJ k) /\ Int32.toInt (vJ k) <= 1) (hc0 : -1 <= SB /\ SB <= 7) (hpost : ∀ (r : Int32) (xG : Int32) (m_kept' : Nat -> Int32) (m_isKept' : Nat -> Int32) (m_keptCame' : Nat -> Int32), (0 <= Int32.toInt r /\ Int32.toInt r <= 1) -> (0 <= Int32.toInt xG /\ Int32.toInt xG <= 0) -> (∀ k : Nat, k % 21 = 17 -> -1 <= Int32.toInt (m_kept' k) /\ Int32.toInt (m_kept' k) <= SB) -> (∀ k : Nat, k % 21 = 19 -> 0 <= Int32.toInt (m_kept' k) /\ Int32.toInt (m_kept' k) <= 9) -> (∀ k : Nat, 0 <= Int32.toInt (m_isKept' k) /\ Int32.toInt (m_isKept' k) <= 1) -> ((0 <= Int32.toInt p0 /\ Int32.toInt p0 <= 1 /\ Int32.toInt r = 1) \/ ((Int32.toInt p0 < 0 \/ 1 < Int32.toInt p0) /\ Int32.toInt r = 0)) -> post r xG m_kept' m_isKept' m_keptCame') : wp_X10_keep post p0 bY oX qG xD vJ uI := by
  have l0 := aE0
  have l1 := aEc
  have l2 := li_21
  have f2 := aAT p0
  refine And.intro (fun c1 => ?_) (fun c1 => ?_)
  · skip
    have c1 := (aAd _ _).mp c1
    refine And.intro (fun h9 => absurd h9 (by decide)) (fun _ => ?_)
    exact hpost _ _ _ _ _ (by omega) (by omega) aCE aCF aB5 (by omega)
  · skip
    have c1 := mt (aAd _ _).mpr c1
    refine And.intro (fun c3 => ?_) (fun c3 => ?_)
    · skip
      have c3 := (aAd _ _).mp c3
      refine And.intro (fun h9 => absurd h9 (by decide)) (fun _ => ?_)
      exact hpost _ _ _ _ _ (by omega) (by omega) aCE aCF aB5 (by omega)
    · skip
      have c3 := mt (aAd _ _).mpr c3
      refine And.intro (fun _ => ?_) (fun h9 => absurd h9 (by decide))
      refine And.intro (aBZ (by omega)) ?_
      have qa4 := ti_nar_boolean 1
      have a4 : ∀ k : Nat, 0 <= Int32.toInt ((upd vJ p0.toNatClampNeg (vp_nar .boolean 1)) k) /\ Int32.toInt ((upd vJ p0.toNatClampNeg (vp_nar .boolean 1)) k) <= 1 := t_upd (fun k => by have q9 := aB5 k; omega) (by omega)
      refine And.intro (aBZ (by omega)) ?_
      intro v5 ev5
      have f6 : Int32.toInt (21 * p0) = Int32.toInt p0 * 21 := ta_cmul _ _ (by decide) (by omega)
      rw [<- ev5] at f6
      refine t_X10_lay_b4 (by omega) xU xV aCE aCF (by omega) (by omega) (fun m_kept_7 e0_m_kept_7 e1_m_kept_7 => ?_)
      exact hpost _ _ _ _ _ (by omega) (by omega) e0_m_kept_7 e1_m_kept_7 (fun k => by have q9 := a4 k; omega) (by omega)
set_option maxHeartbeats 8000000 in
set_option maxRecDepth 200000 in
theorem ts_X10_again_40 {post : Int32 -> Int32 -> Int32 -> (Nat -> Int32) -> Prop} {SB : Int} {next : Int32 -> Int32 -> Int32 -> Int32 -> (Nat -> Int32) -> Prop} {n40 : Int} (oX : Int32) (xD vJ uI : Nat -> Int32) (aCE : ∀ k : Nat, k % 21 = 17 -> -1 <= Int32.toInt (xD k) /\ Int32.toInt (xD k) <= SB) (aCF : ∀ k : Nat, k % 21 = 19 -> 0 <= Int32.toInt (xD k) /\ Int32.toInt (xD k) <= 9) (aB5 : ∀ k : Nat, 0 <= Int32.toInt (vJ k) /\ Int32.toInt (vJ k) <= 1) (hc0 : -1 <= SB /\ SB <= 7) (hpost : ∀ (r : Int32) (xG : Int32) (aBI : Int32) (aBf : Nat -> Int32), (0 <= Int32.toInt r /\ Int32.toInt r <= 1) -> (0 <= Int32.toInt xG /\ Int32.toInt xG <= 0) -> (0 <= Int32.toInt aBI /\ Int32.toInt aBI <= 12) -> (∀ k : Nat, k = 17 -> -1 <= Int32.toInt (aBf k) /\ Int32.toInt (aBf k) <= SB) -> (∀ k : Nat, k = 19 -> 0 <= Int32.toInt (aBf k) /\ Int32.toInt (aBf k) <= 9) -> post r xG aBI aBf) (hKn : ∀ (x1 : Int32) (x2 : Int32) (bY : Int32) (bU : Int32) (qG : Nat -> Int32), (0 <= Int32.toInt x1 /\ Int32.toInt x1 <= 1) -> (0 <= Int32.toInt x2 /\ Int32.toInt x2 <= 21) -> (0 <= Int32.toInt bY /\ Int32.toInt bY <= 0) -> (0 <= Int32.toInt bU /\ Int32.toInt bU <= 12) -> (∀ k : Nat, k = 17 -> -1 <= Int32.toInt (qG k) /\ Int32.toInt (qG k) <= SB) -> (∀ k : Nat, k = 19 -> 0 <= Int32.toInt (qG k) /\ Int32.toInt (qG k) <= 9) -> (21 - Int32.toInt x2 < n40) -> next x1 x2 bY bU qG) (x1 x2 bY bU : Int32) (qG : Nat -> Int32) (aBK : 0 <= Int32.toInt x1 /\ Int32.toInt x1 <= 1) (aBN : 0 <= Int32.toInt x2 /\ Int32.toInt x2 <= 21) (yG : 0 <= Int32.toInt bY /\ Int32.toInt bY <= 0) (aAZ : 0 <= Int32.toInt bU /\ Int32.toInt bU <= 12) (xU : ∀ k : Nat, k = 17 -> -1 <= Int32.toInt (qG k) /\ Int32.toInt (qG k) <= SB) (xV : ∀ k : Nat, k = 19 -> 0 <= Int32.toInt (qG k) /\ Int32.toInt (qG k) <= 9) (hn40 : 21 - Int32.toInt x2 <= n40) : ws_X10_again_40 post next oX xD vJ uI x1 x2 bY bU qG := by
  have l0 := aE0
  have l1 := aEc
  have l2 := li_21
  refine And.intro (fun c1 => ?_) (fun c1 => ?_)
  · skip
    have c1 := (aAO _ _).mp c1
    exact hpost _ _ _ _ (by omega) yG (by omega) xU xV
  · skip
    have c1 := mt (aAO _ _).mpr c1
    intro v2 ev2
    have f3 : Int32.toInt (21 * x1) = Int32.toInt x1 * 21 := ta_cmul _ _ (by decide) (by omega)
    rw [<- ev2] at f3
    intro v4 ev4
    have f5 : Int32.toInt (v2 + x2) = Int32.toInt v2 + Int32.toInt x2 := aAD _ _ (by omega)
    rw [<- ev4] at f5
    refine And.intro (aBZ (by omega)) ?_
    have q6 := aCE v4.toNatClampNeg
    have q7 := aCF v4.toNatClampNeg
    have q8 : v4.toNatClampNeg = (Int32.toInt v4).toNat := rfl
    intro v9 ev9
    have hv9 := congrArg Int32.toInt ev9
    refine And.intro (aBZ (by omega)) ?_
    have f12 := aAT v9
    have e11 : ∀ k : Nat, k = 17 -> -1 <= Int32.toInt ((upd qG x2.toNatClampNeg v9) k) /\ Int32.toInt ((upd qG x2.toNatClampNeg v9) k) <= SB := aCJ (C := fun k => k = 17) xU (fun hk => by have e9 : x2.toNatClampNeg = (Int32.toInt x2).toNat := rfl; have hk : x2.toNatClampNeg = 17 := hk; omega)
    have e13 : ∀ k : Nat, k = 19 -> 0 <= Int32.toInt ((upd qG x2.toNatClampNeg v9) k) /\ Int32.toInt ((upd qG x2.toNatClampNeg v9) k) <= 9 := aCJ (C := fun k => k = 19) xV (fun hk => by have e9 : x2.toNatClampNeg = (Int32.toInt x2).toNat := rfl; have hk : x2.toNatClampNeg = 19 := hk; omega)
    intro v14 ev14
    have f15 : Int32.toInt (x2 + 1) = Int32.toInt x2 + Int32.toInt (1 : Int32) := aAD _ _ (by omega)
    rw [<- ev14] at f15
    exact hKn x1 v14 bY bU (upd qG x2.toNatClampNeg v9) aBK (by omega) yG aAZ e11 e13 (by omega)
set_option maxHeartbeats 8000000 in
set_option maxRecDepth 200000 in
theorem tb_X10_again_40 {post : Int32 -> Int32 -> Int32 -> (Nat -> Int32) -> Prop} {SB : Int} (oX : Int32) (xD vJ uI : Nat -> Int32) (aCE : ∀ k : Nat, k % 21 = 17 -> -1 <= Int32.toInt (xD k) /\ Int32.toInt (xD k) <= SB) (aCF : ∀ k : Nat, k % 21 = 19 -> 0 <= Int32.toInt (xD k) /\ Int32.toInt (xD k) <= 9) (aB5 : ∀ k : Nat, 0 <= Int32.toInt (vJ k) /\ Int32.toInt (vJ k) <= 1) (hc0 : -1 <= SB /\ SB <= 7) (hpost : ∀ (r : Int32) (xG : Int32) (aBI : Int32) (aBf : Nat -> Int32), (0 <= Int32.toInt r /\ Int32.toInt r <= 1) -> (0 <= Int32.toInt xG /\ Int32.toInt xG <= 0) -> (0 <= Int32.toInt aBI /\ Int32.toInt aBI <= 12) -> (∀ k : Nat, k = 17 -> -1 <= Int32.toInt (aBf k) /\ Int32.toInt (aBf k) <= SB) -> (∀ k : Nat, k = 19 -> 0 <= Int32.toInt (aBf k) /\ Int32.toInt (aBf k) <= 9) -> post r xG aBI aBf) : ∀ (n : Nat) (x1 x2 bY bU : Int32) (qG : Nat -> Int32), (0 <= Int32.toInt x1 /\ Int32.toInt x1 <= 1) -> (0 <= Int32.toInt x2 /\ Int32.toInt x2 <= 21) -> (0 <= Int32.toInt bY /\ Int32.toInt bY <= 0) -> (0 <= Int32.toInt bU /\ Int32.toInt bU <= 12) -> (∀ k : Nat, k = 17 -> -1 <= Int32.toInt (qG k) /\ Int32.toInt (qG k) <= SB) -> (∀ k : Nat, k = 19 -> 0 <= Int32.toInt (qG k) /\ Int32.toInt (qG k) <= 9) -> (21 - Int32.toInt x2 < (n : Int)) -> wb_X10_again_40 post oX xD vJ uI n x1 x2 bY bU qG := by
  intro n
  induction n with
  | zero =>
    intro x1 x2 bY bU qG aBK aBN yG aAZ xU xV hm
    exfalso; omega
  | succ n ih =>
    intro x1 x2 bY bU qG aBK aBN yG aAZ xU xV hm
    exact ts_X10_again_40 oX xD vJ uI aCE aCF aB5 hc0 hpost ih x1 x2 bY bU qG aBK aBN yG aAZ xU xV (by omega)
set_option maxHeartbeats 8000000 in
set_option maxRecDepth 200000 in
theorem t_X10_again {post : Int32 -> Int32 -> Int32 -> (Nat -> Int32) -> Prop} {SB : Int} {p0 bY bU oX : Int32} {qG xD vJ uI : Nat -> Int32} (yG : 0 <= Int32.toInt bY /\ Int32.toInt bY <= 1) (aAZ : 0 <= Int32.toInt bU /\ Int32.toInt bU <= 12) (xU : ∀ k : Nat, k = 17 -> -1 <= Int32.toInt (qG k) /\ Int32.toInt (qG k) <= SB) (xV : ∀ k : Nat, k = 19 -> 0 <= Int32.toInt (qG k) /\ Int32.toInt (qG k) <= 9) (aCE : ∀ k : Nat, k % 21 = 17 -> -1 <= Int32.toInt (xD k) /\ Int32.toInt (xD k) <= SB) (aCF : ∀ k : Nat, k % 21 = 19 -> 0 <= Int32.toInt (xD k) /\ Int32.toInt (xD k) <= 9) (aB5 : ∀ k : Nat, 0 <= Int32.toInt (vJ k) /\ Int32.toInt (vJ k) <= 1) (hc0 : -1 <= SB /\ SB <= 7) (hpost : ∀ (r : Int32) (xG : Int32) (aBI : Int32) (aBf : Nat -> Int32), (0 <= Int32.toInt r /\ Int32.toInt r <= 1) -> (0 <= Int32.toInt xG /\ Int32.toInt xG <= 0) -> (0 <= Int32.toInt aBI /\ Int32.toInt aBI <= 12) -> (∀ k : Nat, k = 17 -> -1 <= Int32.toInt (aBf k) /\ Int32.toInt (aBf k) <= SB) -> (∀ k : Nat, k = 19 -> 0 <= Int32.toInt (aBf k) /\ Int32.toInt (aBf k) <= 9) -> post r xG aBI aBf) : wp_X10_again post p0 bY bU oX qG xD vJ uI := by
  have l0 := aE0
  have l1 := aEc
  have f17 := aAT p0
  refine And.intro (fun c16 => ?_) (fun c16 => ?_)
  · skip
    have c16 := (aAd _ _).mp c16
    refine And.intro (fun _ => ?_) (fun h9 => absurd h9 (by decide))
    exact hpost _ _ _ _ (by omega) (by omega) aAZ xU xV
  · skip
    have c16 := mt (aAd _ _).mpr c16
    refine And.intro (fun c18 => ?_) (fun c18 => ?_)
    · skip
      have c18 := (aAd _ _).mp c18
      refine And.intro (fun _ => ?_) (fun h9 => absurd h9 (by decide))
      exact hpost _ _ _ _ (by omega) (by omega) aAZ xU xV
    · skip
      have c18 := mt (aAd _ _).mpr c18
      refine And.intro (fun h9 => absurd h9 (by decide)) (fun _ => ?_)
      refine And.intro (aBZ (by omega)) ?_
      have f20 := aB5 p0.toNatClampNeg
      refine And.intro (fun c19 => ?_) (fun c19 => ?_)
      · skip
        have c19 := (zJ _ _).mp c19
        exact hpost _ _ _ _ (by omega) (by omega) aAZ xU xV
      · skip
        have c19 := mt (zJ _ _).mpr c19
        refine And.intro (aBZ (by omega)) ?_
        intro v21 ev21
        have hv21 := congrArg Int32.toInt ev21
        have f24 := aAT v21
        have f25 := aAT oX
        refine And.intro (fun c23 => ?_) (fun c23 => ?_)
        · skip
          have c23 := (zJ _ _).mp c23
          exact ⟨23, tb_X10_again_40 oX xD vJ uI aCE aCF aB5 hc0 hpost _ p0 0 0 bU qG (by omega) (by omega) (by omega) aAZ xU xV (by omega)⟩
        · skip
          have c23 := mt (zJ _ _).mpr c23
          exact hpost _ _ _ _ (by omega) (by omega) aAZ xU xV
set_option maxHeartbeats 8000000 in
set_option maxRecDepth 200000 in
theorem ts_X10_count_110 {post : Int32 -> Int32 -> Prop} {SB : Int} (bT aG jC bL bU : Int32) (qG pW : Nat -> Int32) (xJ : 0 <= Int32.toInt bT /\ Int32.toInt bT <= 16) (vZ : 0 <= Int32.toInt aG /\ Int32.toInt aG <= 8) (aA4 : 0 <= Int32.toInt jC /\ Int32.toInt jC <= 80) (yJ : 0 <= Int32.toInt bL /\ Int32.toInt bL <= 16) (aAZ : 0 <= Int32.toInt bU /\ Int32.toInt bU <= 12) (xU : ∀ k : Nat, k = 17 -> -1 <= Int32.toInt (qG k) /\ Int32.toInt (qG k) <= SB) (xV : ∀ k : Nat, k = 19 -> 0 <= Int32.toInt (qG k) /\ Int32.toInt (qG k) <= 9) (yR : ∀ k : Nat, 0 <= Int32.toInt (pW k) /\ Int32.toInt (pW k) <= 9) (hc0 : -1 <= SB /\ SB <= 7) (hc1 : (Int32.toInt aG <= 0 /\ SB = 0) \/ (1 <= Int32.toInt aG /\ SB = Int32.toInt aG - 1)) (hpost : ∀ (r : Int32) (xG : Int32), (0 <= Int32.toInt xG /\ Int32.toInt xG <= 0) -> post r xG) (x1 bY : Int32) (aBK : 5 <= Int32.toInt x1 /\ Int32.toInt x1 <= 8) (yG : 0 <= Int32.toInt bY /\ Int32.toInt bY <= 0) : ws_X10_count_110 post bT aG jC bL bU qG pW x1 bY := by
  have l0 := li_5
  intro v1 ev1
  have f2 : Int32.toInt (x1 - 5) = Int32.toInt x1 - Int32.toInt (5 : Int32) := aCA _ _ (by omega)
  rw [<- ev1] at f2
  refine aKO (by omega) xJ xU xV (by omega) (fun r3 h_r3 ox4 => ?_)
  exact hpost _ _ yG
set_option maxHeartbeats 8000000 in
set_option maxRecDepth 200000 in
theorem t_X10_count {post : Int32 -> Int32 -> Prop} {SB : Int} {p0 bT aG jC bL bY bU : Int32} {qG pW : Nat -> Int32} (xJ : 0 <= Int32.toInt bT /\ Int32.toInt bT <= 16) (vZ : 0 <= Int32.toInt aG /\ Int32.toInt aG <= 8) (aA4 : 0 <= Int32.toInt jC /\ Int32.toInt jC <= 80) (yJ : 0 <= Int32.toInt bL /\ Int32.toInt bL <= 16) (yG : 0 <= Int32.toInt bY /\ Int32.toInt bY <= 1) (aAZ : 0 <= Int32.toInt bU /\ Int32.toInt bU <= 12) (xU : ∀ k : Nat, k = 17 -> -1 <= Int32.toInt (qG k) /\ Int32.toInt (qG k) <= SB) (xV : ∀ k : Nat, k = 19 -> 0 <= Int32.toInt (qG k) /\ Int32.toInt (qG k) <= 9) (yR : ∀ k : Nat, 0 <= Int32.toInt (pW k) /\ Int32.toInt (pW k) <= 9) (hc0 : -1 <= SB /\ SB <= 7) (hc1 : (Int32.toInt aG <= 0 /\ SB = 0) \/ (1 <= Int32.toInt aG /\ SB = Int32.toInt aG - 1)) (hpost : ∀ (r : Int32) (xG : Int32), (0 <= Int32.toInt xG /\ Int32.toInt xG <= 0) -> post r xG) : wp_X10_count post p0 bT aG jC bL bY bU qG pW := by
  have l0 := aE0
  have l1 := aEc
  have l2 := li_10
  have l3 := li_11
  have l4 := li_12
  have l5 := li_13
  have l6 := li_16
  have l7 := li_17
  have l8 := li_19
  have l9 := li_2
  have l10 := li_20
  have l11 := li_3
  have l12 := li_4
  have l13 := li_5
  have l14 := li_6
  have l15 := li_7
  have l16 := li_8
  have l17 := li_9
  have f5 := aAT p0
  refine And.intro (fun c6 => ?_) ?_
  · skip
    have c6 := (zJ _ _).mp c6
    exact hpost _ _ (by omega)
  refine And.intro (fun c7 => ?_) ?_
  · skip
    have c7 := (zJ _ _).mp c7
    exact hpost _ _ (by omega)
  refine And.intro (fun c8 => ?_) ?_
  · skip
    have c8 := (zJ _ _).mp c8
    have q9 := xU (17 : Int32).toNatClampNeg (by have e9 : (17 : Int32).toNatClampNeg = (Int32.toInt (17 : Int32)).toNat := rfl; omega)
    exact hpost _ _ (by omega)
  refine And.intro (fun c10 => ?_) ?_
  · skip
    have c10 := (zJ _ _).mp c10
    have q11 := xV (19 : Int32).toNatClampNeg (by have e9 : (19 : Int32).toNatClampNeg = (Int32.toInt (19 : Int32)).toNat := rfl; omega)
    exact hpost _ _ (by omega)
  refine And.intro (fun c12 => ?_) ?_
  · skip
    have c12 := (zJ _ _).mp c12
    exact hpost _ _ (by omega)
  refine And.intro (fun c13 => ?_) ?_
  · skip
    have c13 := (zJ _ _).mp c13
    exact ts_X10_count_110 bT aG jC bL bU qG pW xJ vZ aA4 yJ aAZ xU xV yR hc0 hc1 hpost p0 0 (by omega) (by omega)
  refine And.intro (fun c14 => ?_) ?_
  · skip
    have c14 := (zJ _ _).mp c14
    exact ts_X10_count_110 bT aG jC bL bU qG pW xJ vZ aA4 yJ aAZ xU xV yR hc0 hc1 hpost p0 0 (by omega) (by omega)
  refine And.intro (fun c15 => ?_) ?_
  · skip
    have c15 := (zJ _ _).mp c15
    exact ts_X10_count_110 bT aG jC bL bU qG pW xJ vZ aA4 yJ aAZ xU xV yR hc0 hc1 hpost p0 0 (by omega) (by omega)
  refine And.intro (fun c16 => ?_) ?_
  · skip
    have c16 := (zJ _ _).mp c16
    exact ts_X10_count_110 bT aG jC bL bU qG pW xJ vZ aA4 yJ aAZ xU xV yR hc0 hc1 hpost p0 0 (by omega) (by omega)
  refine And.intro (fun c17 => ?_) ?_
  · skip
    have c17 := (zJ _ _).mp c17
    exact hpost _ _ (by omega)
  refine And.intro (fun c18 => ?_) ?_
  · skip
    have c18 := (zJ _ _).mp c18
    refine aKO (by omega) xJ xU xV (by omega) (fun r19 h_r19 ox20 => ?_)
    intro v21 ev21
    have hv21 := congrArg Int32.toInt ev21
    refine aNU h_r19 xJ yR (fun r23 => ?_)
    exact hpost _ _ (by omega)
  refine And.intro (fun c24 => ?_) ?_
  · skip
    have c24 := (zJ _ _).mp c24
    exact hpost _ _ (by omega)
  refine And.intro (fun c25 => ?_) ?_
  · skip
    have c25 := (zJ _ _).mp c25
    exact hpost _ _ (by omega)
  refine And.intro (fun c26 => ?_) ?_
  · skip
    have c26 := (zJ _ _).mp c26
    exact hpost _ _ (by omega)
  intro c27 c28 c29 c30 c31 c32 c33 c34 c35 c36 c37 c38 c39 c40
  have c27 := mt (zJ _ _).mpr c27
  have c28 := mt (zJ _ _).mpr c28
  have c29 := mt (zJ _ _).mpr c29
  have c30 := mt (zJ _ _).mpr c30
  have c31 := mt (zJ _ _).mpr c31
  have c32 := mt (zJ _ _).mpr c32
  have c33 := mt (zJ _ _).mpr c33
  have c34 := mt (zJ _ _).mpr c34
  have c35 := mt (zJ _ _).mpr c35
  have c36 := mt (zJ _ _).mpr c36
  have c37 := mt (zJ _ _).mpr c37
  have c38 := mt (zJ _ _).mpr c38
  have c39 := mt (zJ _ _).mpr c39
  have c40 := mt (zJ _ _).mpr c40
  exact hpost _ _ (by omega)
set_option maxHeartbeats 8000000 in
set_option maxRecDepth 200000 in
theorem t_X10_row {post : Int32 -> Int32 -> Prop} {p0 bL bY : Int32} {sW : Nat -> Int32} (yJ : 0 <= Int32.toInt bL /\ Int32.toInt bL <= 16) (yG : 0 <= Int32.toInt bY /\ Int32.toInt bY <= 1) (hpost : ∀ (r : Int32) (xG : Int32), (0 <= Int32.toInt xG /\ Int32.toInt xG <= 1) -> post r xG) : wp_X10_row post p0 bL bY sW := by
  have l0 := aE0
  have l1 := aEc
  intro v1 ev1
  have f2 : Int32.toInt (bL - 1) = Int32.toInt bL - Int32.toInt (1 : Int32) := aCA _ _ (by omega)
  rw [<- ev1] at f2
  have f4 := aAT p0
  refine And.intro (fun c3 => ?_) (fun c3 => ?_)
  · skip
    have c3 := (aAd _ _).mp c3
    refine And.intro (fun _ => ?_) (fun h9 => absurd h9 (by decide))
    exact hpost _ _ (by omega)
  · skip
    have c3 := mt (aAd _ _).mpr c3
    refine And.intro (fun c5 => ?_) (fun c5 => ?_)
    · skip
      have c5 := (aAd _ _).mp c5
      refine And.intro (fun _ => ?_) (fun h9 => absurd h9 (by decide))
      exact hpost _ _ (by omega)
    · skip
      have c5 := mt (aAd _ _).mpr c5
      refine And.intro (fun h9 => absurd h9 (by decide)) (fun _ => ?_)
      refine And.intro (aBZ (by omega)) ?_
      intro v6 ev6
      have hv6 := congrArg Int32.toInt ev6
      exact hpost _ _ (by omega)
