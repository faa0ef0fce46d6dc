set_option maxHeartbeats 8000000 in
set_option maxRecDepth 200000 in
theorem ts_X10_trips_85 {post : Int32 → Int32 → Int32 → Int32 → (Nat → Int32) → (Nat → Int32) → Prop} {SB : Int} {K65 : Int32 → Int32 → Int32 → Int32 → Int32 → Int32 → (Nat → Int32) → (Nat → Int32) → Prop} {n65 : Int} (bT aG : Int32) (qG m_x gR qR nG oO pJ : Nat → Int32) (xJ : 0 ≤ Int32.toInt bT ∧ Int32.toInt bT ≤ 16) (vZ : 0 ≤ Int32.toInt aG ∧ Int32.toInt aG ≤ 8) (xU : ∀ k : Nat, k = 17 → -1 ≤ Int32.toInt (qG k) ∧ Int32.toInt (qG k) ≤ SB) (xV : ∀ k : Nat, k = 19 → 0 ≤ Int32.toInt (qG k) ∧ Int32.toInt (qG k) ≤ 9) (aAW : ∀ k : Nat, 0 ≤ Int32.toInt (m_x k) ∧ Int32.toInt (m_x k) ≤ 99) (xK : ∀ k : Nat, 0 ≤ Int32.toInt (gR k) ∧ Int32.toInt (gR k) ≤ 99) (zM : ∀ k : Nat, 0 ≤ Int32.toInt (qR k) ∧ Int32.toInt (qR k) ≤ 9) (xT : ∀ k : Nat, 0 ≤ Int32.toInt (nG k) ∧ Int32.toInt (nG k) ≤ 99) (yF : ∀ k : Nat, 0 ≤ Int32.toInt (oO k) ∧ Int32.toInt (oO k) ≤ 99) (yD : ∀ k : Nat, k = 4 → 1 ≤ Int32.toInt (pJ k) ∧ Int32.toInt (pJ k) ≤ 30) (xZ : ∀ k : Nat, k = 3 → 0 ≤ Int32.toInt (pJ k) ∧ Int32.toInt (pJ k) ≤ 9) (hc0 : -1 ≤ SB ∧ SB ≤ 7) (hc1 : (Int32.toInt aG ≤ 0 ∧ SB = 0) ∨ (1 ≤ Int32.toInt aG ∧ SB = Int32.toInt aG - 1)) (hpost : ∀ (r : Int32) (xM : Int32) (xG : Int32) (aAS : Int32) (aBX : Nat → Int32) (aA5 : Nat → Int32), (0 ≤ Int32.toInt xM ∧ Int32.toInt xM ≤ 16) → (0 ≤ Int32.toInt xG ∧ Int32.toInt xG ≤ 0) → (0 ≤ Int32.toInt aAS ∧ Int32.toInt aAS ≤ 65535) → (∀ k : Nat, 0 ≤ Int32.toInt (aA5 k) ∧ Int32.toInt (aA5 k) ≤ 65535) → post r xM xG aAS aBX aA5) (hK65 : ∀ (x2 : Int32) (x3 : Int32) (x4 : Int32) (bL : Int32) (bY : Int32) (dO : Int32) (sW : Nat → Int32) (sH : Nat → Int32), (0 ≤ Int32.toInt x2 ∧ Int32.toInt x2 ≤ 63) → (0 ≤ Int32.toInt x4 ∧ Int32.toInt x4 ≤ 63) → (0 ≤ Int32.toInt bL ∧ Int32.toInt bL ≤ 16) → (0 ≤ Int32.toInt bY ∧ Int32.toInt bY ≤ 0) → (0 ≤ Int32.toInt dO ∧ Int32.toInt dO ≤ 65535) → (∀ k : Nat, 0 ≤ Int32.toInt (sH k) ∧ Int32.toInt (sH k) ≤ 65535) → (Int32.toInt x4 - 0 < n65) → K65 x2 x3 x4 bL bY dO sW sH) (x2 x3 x4 bL bY dO : Int32) (sW sH : Nat → Int32) (aBN : 0 ≤ Int32.toInt x2 ∧ Int32.toInt x2 ≤ 29) (aDO : 1 ≤ Int32.toInt x4 ∧ Int32.toInt x4 ≤ 63) (yJ : 0 ≤ Int32.toInt bL ∧ Int32.toInt bL ≤ 16) (yG : 0 ≤ Int32.toInt bY ∧ Int32.toInt bY ≤ 0) (aAH : 0 ≤ Int32.toInt dO ∧ Int32.toInt dO ≤ 65535) (zY : ∀ k : Nat, 0 ≤ Int32.toInt (sH k) ∧ Int32.toInt (sH k) ≤ 65535) (hn65 : Int32.toInt x4 - 0 ≤ n65) : ws_X10_trips_85 post K65 bT aG qG m_x gR qR nG oO pJ x2 x3 x4 bL bY dO sW sH := by
  have l0 := aI2
  have l1 := aEc
  intro v1 ev1
  have f2 : Int32.toInt (x2 + 1) = Int32.toInt x2 + Int32.toInt (1 : Int32) := aAD _ _ (by omega)
  rw [← ev1] at f2
  intro v3 ev3
  have f4 : Int32.toInt (x4 + (-1)) = Int32.toInt x4 + Int32.toInt ((-1) : Int32) := aAD _ _ (by omega)
  rw [← ev3] at f4
  have f5 := aAT x3
  exact hK65 v1 x3 v3 bL bY dO sW sH (by omega) (by omega) yJ yG aAH zY (by omega)
set_option maxHeartbeats 8000000 in
set_option maxRecDepth 200000 in
theorem ts_X10_trips_65 {post : Int32 → Int32 → Int32 → Int32 → (Nat → Int32) → (Nat → Int32) → Prop} {SB : Int} {next : Int32 → Int32 → Int32 → Int32 → Int32 → Int32 → (Nat → Int32) → (Nat → Int32) → Prop} {n65 : Int} (bT aG : Int32) (qG m_x gR qR nG oO pJ : Nat → Int32) (xJ : 0 ≤ Int32.toInt bT ∧ Int32.toInt bT ≤ 16) (vZ : 0 ≤ Int32.toInt aG ∧ Int32.toInt aG ≤ 8) (xU : ∀ k : Nat, k = 17 → -1 ≤ Int32.toInt (qG k) ∧ Int32.toInt (qG k) ≤ SB) (xV : ∀ k : Nat, k = 19 → 0 ≤ Int32.toInt (qG k) ∧ Int32.toInt (qG k) ≤ 9) (aAW : ∀ k : Nat, 0 ≤ Int32.toInt (m_x k) ∧ Int32.toInt (m_x k) ≤ 99) (xK : ∀ k : Nat, 0 ≤ Int32.toInt (gR k) ∧ Int32.toInt (gR k) ≤ 99) (zM : ∀ k : Nat, 0 ≤ Int32.toInt (qR k) ∧ Int32.toInt (qR k) ≤ 9) (xT : ∀ k : Nat, 0 ≤ Int32.toInt (nG k) ∧ Int32.toInt (nG k) ≤ 99) (yF : ∀ k : Nat, 0 ≤ Int32.toInt (oO k) ∧ Int32.toInt (oO k) ≤ 99) (yD : ∀ k : Nat, k = 4 → 1 ≤ Int32.toInt (pJ k) ∧ Int32.toInt (pJ k) ≤ 30) (xZ : ∀ k : Nat, k = 3 → 0 ≤ Int32.toInt (pJ k) ∧ Int32.toInt (pJ k) ≤ 9) (hc0 : -1 ≤ SB ∧ SB ≤ 7) (hc1 : (Int32.toInt aG ≤ 0 ∧ SB = 0) ∨ (1 ≤ Int32.toInt aG ∧ SB = Int32.toInt aG - 1)) (hpost : ∀ (r : Int32) (xM : Int32) (xG : Int32) (aAS : Int32) (aBX : Nat → Int32) (aA5 : Nat → Int32), (0 ≤ Int32.toInt xM ∧ Int32.toInt xM ≤ 16) → (0 ≤ Int32.toInt xG ∧ Int32.toInt xG ≤ 0) → (0 ≤ Int32.toInt aAS ∧ Int32.toInt aAS ≤ 65535) → (∀ k : Nat, 0 ≤ Int32.toInt (aA5 k) ∧ Int32.toInt (aA5 k) ≤ 65535) → post r xM xG aAS aBX aA5) (hKn : ∀ (x2 : Int32) (x3 : Int32) (x4 : Int32) (bL : Int32) (bY : Int32) (dO : Int32) (sW : Nat → Int32) (sH : Nat → Int32), (0 ≤ Int32.toInt x2 ∧ Int32.toInt x2 ≤ 63) → (0 ≤ Int32.toInt x4 ∧ Int32.toInt x4 ≤ 63) → (0 ≤ Int32.toInt bL ∧ Int32.toInt bL ≤ 16) → (0 ≤ Int32.toInt bY ∧ Int32.toInt bY ≤ 0) → (0 ≤ Int32.toInt dO ∧ Int32.toInt dO ≤ 65535) → (∀ k : Nat, 0 ≤ Int32.toInt (sH k) ∧ Int32.toInt (sH k) ≤ 65535) → (Int32.toInt x4 - 0 < n65) → next x2 x3 x4 bL bY dO sW sH) (x2 x3 x4 bL bY dO : Int32) (sW sH : Nat → Int32) (aBN : 0 ≤ Int32.toInt x2 ∧ Int32.toInt x2 ≤ 63) (aDO : 0 ≤ Int32.toInt x4 ∧ Int32.toInt x4 ≤ 63) (yJ : 0 ≤ Int32.toInt bL ∧ Int32.toInt bL ≤ 16) (yG : 0 ≤ Int32.toInt bY ∧ Int32.toInt bY ≤ 0) (aAH : 0 ≤ Int32.toInt dO ∧ Int32.toInt dO ≤ 65535) (zY : ∀ k : Nat, 0 ≤ Int32.toInt (sH k) ∧ Int32.toInt (sH k) ≤ 65535) (hn65 : Int32.toInt x4 - 0 ≤ n65) : ws_X10_trips_65 post next bT aG qG m_x gR qR nG oO pJ x2 x3 x4 bL bY dO sW sH := by
  have l0 := aE0
  have l1 := aEc
  have l2 := li_4
  refine And.intro (fun c6 => ?_) (fun c6 => ?_)
  · skip
    have c6 := (aAO _ _).mp c6
    refine And.intro (aBZ (by omega)) ?_
    intro v7 ev7
    have f8 : Int32.toInt (0 + 1) = Int32.toInt (0 : Int32) + Int32.toInt (1 : Int32) := aAD _ _ (by omega)
    rw [← ev7] at f8
    exact hpost _ _ _ _ _ _ (by omega) yG aAH zY
  · skip
    have c6 := mt (aAO _ _).mpr c6
    have q9 := yD (4 : Int32).toNatClampNeg (by have e9 : (4 : Int32).toNatClampNeg = (Int32.toInt (4 : Int32)).toNat := rfl; omega)
    refine And.intro (fun c10 => ?_) (fun c10 => ?_)
    · skip
      have c10 := (aAd _ _).mp c10
      have f12 := aAT x3
      exact ts_X10_trips_85 bT aG qG m_x gR qR nG oO pJ xJ vZ xU xV aAW xK zM xT yF yD xZ hc0 hc1 hpost hKn x2 x3 x4 bL bY dO sW sH (by omega) (by omega) yJ yG aAH zY hn65
    · skip
      have c10 := mt (aAd _ _).mpr c10
      intro v13 ev13
      have hv13 := congrArg Int32.toInt ev13
      have f15 := aAT v13
      exact ts_X10_trips_85 bT aG qG m_x gR qR nG oO pJ xJ vZ xU xV aAW xK zM xT yF yD xZ hc0 hc1 hpost hKn 0 v13 x4 bL bY dO sW sH (by omega) (by omega) yJ yG aAH zY hn65
set_option maxHeartbeats 8000000 in
set_option maxRecDepth 200000 in
theorem tb_X10_trips_65 {post : Int32 → Int32 → Int32 → Int32 → (Nat → Int32) → (Nat → Int32) → Prop} {SB : Int} (bT aG : Int32) (qG m_x gR qR nG oO pJ : Nat → Int32) (xJ : 0 ≤ Int32.toInt bT ∧ Int32.toInt bT ≤ 16) (vZ : 0 ≤ Int32.toInt aG ∧ Int32.toInt aG ≤ 8) (xU : ∀ k : Nat, k = 17 → -1 ≤ Int32.toInt (qG k) ∧ Int32.toInt (qG k) ≤ SB) (xV : ∀ k : Nat, k = 19 → 0 ≤ Int32.toInt (qG k) ∧ Int32.toInt (qG k) ≤ 9) (aAW : ∀ k : Nat, 0 ≤ Int32.toInt (m_x k) ∧ Int32.toInt (m_x k) ≤ 99) (xK : ∀ k : Nat, 0 ≤ Int32.toInt (gR k) ∧ Int32.toInt (gR k) ≤ 99) (zM : ∀ k : Nat, 0 ≤ Int32.toInt (qR k) ∧ Int32.toInt (qR k) ≤ 9) (xT : ∀ k : Nat, 0 ≤ Int32.toInt (nG k) ∧ Int32.toInt (nG k) ≤ 99) (yF : ∀ k : Nat, 0 ≤ Int32.toInt (oO k) ∧ Int32.toInt (oO k) ≤ 99) (yD : ∀ k : Nat, k = 4 → 1 ≤ Int32.toInt (pJ k) ∧ Int32.toInt (pJ k) ≤ 30) (xZ : ∀ k : Nat, k = 3 → 0 ≤ Int32.toInt (pJ k) ∧ Int32.toInt (pJ k) ≤ 9) (hc0 : -1 ≤ SB ∧ SB ≤ 7) (hc1 : (Int32.toInt aG ≤ 0 ∧ SB = 0) ∨ (1 ≤ Int32.toInt aG ∧ SB = Int32.toInt aG - 1)) (hpost : ∀ (r : Int32) (xM : Int32) (xG : Int32) (aAS : Int32) (aBX : Nat → Int32) (aA5 : Nat → Int32), (0 ≤ Int32.toInt xM ∧ Int32.toInt xM ≤ 16) → (0 ≤ Int32.toInt xG ∧ Int32.toInt xG ≤ 0) → (0 ≤ Int32.toInt aAS ∧ Int32.toInt aAS ≤ 65535) → (∀ k : Nat, 0 ≤ Int32.toInt (aA5 k) ∧ Int32.toInt (aA5 k) ≤ 65535) → post r xM xG aAS aBX aA5) : ∀ (n : Nat) (x2 x3 x4 bL bY dO : Int32) (sW sH : Nat → Int32), (0 ≤ Int32.toInt x2 ∧ Int32.toInt x2 ≤ 63) → (0 ≤ Int32.toInt x4 ∧ Int32.toInt x4 ≤ 63) → (0 ≤ Int32.toInt bL ∧ Int32.toInt bL ≤ 16) → (0 ≤ Int32.toInt bY ∧ Int32.toInt bY ≤ 0) → (0 ≤ Int32.toInt dO ∧ Int32.toInt dO ≤ 65535) → (∀ k : Nat, 0 ≤ Int32.toInt (sH k) ∧ Int32.toInt (sH k) ≤ 65535) → (Int32.toInt x4 - 0 < (n : Int)) → wb_X10_trips_65 post bT aG qG m_x gR qR nG oO pJ n x2 x3 x4 bL bY dO sW sH := by
  intro n
  induction n with
  | zero =>
    intro x2 x3 x4 bL bY dO sW sH aBN aDO yJ yG aAH zY hm
    exfalso; omega
  | succ n ih =>
    intro x2 x3 x4 bL bY dO sW sH aBN aDO yJ yG aAH zY hm
    exact ts_X10_trips_65 bT aG qG m_x gR qR nG oO pJ xJ vZ xU xV aAW xK zM xT yF yD xZ hc0 hc1 hpost ih x2 x3 x4 bL bY dO sW sH aBN aDO yJ yG aAH zY (by omega)
set_option maxHeartbeats 8000000 in
set_option maxRecDepth 200000 in
theorem ts_X10_trips_46 {post : Int32 → Int32 → Int32 → Int32 → (Nat → Int32) → (Nat → Int32) → Prop} {SB : Int} (bT aG : Int32) (qG m_x gR qR nG oO pJ : Nat → Int32) (xJ : 0 ≤ Int32.toInt bT ∧ Int32.toInt bT ≤ 16) (vZ : 0 ≤ Int32.toInt aG ∧ Int32.toInt aG ≤ 8) (xU : ∀ k : Nat, k = 17 → -1 ≤ Int32.toInt (qG k) ∧ Int32.toInt (qG k) ≤ SB) (xV : ∀ k : Nat, k = 19 → 0 ≤ Int32.toInt (qG k) ∧ Int32.toInt (qG k) ≤ 9) (aAW : ∀ k : Nat, 0 ≤ Int32.toInt (m_x k) ∧ Int32.toInt (m_x k) ≤ 99) (xK : ∀ k : Nat, 0 ≤ Int32.toInt (gR k) ∧ Int32.toInt (gR k) ≤ 99) (zM : ∀ k : Nat, 0 ≤ Int32.toInt (qR k) ∧ Int32.toInt (qR k) ≤ 9) (xT : ∀ k : Nat, 0 ≤ Int32.toInt (nG k) ∧ Int32.toInt (nG k) ≤ 99) (yF : ∀ k : Nat, 0 ≤ Int32.toInt (oO k) ∧ Int32.toInt (oO k) ≤ 99) (yD : ∀ k : Nat, k = 4 → 1 ≤ Int32.toInt (pJ k) ∧ Int32.toInt (pJ k) ≤ 30) (xZ : ∀ k : Nat, k = 3 → 0 ≤ Int32.toInt (pJ k) ∧ Int32.toInt (pJ k) ≤ 9) (hc0 : -1 ≤ SB ∧ SB ≤ 7) (hc1 : (Int32.toInt aG ≤ 0 ∧ SB = 0) ∨ (1 ≤ Int32.toInt aG ∧ SB = Int32.toInt aG - 1)) (hpost : ∀ (r : Int32) (xM : Int32) (xG : Int32) (aAS : Int32) (aBX : Nat → Int32) (aA5 : Nat → Int32), (0 ≤ Int32.toInt xM ∧ Int32.toInt xM ≤ 16) → (0 ≤ Int32.toInt xG ∧ Int32.toInt xG ≤ 0) → (0 ≤ Int32.toInt aAS ∧ Int32.toInt aAS ≤ 65535) → (∀ k : Nat, 0 ≤ Int32.toInt (aA5 k) ∧ Int32.toInt (aA5 k) ≤ 65535) → post r xM xG aAS aBX aA5) (x1 k0 bL bY dO : Int32) (sW sH : Nat → Int32) (aBK : 0 ≤ Int32.toInt x1 ∧ Int32.toInt x1 ≤ 7) (h_k0 : 0 ≤ Int32.toInt k0 ∧ Int32.toInt k0 ≤ 63) (yJ : 0 ≤ Int32.toInt bL ∧ Int32.toInt bL ≤ 16) (yG : 0 ≤ Int32.toInt bY ∧ Int32.toInt bY ≤ 0) (aAH : 0 ≤ Int32.toInt dO ∧ Int32.toInt dO ≤ 65535) (zY : ∀ k : Nat, 0 ≤ Int32.toInt (sH k) ∧ Int32.toInt (sH k) ≤ 65535) : ws_X10_trips_46 post bT aG qG m_x gR qR nG oO pJ x1 k0 bL bY dO sW sH := by
  have l0 := aE0
  have l1 := aKH
  have l2 := aJ8
  have l3 := li_63
  have l4 := aJ9
  refine And.intro (aBZ (by omega)) ?_
  intro v16 ev16
  have f18 := zY x1.toNatClampNeg
  have f17 := aAQ dO (sH x1.toNatClampNeg) (by omega)
  have f19 := aBx dO (sH x1.toNatClampNeg) (by omega)
  have hv16 := congrArg Int32.toInt ev16
  intro v20 ev20
  intro v21 ev21
  have f23 := aAQ v20 1431655765 (by omega)
  have f22 : Int32.toInt (v16 - (v20 &&& 1431655765)) = Int32.toInt v16 - Int32.toInt (v20 &&& 1431655765) := aCA _ _ (by omega)
  rw [← ev21] at f22
  intro v24 ev24
  have f25 := aAQ v21 858993459 (by omega)
  have hv24 := congrArg Int32.toInt ev24
  intro v26 ev26
  intro v27 ev27
  have f29 := aAQ v26 858993459 (by omega)
  have f28 : Int32.toInt (v24 + (v26 &&& 858993459)) = Int32.toInt v24 + Int32.toInt (v26 &&& 858993459) := aAD _ _ (by omega)
  rw [← ev27] at f28
  intro v30 ev30
  have hv30 := congrArg Int32.toInt ev30
  intro v32 ev32
  have f33 := aAQ v30 252645135 (by omega)
  have hv32 := congrArg Int32.toInt ev32
  intro v34 ev34
  have hv34 := congrArg Int32.toInt ev34
  intro v36 ev36
  have hv36 := congrArg Int32.toInt ev36
  have f38 := aAQ v36 63 (by omega)
  exact ⟨65, tb_X10_trips_65 bT aG qG m_x gR qR nG oO pJ xJ vZ xU xV aAW xK zM xT yF yD xZ hc0 hc1 hpost _ k0 0 (v36 &&& 63) bL bY dO sW sH h_k0 (by omega) yJ yG aAH zY (by omega)⟩
set_option maxHeartbeats 8000000 in
set_option maxRecDepth 200000 in
theorem t_X10_trips {post : Int32 → Int32 → Int32 → Int32 → (Nat → Int32) → (Nat → Int32) → Prop} {SB : Int} {p0 bT aG bL bY dO : Int32} {qG m_x gR qR nG oO pJ sW sH : Nat → Int32} (xJ : 0 ≤ Int32.toInt bT ∧ Int32.toInt bT ≤ 16) (vZ : 0 ≤ Int32.toInt aG ∧ Int32.toInt aG ≤ 8) (yJ : 0 ≤ Int32.toInt bL ∧ Int32.toInt bL ≤ 16) (yG : 0 ≤ Int32.toInt bY ∧ Int32.toInt bY ≤ 1) (aAH : 0 ≤ Int32.toInt dO ∧ Int32.toInt dO ≤ 65535) (xU : ∀ k : Nat, k = 17 → -1 ≤ Int32.toInt (qG k) ∧ Int32.toInt (qG k) ≤ SB) (xV : ∀ k : Nat, k = 19 → 0 ≤ Int32.toInt (qG k) ∧ Int32.toInt (qG k) ≤ 9) (aAW : ∀ k : Nat, 0 ≤ Int32.toInt (m_x k) ∧ Int32.toInt (m_x k) ≤ 99) (xK : ∀ k : Nat, 0 ≤ Int32.toInt (gR k) ∧ Int32.toInt (gR k) ≤ 99) (zM : ∀ k : Nat, 0 ≤ Int32.toInt (qR k) ∧ Int32.toInt (qR k) ≤ 9) (xT : ∀ k : Nat, 0 ≤ Int32.toInt (nG k) ∧ Int32.toInt (nG k) ≤ 99) (yF : ∀ k : Nat, 0 ≤ Int32.toInt (oO k) ∧ Int32.toInt (oO k) ≤ 99) (yD : ∀ k : Nat, k = 4 → 1 ≤ Int32.toInt (pJ k) ∧ Int32.toInt (pJ k) ≤ 30) (xZ : ∀ k : Nat, k = 3 → 0 ≤ Int32.toInt (pJ k) ∧ Int32.toInt (pJ k) ≤ 9) (zY : ∀ k : Nat, 0 ≤ Int32.toInt (sH k) ∧ Int32.toInt (sH k) ≤ 65535) (hc0 : -1 ≤ SB ∧ SB ≤ 7) (hc1 : (Int32.toInt aG ≤ 0 ∧ SB = 0) ∨ (1 ≤ Int32.toInt aG ∧ SB = Int32.toInt aG - 1)) (hpost : ∀ (r : Int32) (xM : Int32) (xG : Int32) (aAS : Int32) (aBX : Nat → Int32) (aA5 : Nat → Int32), (0 ≤ Int32.toInt xM ∧ Int32.toInt xM ≤ 16) → (0 ≤ Int32.toInt xG ∧ Int32.toInt xG ≤ 0) → (0 ≤ Int32.toInt aAS ∧ Int32.toInt aAS ≤ 65535) → (∀ k : Nat, 0 ≤ Int32.toInt (aA5 k) ∧ Int32.toInt (aA5 k) ≤ 65535) → post r xM xG aAS aBX aA5) : wp_X10_trips post p0 bT aG bL bY dO qG m_x gR qR nG oO pJ sW sH := by
  have l0 := aE0
  have l1 := aEc
  have l2 := aKH
  have l3 := li_17
  have l4 := li_18
  have l5 := aJ8
  have l6 := li_63
  have l7 := aJ9
  intro v39 ev39
  have f40 : Int32.toInt (aG - 1) = Int32.toInt aG - Int32.toInt (1 : Int32) := aCA _ _ (by omega)
  rw [← ev39] at f40
  have f42 := aAT p0
  refine And.intro (fun c41 => ?_) (fun c41 => ?_)
  · skip
    have c41 := (aAd _ _).mp c41
    refine And.intro (aHE (by omega)) ?_
    refine And.intro (fun h9 => absurd h9 (by decide)) (fun _ => ?_)
    exact hpost _ _ _ _ _ _ yJ (by omega) aAH zY
  · skip
    have c41 := mt (aAd _ _).mpr c41
    refine And.intro (fun c43 => ?_) (fun c43 => ?_)
    · skip
      have c43 := (aAd _ _).mp c43
      refine And.intro (aHE (by omega)) ?_
      refine And.intro (fun h9 => absurd h9 (by decide)) (fun _ => ?_)
      exact hpost _ _ _ _ _ _ yJ (by omega) aAH zY
    · skip
      have c43 := mt (aAd _ _).mpr c43
      refine And.intro (aHE (by omega)) ?_
      refine And.intro (fun _ => ?_) (fun h9 => absurd h9 (by decide))
      intro v44 ev44
      have hv44 := congrArg Int32.toInt ev44
      refine aLb xJ vZ aAH xU xV aAW xK zM xT yF yD xZ zY (by omega) (by omega) (fun m_wanted_46 m_hand_47 h_m_wanted_46 h_m_hand_47 => ?_)
      have q48 := xU (17 : Int32).toNatClampNeg (by have e9 : (17 : Int32).toNatClampNeg = (Int32.toInt (17 : Int32)).toNat := rfl; omega)
      intro v49 ev49
      have hv49 := congrArg Int32.toInt ev49
      refine And.intro (fun c51 => ?_) (fun c51 => ?_)
      · skip
        have c51 := mt (zJ _ _).mpr c51
        exact ts_X10_trips_46 bT aG qG m_x gR qR nG oO pJ xJ vZ xU xV aAW xK zM xT yF yD xZ hc0 hc1 hpost p0 0 bL 0 m_wanted_46 sW m_hand_47 (by omega) (by omega) yJ (by omega) h_m_wanted_46 h_m_hand_47
      · skip
        have c51 := (zJ _ _).mp c51
        refine aKO (by omega) xJ xU xV (by omega) (fun r52 h_r52 ox53 => ?_)
        intro v54 ev54
        intro v55 ev55
        have f57 := aAQ v54 1431655765 (by omega)
        have f56 : Int32.toInt (r52 - (v54 &&& 1431655765)) = Int32.toInt r52 - Int32.toInt (v54 &&& 1431655765) := aCA _ _ (by omega)
        rw [← ev55] at f56
        intro v58 ev58
        have f59 := aAQ v55 858993459 (by omega)
        have hv58 := congrArg Int32.toInt ev58
        intro v60 ev60
        intro v61 ev61
        have f63 := aAQ v60 858993459 (by omega)
        have f62 : Int32.toInt (v58 + (v60 &&& 858993459)) = Int32.toInt v58 + Int32.toInt (v60 &&& 858993459) := aAD _ _ (by omega)
        rw [← ev61] at f62
        intro v64 ev64
        have hv64 := congrArg Int32.toInt ev64
        intro v66 ev66
        have f67 := aAQ v64 252645135 (by omega)
        have hv66 := congrArg Int32.toInt ev66
        intro v68 ev68
        have hv68 := congrArg Int32.toInt ev68
        intro v70 ev70
        have hv70 := congrArg Int32.toInt ev70
        have f72 := aAQ v70 63 (by omega)
        exact ts_X10_trips_46 bT aG qG m_x gR qR nG oO pJ xJ vZ xU xV aAW xK zM xT yF yD xZ hc0 hc1 hpost p0 (v70 &&& 63) bL 0 m_wanted_46 sW m_hand_47 (by omega) (by omega) yJ (by omega) h_m_wanted_46 h_m_hand_47
set_option maxHeartbeats 8000000 in
set_option maxRecDepth 200000 in
theorem t_X10_helps {post : Int32 → Int32 → Int32 → Int32 → (Nat → Int32) → (Nat → Int32) → Prop} {SB : Int} {bT aG bL bY dO : Int32} {qG m_x gR qR nG oO pJ sW sH : Nat → Int32} (xJ : 0 ≤ Int32.toInt bT ∧ Int32.toInt bT ≤ 16) (vZ : 0 ≤ Int32.toInt aG ∧ Int32.toInt aG ≤ 8) (yJ : 0 ≤ Int32.toInt bL ∧ Int32.toInt bL ≤ 16) (yG : 0 ≤ Int32.toInt bY ∧ Int32.toInt bY ≤ 1) (aAH : 0 ≤ Int32.toInt dO ∧ Int32.toInt dO ≤ 65535) (xU : ∀ k : Nat, k = 17 → -1 ≤ Int32.toInt (qG k) ∧ Int32.toInt (qG k) ≤ SB) (xV : ∀ k : Nat, k = 19 → 0 ≤ Int32.toInt (qG k) ∧ Int32.toInt (qG k) ≤ 9) (aAW : ∀ k : Nat, 0 ≤ Int32.toInt (m_x k) ∧ Int32.toInt (m_x k) ≤ 99) (xK : ∀ k : Nat, 0 ≤ Int32.toInt (gR k) ∧ Int32.toInt (gR k) ≤ 99) (zM : ∀ k : Nat, 0 ≤ Int32.toInt (qR k) ∧ Int32.toInt (qR k) ≤ 9) (xT : ∀ k : Nat, 0 ≤ Int32.toInt (nG k) ∧ Int32.toInt (nG k) ≤ 99) (yF : ∀ k : Nat, 0 ≤ Int32.toInt (oO k) ∧ Int32.toInt (oO k) ≤ 99) (yD : ∀ k : Nat, k = 4 → 1 ≤ Int32.toInt (pJ k) ∧ Int32.toInt (pJ k) ≤ 30) (xZ : ∀ k : Nat, k = 3 → 0 ≤ Int32.toInt (pJ k) ∧ Int32.toInt (pJ k) ≤ 9) (zY : ∀ k : Nat, 0 ≤ Int32.toInt (sH k) ∧ Int32.toInt (sH k) ≤ 65535) (hc0 : -1 ≤ SB ∧ SB ≤ 7) (hc1 : (Int32.toInt aG ≤ 0 ∧ SB = 0) ∨ (1 ≤ Int32.toInt aG ∧ SB = Int32.toInt aG - 1)) (hpost : ∀ (r : Int32) (xM : Int32) (xG : Int32) (aAS : Int32) (aBX : Nat → Int32) (aA5 : Nat → Int32), (-63 ≤ Int32.toInt r ∧ Int32.toInt r ≤ 63) → (2 ≤ Int32.toInt xM ∧ Int32.toInt xM ≤ 2) → (0 ≤ Int32.toInt xG ∧ Int32.toInt xG ≤ 0) → (0 ≤ Int32.toInt aAS ∧ Int32.toInt aAS ≤ 65535) → (∀ k : Nat, 0 ≤ Int32.toInt (aA5 k) ∧ Int32.toInt (aA5 k) ≤ 65535) → post r xM xG aAS aBX aA5) : wp_X10_helps post bT aG bL bY dO qG m_x gR qR nG oO pJ sW sH := by
  have l0 := aE0
  have l1 := aEc
  have l2 := aKH
  have l3 := aJ8
  have l4 := li_63
  have l5 := aJ9
  refine aLb xJ vZ aAH xU xV aAW xK zM xT yF yD xZ zY (by omega) (by omega) (fun aDN aII h_m_wanted_1 h_m_hand_2 => ?_)
  refine t_X10_cover h_m_wanted_1 vZ h_m_hand_2 (fun r3 h_r3 => ?_)
  intro v4 ev4
  intro v5 ev5
  have f7 := aAQ v4 1431655765 (by omega)
  have f6 : Int32.toInt (r3 - (v4 &&& 1431655765)) = Int32.toInt r3 - Int32.toInt (v4 &&& 1431655765) := aCA _ _ (by omega)
  rw [← ev5] at f6
  intro v8 ev8
  have f9 := aAQ v5 858993459 (by omega)
  have hv8 := congrArg Int32.toInt ev8
  intro v10 ev10
  intro v11 ev11
  have f13 := aAQ v10 858993459 (by omega)
  have f12 : Int32.toInt (v8 + (v10 &&& 858993459)) = Int32.toInt v8 + Int32.toInt (v10 &&& 858993459) := aAD _ _ (by omega)
  rw [← ev11] at f12
  intro v14 ev14
  have hv14 := congrArg Int32.toInt ev14
  intro v16 ev16
  have f17 := aAQ v14 252645135 (by omega)
  have hv16 := congrArg Int32.toInt ev16
  intro v18 ev18
  have hv18 := congrArg Int32.toInt ev18
  intro v20 ev20
  have hv20 := congrArg Int32.toInt ev20
  intro v22 ev22
  intro v23 ev23
  have f25 := aAQ v22 1431655765 (by omega)
  have f24 : Int32.toInt (aDN - (v22 &&& 1431655765)) = Int32.toInt aDN - Int32.toInt (v22 &&& 1431655765) := aCA _ _ (by omega)
  rw [← ev23] at f24
  intro v26 ev26
  have f27 := aAQ v23 858993459 (by omega)
  have hv26 := congrArg Int32.toInt ev26
  intro v28 ev28
  intro v29 ev29
  have f31 := aAQ v28 858993459 (by omega)
  have f30 : Int32.toInt (v26 + (v28 &&& 858993459)) = Int32.toInt v26 + Int32.toInt (v28 &&& 858993459) := aAD _ _ (by omega)
  rw [← ev29] at f30
  intro v32 ev32
  have hv32 := congrArg Int32.toInt ev32
  intro v34 ev34
  have f35 := aAQ v32 252645135 (by omega)
  have hv34 := congrArg Int32.toInt ev34
  intro v36 ev36
  have hv36 := congrArg Int32.toInt ev36
  intro v38 ev38
  have hv38 := congrArg Int32.toInt ev38
  refine aLb xJ vZ h_m_wanted_1 xU xV aAW xK zM xT yF yD xZ h_m_hand_2 (by omega) (by omega) (fun m_wanted_40 m_hand_41 h_m_wanted_40 h_m_hand_41 => ?_)
  refine t_X10_cover h_m_wanted_40 vZ h_m_hand_41 (fun r42 h_r42 => ?_)
  intro v43 ev43
  intro v44 ev44
  have f46 := aAQ v43 1431655765 (by omega)
  have f45 : Int32.toInt (r42 - (v43 &&& 1431655765)) = Int32.toInt r42 - Int32.toInt (v43 &&& 1431655765) := aCA _ _ (by omega)
  rw [← ev44] at f45
  intro v47 ev47
  have f48 := aAQ v44 858993459 (by omega)
  have hv47 := congrArg Int32.toInt ev47
  intro v49 ev49
  intro v50 ev50
  have f52 := aAQ v49 858993459 (by omega)
  have f51 : Int32.toInt (v47 + (v49 &&& 858993459)) = Int32.toInt v47 + Int32.toInt (v49 &&& 858993459) := aAD _ _ (by omega)
  rw [← ev50] at f51
  intro v53 ev53
  have hv53 := congrArg Int32.toInt ev53
  intro v55 ev55
  have f56 := aAQ v53 252645135 (by omega)
  have hv55 := congrArg Int32.toInt ev55
  intro v57 ev57
  have hv57 := congrArg Int32.toInt ev57
  intro v59 ev59
  have hv59 := congrArg Int32.toInt ev59
  refine And.intro (aBZ (by omega)) ?_
  intro v61 ev61
  have f62 : Int32.toInt (0 + 1) = Int32.toInt (0 : Int32) + Int32.toInt (1 : Int32) := aAD _ _ (by omega)
  rw [← ev61] at f62
  intro v63 ev63
  intro v64 ev64
  have f66 := aAQ v63 1431655765 (by omega)
  have f65 : Int32.toInt (m_wanted_40 - (v63 &&& 1431655765)) = Int32.toInt m_wanted_40 - Int32.toInt (v63 &&& 1431655765) := aCA _ _ (by omega)
  rw [← ev64] at f65
  intro v67 ev67
  have f68 := aAQ v64 858993459 (by omega)
  have hv67 := congrArg Int32.toInt ev67
  intro v69 ev69
  intro v70 ev70
  have f72 := aAQ v69 858993459 (by omega)
  have f71 : Int32.toInt (v67 + (v69 &&& 858993459)) = Int32.toInt v67 + Int32.toInt (v69 &&& 858993459) := aAD _ _ (by omega)
  rw [← ev70] at f71
  intro v73 ev73
  have hv73 := congrArg Int32.toInt ev73
  intro v75 ev75
  have f76 := aAQ v73 252645135 (by omega)
  have hv75 := congrArg Int32.toInt ev75
  intro v77 ev77
  have hv77 := congrArg Int32.toInt ev77
  intro v79 ev79
  have hv79 := congrArg Int32.toInt ev79
  refine And.intro (aBZ (by omega)) ?_
  intro v81 ev81
  have f82 : Int32.toInt (v61 + 1) = Int32.toInt v61 + Int32.toInt (1 : Int32) := aAD _ _ (by omega)
  rw [← ev81] at f82
  have f84 := aAQ v20 63 (by omega)
  have f85 := aAQ v59 63 (by omega)
  have f83 : Int32.toInt ((v20 &&& 63) - (v59 &&& 63)) = Int32.toInt (v20 &&& 63) - Int32.toInt (v59 &&& 63) := aCA _ _ (by omega)
  exact hpost _ _ _ _ _ _ (by omega) (by omega) (by omega) h_m_wanted_40 h_m_hand_41
