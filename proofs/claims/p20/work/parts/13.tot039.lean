set_option maxHeartbeats 8000000 in
set_option maxRecDepth 200000 in
theorem ts_X10_never_17 {post : Int32 → Int32 → Int32 → (Nat → Int32) → Prop} {SB : Int} {next : Int32 → Int32 → Int32 → Int32 → (Nat → Int32) → Prop} {n17 : Int} (bT aG : Int32) (qG m_x gR pW nG oO pJ : Nat → Int32) (xJ : 0 ≤ Int32.toInt bT ∧ Int32.toInt bT ≤ 16) (vZ : 0 ≤ Int32.toInt aG ∧ Int32.toInt aG ≤ 8) (xU : ∀ k : Nat, k = 17 → -1 ≤ Int32.toInt (qG k) ∧ Int32.toInt (qG k) ≤ SB) (xV : ∀ k : Nat, k = 19 → 0 ≤ Int32.toInt (qG k) ∧ Int32.toInt (qG k) ≤ 9) (aAW : ∀ k : Nat, 0 ≤ Int32.toInt (m_x k) ∧ Int32.toInt (m_x k) ≤ 99) (xK : ∀ k : Nat, 0 ≤ Int32.toInt (gR k) ∧ Int32.toInt (gR k) ≤ 99) (yR : ∀ k : Nat, 0 ≤ Int32.toInt (pW k) ∧ Int32.toInt (pW k) ≤ 9) (xT : ∀ k : Nat, 0 ≤ Int32.toInt (nG k) ∧ Int32.toInt (nG k) ≤ 99) (yF : ∀ k : Nat, 0 ≤ Int32.toInt (oO k) ∧ Int32.toInt (oO k) ≤ 99) (yD : ∀ k : Nat, k = 4 → 1 ≤ Int32.toInt (pJ k) ∧ Int32.toInt (pJ k) ≤ 30) (xZ : ∀ k : Nat, k = 3 → 0 ≤ Int32.toInt (pJ k) ∧ Int32.toInt (pJ k) ≤ 9) (hc0 : -1 ≤ SB ∧ SB ≤ 7) (hc1 : (Int32.toInt aG ≤ 0 ∧ SB = 0) ∨ (1 ≤ Int32.toInt aG ∧ SB = Int32.toInt aG - 1)) (hpost : ∀ (r : Int32) (xM : Int32) (xG : Int32) (aBX : Nat → Int32), (0 ≤ Int32.toInt r ∧ Int32.toInt r ≤ 65535) → (1 ≤ Int32.toInt xM ∧ Int32.toInt xM ≤ 1) → (0 ≤ Int32.toInt xG ∧ Int32.toInt xG ≤ 0) → post r xM xG aBX) (hKn : ∀ (x1 : Int32) (x2 : Int32) (bL : Int32) (bY : Int32) (sW : Nat → Int32), (0 ≤ Int32.toInt x1 ∧ Int32.toInt x1 ≤ 65535) → (0 ≤ Int32.toInt x2 ∧ Int32.toInt x2 ≤ 8) → (0 ≤ Int32.toInt bL ∧ Int32.toInt bL ≤ 16) → (0 ≤ Int32.toInt bY ∧ Int32.toInt bY ≤ 0) → (8 - Int32.toInt x2 < n17) → next x1 x2 bL bY sW) (x1 x2 bL bY : Int32) (sW : Nat → Int32) (aBK : 0 ≤ Int32.toInt x1 ∧ Int32.toInt x1 ≤ 65535) (aBN : 0 ≤ Int32.toInt x2 ∧ Int32.toInt x2 ≤ 8) (yJ : 0 ≤ Int32.toInt bL ∧ Int32.toInt bL ≤ 16) (yG : 0 ≤ Int32.toInt bY ∧ Int32.toInt bY ≤ 0) (hn17 : 8 - Int32.toInt x2 ≤ n17) : ws_X10_never_17 post next bT aG qG m_x gR pW nG oO pJ x1 x2 bL bY sW := by
  have l0 := aE0
  have l1 := aEc
  have l2 := li_16
  refine And.intro (fun c1 => ?_) (fun c1 => ?_)
  · skip
    have c1 := (aAO _ _).mp c1
    intro v2 ev2
    have hv2 := congrArg Int32.toInt ev2
    refine aNU aBK xJ yR (fun r4 => ?_)
    refine And.intro (aBZ (by omega)) ?_
    intro v5 ev5
    have f6 : Int32.toInt (0 + 1) = Int32.toInt (0 : Int32) + Int32.toInt (1 : Int32) := aAD _ _ (by omega)
    rw [← ev5] at f6
    exact hpost _ _ _ _ aBK (by omega) yG
  · skip
    have c1 := mt (aAO _ _).mpr c1
    refine aX7 (by omega) (by omega) xJ aAW xK xT yF yD xZ (fun r7 h_r7 => ?_)
    intro v8 ev8
    have f10 := aBx x1 (r7 ^^^ (-1)) (by omega)
    have hv8 := congrArg Int32.toInt ev8
    intro v11 ev11
    have f12 : Int32.toInt (x2 + 1) = Int32.toInt x2 + Int32.toInt (1 : Int32) := aAD _ _ (by omega)
    rw [← ev11] at f12
    exact hKn v8 v11 bL bY sW (by omega) (by omega) yJ yG (by omega)
set_option maxHeartbeats 8000000 in
set_option maxRecDepth 200000 in
theorem tb_X10_never_17 {post : Int32 → Int32 → Int32 → (Nat → Int32) → Prop} {SB : Int} (bT aG : Int32) (qG m_x gR pW nG oO pJ : Nat → Int32) (xJ : 0 ≤ Int32.toInt bT ∧ Int32.toInt bT ≤ 16) (vZ : 0 ≤ Int32.toInt aG ∧ Int32.toInt aG ≤ 8) (xU : ∀ k : Nat, k = 17 → -1 ≤ Int32.toInt (qG k) ∧ Int32.toInt (qG k) ≤ SB) (xV : ∀ k : Nat, k = 19 → 0 ≤ Int32.toInt (qG k) ∧ Int32.toInt (qG k) ≤ 9) (aAW : ∀ k : Nat, 0 ≤ Int32.toInt (m_x k) ∧ Int32.toInt (m_x k) ≤ 99) (xK : ∀ k : Nat, 0 ≤ Int32.toInt (gR k) ∧ Int32.toInt (gR k) ≤ 99) (yR : ∀ k : Nat, 0 ≤ Int32.toInt (pW k) ∧ Int32.toInt (pW k) ≤ 9) (xT : ∀ k : Nat, 0 ≤ Int32.toInt (nG k) ∧ Int32.toInt (nG k) ≤ 99) (yF : ∀ k : Nat, 0 ≤ Int32.toInt (oO k) ∧ Int32.toInt (oO k) ≤ 99) (yD : ∀ k : Nat, k = 4 → 1 ≤ Int32.toInt (pJ k) ∧ Int32.toInt (pJ k) ≤ 30) (xZ : ∀ k : Nat, k = 3 → 0 ≤ Int32.toInt (pJ k) ∧ Int32.toInt (pJ k) ≤ 9) (hc0 : -1 ≤ SB ∧ SB ≤ 7) (hc1 : (Int32.toInt aG ≤ 0 ∧ SB = 0) ∨ (1 ≤ Int32.toInt aG ∧ SB = Int32.toInt aG - 1)) (hpost : ∀ (r : Int32) (xM : Int32) (xG : Int32) (aBX : Nat → Int32), (0 ≤ Int32.toInt r ∧ Int32.toInt r ≤ 65535) → (1 ≤ Int32.toInt xM ∧ Int32.toInt xM ≤ 1) → (0 ≤ Int32.toInt xG ∧ Int32.toInt xG ≤ 0) → post r xM xG aBX) : ∀ (n : Nat) (x1 x2 bL bY : Int32) (sW : Nat → Int32), (0 ≤ Int32.toInt x1 ∧ Int32.toInt x1 ≤ 65535) → (0 ≤ Int32.toInt x2 ∧ Int32.toInt x2 ≤ 8) → (0 ≤ Int32.toInt bL ∧ Int32.toInt bL ≤ 16) → (0 ≤ Int32.toInt bY ∧ Int32.toInt bY ≤ 0) → (8 - Int32.toInt x2 < (n : Int)) → wb_X10_never_17 post bT aG qG m_x gR pW nG oO pJ n x1 x2 bL bY sW := by
  intro n
  induction n with
  | zero =>
    intro x1 x2 bL bY sW aBK aBN yJ yG hm
    exfalso; omega
  | succ n ih =>
    intro x1 x2 bL bY sW aBK aBN yJ yG hm
    exact ts_X10_never_17 bT aG qG m_x gR pW nG oO pJ xJ vZ xU xV aAW xK yR xT yF yD xZ hc0 hc1 hpost ih x1 x2 bL bY sW aBK aBN yJ yG (by omega)
set_option maxHeartbeats 8000000 in
set_option maxRecDepth 200000 in
theorem t_X10_never {post : Int32 → Int32 → Int32 → (Nat → Int32) → Prop} {SB : Int} {bT aG bL bY : Int32} {qG m_x gR pW nG oO pJ sW : Nat → Int32} (xJ : 0 ≤ Int32.toInt bT ∧ Int32.toInt bT ≤ 16) (vZ : 0 ≤ Int32.toInt aG ∧ Int32.toInt aG ≤ 8) (yJ : 0 ≤ Int32.toInt bL ∧ Int32.toInt bL ≤ 16) (yG : 0 ≤ Int32.toInt bY ∧ Int32.toInt bY ≤ 1) (xU : ∀ k : Nat, k = 17 → -1 ≤ Int32.toInt (qG k) ∧ Int32.toInt (qG k) ≤ SB) (xV : ∀ k : Nat, k = 19 → 0 ≤ Int32.toInt (qG k) ∧ Int32.toInt (qG k) ≤ 9) (aAW : ∀ k : Nat, 0 ≤ Int32.toInt (m_x k) ∧ Int32.toInt (m_x k) ≤ 99) (xK : ∀ k : Nat, 0 ≤ Int32.toInt (gR k) ∧ Int32.toInt (gR k) ≤ 99) (yR : ∀ k : Nat, 0 ≤ Int32.toInt (pW k) ∧ Int32.toInt (pW k) ≤ 9) (xT : ∀ k : Nat, 0 ≤ Int32.toInt (nG k) ∧ Int32.toInt (nG k) ≤ 99) (yF : ∀ k : Nat, 0 ≤ Int32.toInt (oO k) ∧ Int32.toInt (oO k) ≤ 99) (yD : ∀ k : Nat, k = 4 → 1 ≤ Int32.toInt (pJ k) ∧ Int32.toInt (pJ k) ≤ 30) (xZ : ∀ k : Nat, k = 3 → 0 ≤ Int32.toInt (pJ k) ∧ Int32.toInt (pJ k) ≤ 9) (hc0 : -1 ≤ SB ∧ SB ≤ 7) (hc1 : (Int32.toInt aG ≤ 0 ∧ SB = 0) ∨ (1 ≤ Int32.toInt aG ∧ SB = Int32.toInt aG - 1)) (hpost : ∀ (r : Int32) (xM : Int32) (xG : Int32) (aBX : Nat → Int32), (0 ≤ Int32.toInt r ∧ Int32.toInt r ≤ 65535) → (1 ≤ Int32.toInt xM ∧ Int32.toInt xM ≤ 1) → (0 ≤ Int32.toInt xG ∧ Int32.toInt xG ≤ 0) → post r xM xG aBX) : wp_X10_never post bT aG bL bY qG m_x gR pW nG oO pJ sW := by
  have l0 := aE0
  refine aKO (by omega) xJ xU xV (by omega) (fun r13 h_r13 ox14 => ?_)
  exact ⟨10, tb_X10_never_17 bT aG qG m_x gR pW nG oO pJ xJ vZ xU xV aAW xK yR xT yF yD xZ hc0 hc1 hpost _ r13 0 bL 0 sW h_r13 (by omega) yJ (by omega) (by omega)⟩
set_option maxHeartbeats 8000000 in
set_option maxRecDepth 200000 in
theorem t_X10_seconds {post : Int32 → Int32 → Nat → Int32 → Int32 → Int32 → Int32 → Int32 → Int32 → Int32 → Int32 → Int32 → Prop} {SB : Int} {p0 p1 p2 bT aG bY : Int32} {jD : Nat} {m_length oF rP dQ bW bZ aR aE bI aW : Int32} {qG m_x gR pW nG oO pJ qO qQ : Nat → Int32} (xJ : 0 ≤ Int32.toInt bT ∧ Int32.toInt bT ≤ 16) (vZ : 0 ≤ Int32.toInt aG ∧ Int32.toInt aG ≤ 8) (yG : 0 ≤ Int32.toInt bY ∧ Int32.toInt bY ≤ 1) (yM : jD = 0 ∨ jD = 1 ∨ jD = 2) (zE : 0 ≤ Int32.toInt m_length ∧ Int32.toInt m_length ≤ 80) (aAR : 0 ≤ Int32.toInt oF ∧ Int32.toInt oF ≤ 80) (aA1 : 0 ≤ Int32.toInt rP ∧ Int32.toInt rP ≤ 80) (aAA : -1 ≤ Int32.toInt dQ ∧ Int32.toInt dQ ≤ 80) (zQ : 0 ≤ Int32.toInt bW ∧ Int32.toInt bW ≤ 40) (zT : 0 ≤ Int32.toInt bZ ∧ Int32.toInt bZ ≤ 0) (yL : 0 ≤ Int32.toInt aR ∧ Int32.toInt aR ≤ 15) (xQ : 0 ≤ Int32.toInt aE ∧ Int32.toInt aE ≤ 7) (yY : 0 ≤ Int32.toInt bI ∧ Int32.toInt bI ≤ 1) (yK : 0 ≤ Int32.toInt aW ∧ Int32.toInt aW ≤ 63) (xU : ∀ k : Nat, k = 17 → -1 ≤ Int32.toInt (qG k) ∧ Int32.toInt (qG k) ≤ SB) (xV : ∀ k : Nat, k = 19 → 0 ≤ Int32.toInt (qG k) ∧ Int32.toInt (qG k) ≤ 9) (aAW : ∀ k : Nat, 0 ≤ Int32.toInt (m_x k) ∧ Int32.toInt (m_x k) ≤ 99) (xK : ∀ k : Nat, 0 ≤ Int32.toInt (gR k) ∧ Int32.toInt (gR k) ≤ 99) (yR : ∀ k : Nat, 0 ≤ Int32.toInt (pW k) ∧ Int32.toInt (pW k) ≤ 9) (xT : ∀ k : Nat, 0 ≤ Int32.toInt (nG k) ∧ Int32.toInt (nG k) ≤ 99) (yF : ∀ k : Nat, 0 ≤ Int32.toInt (oO k) ∧ Int32.toInt (oO k) ≤ 99) (yD : ∀ k : Nat, k = 4 → 1 ≤ Int32.toInt (pJ k) ∧ Int32.toInt (pJ k) ≤ 30) (xZ : ∀ k : Nat, k = 3 → 0 ≤ Int32.toInt (pJ k) ∧ Int32.toInt (pJ k) ≤ 9) (zG : ∀ k : Nat, -128 ≤ Int32.toInt (qO k) ∧ Int32.toInt (qO k) ≤ 127) (zI : ∀ k : Nat, -128 ≤ Int32.toInt (qQ k) ∧ Int32.toInt (qQ k) ≤ 127) (hc0 : -1 ≤ SB ∧ SB ≤ 7) (hc1 : (Int32.toInt aG ≤ 0 ∧ SB = 0) ∨ (1 ≤ Int32.toInt aG ∧ SB = Int32.toInt aG - 1)) (hpost : ∀ (r : Int32) (xG : Int32) (aAP : Nat) (zS : Int32) (aAz : Int32) (aAm : Int32) (zH : Int32) (aAM : Int32) (zP : Int32) (yO : Int32) (zZ : Int32) (zO : Int32), (-2 ≤ Int32.toInt r ∧ Int32.toInt r ≤ 99) → (0 ≤ Int32.toInt xG ∧ Int32.toInt xG ≤ 0) → (aAP = 0 ∨ aAP = 1 ∨ aAP = 2) → (0 ≤ Int32.toInt zS ∧ Int32.toInt zS ≤ 80) → (0 ≤ Int32.toInt aAz ∧ Int32.toInt aAz ≤ 80) → (0 ≤ Int32.toInt aAm ∧ Int32.toInt aAm ≤ 80) → (-1 ≤ Int32.toInt zH ∧ Int32.toInt zH ≤ 80) → (0 ≤ Int32.toInt aAM ∧ Int32.toInt aAM ≤ 0) → (0 ≤ Int32.toInt zP ∧ Int32.toInt zP ≤ 15) → (0 ≤ Int32.toInt yO ∧ Int32.toInt yO ≤ 7) → (0 ≤ Int32.toInt zZ ∧ Int32.toInt zZ ≤ 1) → (0 ≤ Int32.toInt zO ∧ Int32.toInt zO ≤ 63) → post r xG aAP zS aAz aAm zH aAM zP yO zZ zO) : wp_X10_seconds post p0 p1 p2 bT aG bY jD m_length oF rP dQ bW bZ aR aE bI aW qG m_x gR pW nG oO pJ qO qQ := by
  have l0 := aI2
  have l1 := li_m2
  have l2 := aE0
  have l3 := aEc
  have l4 := li_18
  have l5 := li_2
  intro v1 ev1
  have f2 : Int32.toInt (bT - 1) = Int32.toInt bT - Int32.toInt (1 : Int32) := aCA _ _ (by omega)
  rw [← ev1] at f2
  have f4 := aAT p0
  refine And.intro (fun c3 => ?_) (fun c3 => ?_)
  · skip
    have c3 := (aAd _ _).mp c3
    refine And.intro (aHE (by omega)) ?_
    refine And.intro (fun _ => ?_) (fun h9 => absurd h9 (by decide))
    exact hpost _ _ _ _ _ _ _ _ _ _ _ _ (by omega) (by omega) yM zE aAR aA1 aAA zT yL xQ yY yK
  · skip
    have c3 := mt (aAd _ _).mpr c3
    refine And.intro (fun c5 => ?_) (fun c5 => ?_)
    · skip
      have c5 := (aAd _ _).mp c5
      refine And.intro (aHE (by omega)) ?_
      refine And.intro (fun _ => ?_) (fun h9 => absurd h9 (by decide))
      exact hpost _ _ _ _ _ _ _ _ _ _ _ _ (by omega) (by omega) yM zE aAR aA1 aAA zT yL xQ yY yK
    · skip
      have c5 := mt (aAd _ _).mpr c5
      refine And.intro (aHE (by omega)) ?_
      refine And.intro (fun h9 => absurd h9 (by decide)) (fun _ => ?_)
      intro v6 ev6
      have f7 : Int32.toInt (aG - 1) = Int32.toInt aG - Int32.toInt (1 : Int32) := aCA _ _ (by omega)
      rw [← ev6] at f7
      have f9 := aAT p1
      refine And.intro (fun c8 => ?_) (fun c8 => ?_)
      · skip
        have c8 := (aAd _ _).mp c8
        refine And.intro (aHE (by omega)) ?_
        refine And.intro (fun _ => ?_) (fun h9 => absurd h9 (by decide))
        exact hpost _ _ _ _ _ _ _ _ _ _ _ _ (by omega) (by omega) yM zE aAR aA1 aAA zT yL xQ yY yK
      · skip
        have c8 := mt (aAd _ _).mpr c8
        refine And.intro (fun c10 => ?_) (fun c10 => ?_)
        · skip
          have c10 := (aAd _ _).mp c10
          refine And.intro (aHE (by omega)) ?_
          refine And.intro (fun _ => ?_) (fun h9 => absurd h9 (by decide))
          exact hpost _ _ _ _ _ _ _ _ _ _ _ _ (by omega) (by omega) yM zE aAR aA1 aAA zT yL xQ yY yK
        · skip
          have c10 := mt (aAd _ _).mpr c10
          refine And.intro (aHE (by omega)) ?_
          refine And.intro (fun h9 => absurd h9 (by decide)) (fun _ => ?_)
          have f12 := aAT p2
          refine And.intro (fun c11 => ?_) (fun c11 => ?_)
          · skip
            have c11 := (aAd _ _).mp c11
            refine And.intro (fun h9 => absurd h9 (by decide)) (fun _ => ?_)
            exact hpost _ _ _ _ _ _ _ _ _ _ _ _ (by omega) (by omega) yM zE aAR aA1 aAA zT yL xQ yY yK
          · skip
            have c11 := mt (aAd _ _).mpr c11
            refine And.intro (fun c13 => ?_) (fun c13 => ?_)
            · skip
              have c13 := (aAd _ _).mp c13
              refine And.intro (fun h9 => absurd h9 (by decide)) (fun _ => ?_)
              exact hpost _ _ _ _ _ _ _ _ _ _ _ _ (by omega) (by omega) yM zE aAR aA1 aAA zT yL xQ yY yK
            · skip
              have c13 := mt (aAd _ _).mpr c13
              refine And.intro (fun _ => ?_) (fun h9 => absurd h9 (by decide))
              intro v14 ev14
              have hv14 := congrArg Int32.toInt ev14
              intro v16 ev16
              have hv16 := congrArg Int32.toInt ev16
              intro v18 ev18
              have hv18 := congrArg Int32.toInt ev18
              refine And.intro (aBZ (by omega)) ?_
              intro v20 ev20
              have f21 := aAW p0.toNatClampNeg
              have hv20 := congrArg Int32.toInt ev20
              refine And.intro (aBZ (by omega)) ?_
              intro v22 ev22
              have f24 := xT p1.toNatClampNeg
              have f23 : Int32.toInt (v20 - (nG p1.toNatClampNeg)) = Int32.toInt v20 - Int32.toInt (nG p1.toNatClampNeg) := aCA _ _ (by omega)
              rw [← ev22] at f23
              intro v25 ev25
              have f26 := ti_abs v22 (by omega)
              have hv25 := congrArg Int32.toInt ev25
              refine And.intro (aBZ (by omega)) ?_
              intro v27 ev27
              have hv27 := congrArg Int32.toInt ev27
              refine And.intro (aBZ (by omega)) ?_
              intro v28 ev28
              have f29 : Int32.toInt (v27 - (nG p1.toNatClampNeg)) = Int32.toInt v27 - Int32.toInt (nG p1.toNatClampNeg) := aCA _ _ (by omega)
              rw [← ev28] at f29
              intro v30 ev30
              have f31 := ti_abs v28 (by omega)
              have hv30 := congrArg Int32.toInt ev30
              intro v32 ev32
              have hv32 := congrArg Int32.toInt ev32
              refine And.intro (aBZ (by omega)) ?_
              intro v34 ev34
              have f35 := xK p0.toNatClampNeg
              have hv34 := congrArg Int32.toInt ev34
              refine And.intro (aBZ (by omega)) ?_
              intro v36 ev36
              have f38 := yF p1.toNatClampNeg
              have f37 : Int32.toInt (v34 - (oO p1.toNatClampNeg)) = Int32.toInt v34 - Int32.toInt (oO p1.toNatClampNeg) := aCA _ _ (by omega)
              rw [← ev36] at f37
              intro v39 ev39
              have f40 := ti_max (0 : Int32) v36
              have hv39 := congrArg Int32.toInt ev39
              refine And.intro (aBZ (by omega)) ?_
              intro v41 ev41
              have hv41 := congrArg Int32.toInt ev41
              refine And.intro (aBZ (by omega)) ?_
              intro v42 ev42
              have f43 : Int32.toInt (v41 - (oO p1.toNatClampNeg)) = Int32.toInt v41 - Int32.toInt (oO p1.toNatClampNeg) := aCA _ _ (by omega)
              rw [← ev42] at f43
              intro v44 ev44
              have f45 := ti_max (0 : Int32) v42
              have hv44 := congrArg Int32.toInt ev44
              intro v46 ev46
              have hv46 := congrArg Int32.toInt ev46
              have f49 := aAT v46
              refine And.intro (fun c48 => ?_) (fun c48 => ?_)
              · skip
                have c48 := (aAd _ _).mp c48
                refine And.intro (fun _ => ?_) (fun h9 => absurd h9 (by decide))
                exact hpost _ _ _ _ _ _ _ _ _ _ _ _ (by omega) (by omega) yM zE aAR aA1 aAA zT yL xQ yY yK
              · skip
                have c48 := mt (aAd _ _).mpr c48
                refine And.intro (fun h9 => absurd h9 (by decide)) (fun _ => ?_)
                refine t_X10_secondsOf (by omega) (by omega) (by omega) (by omega) yM zE aAR aA1 aAA zQ zT yL xQ yY yK aAW xK yR xT yF zG zI (fun r61 m_read_51 m_length_52 m_top_53 m_at_54 m_wrong_55 m_isAsked_56 m_askedFruit_57 m_askedStanding_58 m_askedHook_59 m_askedApron_60 h_r61 h_m_read_51 h_m_length_52 h_m_top_53 h_m_at_54 h_m_wrong_55 h_m_isAsked_56 h_m_askedFruit_57 h_m_askedStanding_58 h_m_askedHook_59 h_m_askedApron_60 => ?_)
                exact hpost _ _ _ _ _ _ _ _ _ _ _ _ (by omega) (by omega) h_m_read_51 h_m_length_52 h_m_top_53 h_m_at_54 h_m_wrong_55 h_m_isAsked_56 h_m_askedFruit_57 h_m_askedStanding_58 h_m_askedHook_59 h_m_askedApron_60
set_option maxHeartbeats 8000000 in
set_option maxRecDepth 200000 in
theorem ts_X10_handOf_31 {post : Int32 → Prop} {K4 : Int32 → Int32 → Int32 → Prop} {n4 : Int} (aG : Int32) (sH : Nat → Int32) (vZ : 0 ≤ Int32.toInt aG ∧ Int32.toInt aG ≤ 8) (zY : ∀ k : Nat, 0 ≤ Int32.toInt (sH k) ∧ Int32.toInt (sH k) ≤ 65535) (hpost : ∀ (r : Int32) , (0 ≤ Int32.toInt r ∧ Int32.toInt r ≤ 65535) → post r) (hK4 : ∀ (x1 : Int32) (x2 : Int32) (x3 : Int32), (0 ≤ Int32.toInt x1 ∧ Int32.toInt x1 ≤ 255) → (0 ≤ Int32.toInt x2 ∧ Int32.toInt x2 ≤ 65535) → (0 ≤ Int32.toInt x3 ∧ Int32.toInt x3 ≤ 8) → (8 - Int32.toInt x3 < n4) → K4 x1 x2 x3) (x1 x3 k0 k1 : Int32) (aBK : 0 ≤ Int32.toInt x1 ∧ Int32.toInt x1 ≤ 255) (aCH : 0 ≤ Int32.toInt x3 ∧ Int32.toInt x3 ≤ 7) (h_k0 : 0 ≤ Int32.toInt k0 ∧ Int32.toInt k0 ≤ 65535) (h_k1 : 0 ≤ Int32.toInt k1 ∧ Int32.toInt k1 ≤ 65535) (hn4 : 8 - Int32.toInt x3 ≤ n4) : ws_X10_handOf_31 post K4 aG sH x1 x3 k0 k1 := by
  have l0 := aEc
  intro v1 ev1
  have f2 := ti_or 16 65536 k0 k1 (by decide) (by omega) (by omega)
  have hv1 := congrArg Int32.toInt ev1
  intro v3 ev3
  have f4 : Int32.toInt (x3 + 1) = Int32.toInt x3 + Int32.toInt (1 : Int32) := aAD _ _ (by omega)
  rw [← ev3] at f4
  exact hK4 x1 v1 v3 aBK (by omega) (by omega) (by omega)
set_option maxHeartbeats 8000000 in
set_option maxRecDepth 200000 in
theorem ts_X10_handOf_4 {post : Int32 → Prop} {next : Int32 → Int32 → Int32 → Prop} {n4 : Int} (aG : Int32) (sH : Nat → Int32) (vZ : 0 ≤ Int32.toInt aG ∧ Int32.toInt aG ≤ 8) (zY : ∀ k : Nat, 0 ≤ Int32.toInt (sH k) ∧ Int32.toInt (sH k) ≤ 65535) (hpost : ∀ (r : Int32) , (0 ≤ Int32.toInt r ∧ Int32.toInt r ≤ 65535) → post r) (hKn : ∀ (x1 : Int32) (x2 : Int32) (x3 : Int32), (0 ≤ Int32.toInt x1 ∧ Int32.toInt x1 ≤ 255) → (0 ≤ Int32.toInt x2 ∧ Int32.toInt x2 ≤ 65535) → (0 ≤ Int32.toInt x3 ∧ Int32.toInt x3 ≤ 8) → (8 - Int32.toInt x3 < n4) → next x1 x2 x3) (x1 x2 x3 : Int32) (aBK : 0 ≤ Int32.toInt x1 ∧ Int32.toInt x1 ≤ 255) (aBN : 0 ≤ Int32.toInt x2 ∧ Int32.toInt x2 ≤ 65535) (aCH : 0 ≤ Int32.toInt x3 ∧ Int32.toInt x3 ≤ 8) (hn4 : 8 - Int32.toInt x3 ≤ n4) : ws_X10_handOf_4 post next aG sH x1 x2 x3 := by
  have l0 := aE0
  have l1 := aEc
  refine And.intro (fun c5 => ?_) (fun c5 => ?_)
  · skip
    have c5 := (aAO _ _).mp c5
    exact hpost _ aBN
  · skip
    have c5 := mt (aAO _ _).mpr c5
    intro v6 ev6
    have f7 := aRJ x1 x3 (by omega)
    have hv6 := congrArg Int32.toInt ev6
    intro v8 ev8
    have f9 := aAQ v6 1 (by omega)
    have f10 := aBx v6 1 (by omega)
    have hv8 := congrArg Int32.toInt ev8
    refine And.intro (fun c11 => ?_) (fun c11 => ?_)
    · skip
      have c11 := mt (zJ _ _).mpr c11
      refine And.intro (fun _ => ?_) (fun h9 => absurd h9 (by decide))
      exact ts_X10_handOf_31 aG sH vZ zY hpost hKn x1 x3 x2 0 aBK (by omega) aBN (by omega) hn4
    · skip
      have c11 := (zJ _ _).mp c11
      refine And.intro (fun h9 => absurd h9 (by decide)) (fun _ => ?_)
      refine And.intro (aBZ (by omega)) ?_
      intro v12 ev12
      have f13 := zY x3.toNatClampNeg
      have hv12 := congrArg Int32.toInt ev12
      exact ts_X10_handOf_31 aG sH vZ zY hpost hKn x1 x3 x2 v12 aBK (by omega) aBN (by omega) hn4
set_option maxHeartbeats 8000000 in
set_option maxRecDepth 200000 in
theorem tb_X10_handOf_4 {post : Int32 → Prop} (aG : Int32) (sH : Nat → Int32) (vZ : 0 ≤ Int32.toInt aG ∧ Int32.toInt aG ≤ 8) (zY : ∀ k : Nat, 0 ≤ Int32.toInt (sH k) ∧ Int32.toInt (sH k) ≤ 65535) (hpost : ∀ (r : Int32) , (0 ≤ Int32.toInt r ∧ Int32.toInt r ≤ 65535) → post r) : ∀ (n : Nat) (x1 x2 x3 : Int32), (0 ≤ Int32.toInt x1 ∧ Int32.toInt x1 ≤ 255) → (0 ≤ Int32.toInt x2 ∧ Int32.toInt x2 ≤ 65535) → (0 ≤ Int32.toInt x3 ∧ Int32.toInt x3 ≤ 8) → (8 - Int32.toInt x3 < (n : Int)) → wb_X10_handOf_4 post aG sH n x1 x2 x3 := by
  intro n
  induction n with
  | zero =>
    intro x1 x2 x3 aBK aBN aCH hm
    exfalso; omega
  | succ n ih =>
    intro x1 x2 x3 aBK aBN aCH hm
    exact ts_X10_handOf_4 aG sH vZ zY hpost ih x1 x2 x3 aBK aBN aCH (by omega)
set_option maxHeartbeats 8000000 in
set_option maxRecDepth 200000 in
theorem aSL {post : Int32 → Prop} {p0 aG : Int32} {sH : Nat → Int32} (h_p0 : 0 ≤ Int32.toInt p0 ∧ Int32.toInt p0 ≤ 255) (vZ : 0 ≤ Int32.toInt aG ∧ Int32.toInt aG ≤ 8) (zY : ∀ k : Nat, 0 ≤ Int32.toInt (sH k) ∧ Int32.toInt (sH k) ≤ 65535) (hpost : ∀ (r : Int32) , (0 ≤ Int32.toInt r ∧ Int32.toInt r ≤ 65535) → post r) : aRt post p0 aG sH := by
  have l0 := aE0
  exact ⟨10, tb_X10_handOf_4 aG sH vZ zY hpost _ p0 0 0 h_p0 (by omega) (by omega) (by omega)⟩
set_option maxHeartbeats 8000000 in
set_option maxRecDepth 200000 in
theorem ts_X10_layHands__2 {post : Int32 → (Nat → Int32) → Prop} {SB : Int} {next : Int32 → Int32 → Int32 → (Nat → Int32) → Prop} {n2 : Int} (bT aG : Int32) (qG m_x gR qR nG oO pJ : Nat → Int32) (xJ : 0 ≤ Int32.toInt bT ∧ Int32.toInt bT ≤ 16) (vZ : 0 ≤ Int32.toInt aG ∧ Int32.toInt aG ≤ 8) (xU : ∀ k : Nat, k = 17 → -1 ≤ Int32.toInt (qG k) ∧ Int32.toInt (qG k) ≤ SB) (xV : ∀ k : Nat, k = 19 → 0 ≤ Int32.toInt (qG k) ∧ Int32.toInt (qG k) ≤ 9) (aAW : ∀ k : Nat, 0 ≤ Int32.toInt (m_x k) ∧ Int32.toInt (m_x k) ≤ 99) (xK : ∀ k : Nat, 0 ≤ Int32.toInt (gR k) ∧ Int32.toInt (gR k) ≤ 99) (zM : ∀ k : Nat, 0 ≤ Int32.toInt (qR k) ∧ Int32.toInt (qR k) ≤ 9) (xT : ∀ k : Nat, 0 ≤ Int32.toInt (nG k) ∧ Int32.toInt (nG k) ≤ 99) (yF : ∀ k : Nat, 0 ≤ Int32.toInt (oO k) ∧ Int32.toInt (oO k) ≤ 99) (yD : ∀ k : Nat, k = 4 → 1 ≤ Int32.toInt (pJ k) ∧ Int32.toInt (pJ k) ≤ 30) (xZ : ∀ k : Nat, k = 3 → 0 ≤ Int32.toInt (pJ k) ∧ Int32.toInt (pJ k) ≤ 9) (hc0 : -1 ≤ SB ∧ SB ≤ 7) (hc1 : (Int32.toInt aG ≤ 0 ∧ SB = 0) ∨ (1 ≤ Int32.toInt aG ∧ SB = Int32.toInt aG - 1)) (hpost : ∀ (aAS : Int32) (aA5 : Nat → Int32), (0 ≤ Int32.toInt aAS ∧ Int32.toInt aAS ≤ 65535) → (∀ k : Nat, 0 ≤ Int32.toInt (aA5 k) ∧ Int32.toInt (aA5 k) ≤ 65535) → post aAS aA5) (hKn : ∀ (x1 : Int32) (x2 : Int32) (dO : Int32) (sH : Nat → Int32), (0 ≤ Int32.toInt x2 ∧ Int32.toInt x2 ≤ 8) → (0 ≤ Int32.toInt dO ∧ Int32.toInt dO ≤ 65535) → (∀ k : Nat, 0 ≤ Int32.toInt (sH k) ∧ Int32.toInt (sH k) ≤ 65535) → (8 - Int32.toInt x2 < n2) → next x1 x2 dO sH) (x1 x2 dO : Int32) (sH : Nat → Int32) (aBN : 0 ≤ Int32.toInt x2 ∧ Int32.toInt x2 ≤ 8) (aAH : 0 ≤ Int32.toInt dO ∧ Int32.toInt dO ≤ 65535) (zY : ∀ k : Nat, 0 ≤ Int32.toInt (sH k) ∧ Int32.toInt (sH k) ≤ 65535) (hn2 : 8 - Int32.toInt x2 ≤ n2) : ws_X10_layHands__2 post next bT aG qG m_x gR qR nG oO pJ x1 x2 dO sH := by
  have l0 := aE0
  have l1 := aEc
  have l2 := li_19
  refine And.intro (fun c1 => ?_) (fun c1 => ?_)
  · skip
    have c1 := (aAO _ _).mp c1
    refine aKO (by omega) xJ xU xV (by omega) (fun r2 h_r2 ox3 => ?_)
    have q4 := xV (19 : Int32).toNatClampNeg (by have e9 : (19 : Int32).toNatClampNeg = (Int32.toInt (19 : Int32)).toNat := rfl; omega)
    intro v5 ev5
    have hv5 := congrArg Int32.toInt ev5
    refine aXh (by omega) xJ zM (fun r7 h_r7 ox8 => ?_)
    intro v9 ev9
    have f10 := aAQ r2 r7 (by omega)
    have f11 := aBx r2 r7 (by omega)
    have hv9 := congrArg Int32.toInt ev9
    intro v12 ev12
    have f13 := aDv 8 256 aG (by decide) (by omega)
    have hv12 := congrArg Int32.toInt ev12
    have f15 : Int32.toInt (v12 - 1) = Int32.toInt v12 - Int32.toInt (1 : Int32) := aCA _ _ (by omega)
    refine aSL (by omega) vZ zY (fun r14 h_r14 => ?_)
    intro v16 ev16
    have f17 := aAQ v9 r14 (by omega)
    have f18 := aBx v9 r14 (by omega)
    have hv16 := congrArg Int32.toInt ev16
    exact hpost _ _ (by omega) zY
  · skip
    have c1 := mt (aAO _ _).mpr c1
    refine aX7 (by omega) (by omega) xJ aAW xK xT yF yD xZ (fun r19 h_r19 => ?_)
    refine And.intro (aBZ (by omega)) ?_
    have a20 : ∀ k : Nat, 0 ≤ Int32.toInt ((upd sH x2.toNatClampNeg r19) k) ∧ Int32.toInt ((upd sH x2.toNatClampNeg r19) k) ≤ 65535 := t_upd (fun k => by have q9 := zY k; omega) (by omega)
    intro v21 ev21
    have f22 : Int32.toInt (x2 + 1) = Int32.toInt x2 + Int32.toInt (1 : Int32) := aAD _ _ (by omega)
    rw [← ev21] at f22
    have f23 := aAT x1
    exact hKn x1 v21 dO (upd sH x2.toNatClampNeg r19) (by omega) aAH (fun k => by have q9 := a20 k; omega) (by omega)
set_option maxHeartbeats 8000000 in
set_option maxRecDepth 200000 in
theorem tb_X10_layHands__2 {post : Int32 → (Nat → Int32) → Prop} {SB : Int} (bT aG : Int32) (qG m_x gR qR nG oO pJ : Nat → Int32) (xJ : 0 ≤ Int32.toInt bT ∧ Int32.toInt bT ≤ 16) (vZ : 0 ≤ Int32.toInt aG ∧ Int32.toInt aG ≤ 8) (xU : ∀ k : Nat, k = 17 → -1 ≤ Int32.toInt (qG k) ∧ Int32.toInt (qG k) ≤ SB) (xV : ∀ k : Nat, k = 19 → 0 ≤ Int32.toInt (qG k) ∧ Int32.toInt (qG k) ≤ 9) (aAW : ∀ k : Nat, 0 ≤ Int32.toInt (m_x k) ∧ Int32.toInt (m_x k) ≤ 99) (xK : ∀ k : Nat, 0 ≤ Int32.toInt (gR k) ∧ Int32.toInt (gR k) ≤ 99) (zM : ∀ k : Nat, 0 ≤ Int32.toInt (qR k) ∧ Int32.toInt (qR k) ≤ 9) (xT : ∀ k : Nat, 0 ≤ Int32.toInt (nG k) ∧ Int32.toInt (nG k) ≤ 99) (yF : ∀ k : Nat, 0 ≤ Int32.toInt (oO k) ∧ Int32.toInt (oO k) ≤ 99) (yD : ∀ k : Nat, k = 4 → 1 ≤ Int32.toInt (pJ k) ∧ Int32.toInt (pJ k) ≤ 30) (xZ : ∀ k : Nat, k = 3 → 0 ≤ Int32.toInt (pJ k) ∧ Int32.toInt (pJ k) ≤ 9) (hc0 : -1 ≤ SB ∧ SB ≤ 7) (hc1 : (Int32.toInt aG ≤ 0 ∧ SB = 0) ∨ (1 ≤ Int32.toInt aG ∧ SB = Int32.toInt aG - 1)) (hpost : ∀ (aAS : Int32) (aA5 : Nat → Int32), (0 ≤ Int32.toInt aAS ∧ Int32.toInt aAS ≤ 65535) → (∀ k : Nat, 0 ≤ Int32.toInt (aA5 k) ∧ Int32.toInt (aA5 k) ≤ 65535) → post aAS aA5) : ∀ (n : Nat) (x1 x2 dO : Int32) (sH : Nat → Int32), (0 ≤ Int32.toInt x2 ∧ Int32.toInt x2 ≤ 8) → (0 ≤ Int32.toInt dO ∧ Int32.toInt dO ≤ 65535) → (∀ k : Nat, 0 ≤ Int32.toInt (sH k) ∧ Int32.toInt (sH k) ≤ 65535) → (8 - Int32.toInt x2 < (n : Int)) → wb_X10_layHands__2 post bT aG qG m_x gR qR nG oO pJ n x1 x2 dO sH := by
  intro n
  induction n with
  | zero =>
    intro x1 x2 dO sH aBN aAH zY hm
    exfalso; omega
  | succ n ih =>
    intro x1 x2 dO sH aBN aAH zY hm
    exact ts_X10_layHands__2 bT aG qG m_x gR qR nG oO pJ xJ vZ xU xV aAW xK zM xT yF yD xZ hc0 hc1 hpost ih x1 x2 dO sH aBN aAH zY (by omega)
set_option maxHeartbeats 8000000 in
set_option maxRecDepth 200000 in
theorem aLb {post : Int32 → (Nat → Int32) → Prop} {SB : Int} {p0 bT aG dO : Int32} {qG m_x gR qR nG oO pJ sH : Nat → Int32} (xJ : 0 ≤ Int32.toInt bT ∧ Int32.toInt bT ≤ 16) (vZ : 0 ≤ Int32.toInt aG ∧ Int32.toInt aG ≤ 8) (aAH : 0 ≤ Int32.toInt dO ∧ Int32.toInt dO ≤ 65535) (xU : ∀ k : Nat, k = 17 → -1 ≤ Int32.toInt (qG k) ∧ Int32.toInt (qG k) ≤ SB) (xV : ∀ k : Nat, k = 19 → 0 ≤ Int32.toInt (qG k) ∧ Int32.toInt (qG k) ≤ 9) (aAW : ∀ k : Nat, 0 ≤ Int32.toInt (m_x k) ∧ Int32.toInt (m_x k) ≤ 99) (xK : ∀ k : Nat, 0 ≤ Int32.toInt (gR k) ∧ Int32.toInt (gR k) ≤ 99) (zM : ∀ k : Nat, 0 ≤ Int32.toInt (qR k) ∧ Int32.toInt (qR k) ≤ 9) (xT : ∀ k : Nat, 0 ≤ Int32.toInt (nG k) ∧ Int32.toInt (nG k) ≤ 99) (yF : ∀ k : Nat, 0 ≤ Int32.toInt (oO k) ∧ Int32.toInt (oO k) ≤ 99) (yD : ∀ k : Nat, k = 4 → 1 ≤ Int32.toInt (pJ k) ∧ Int32.toInt (pJ k) ≤ 30) (xZ : ∀ k : Nat, k = 3 → 0 ≤ Int32.toInt (pJ k) ∧ Int32.toInt (pJ k) ≤ 9) (zY : ∀ k : Nat, 0 ≤ Int32.toInt (sH k) ∧ Int32.toInt (sH k) ≤ 65535) (hc0 : -1 ≤ SB ∧ SB ≤ 7) (hc1 : (Int32.toInt aG ≤ 0 ∧ SB = 0) ∨ (1 ≤ Int32.toInt aG ∧ SB = Int32.toInt aG - 1)) (hpost : ∀ (aAS : Int32) (aA5 : Nat → Int32), (0 ≤ Int32.toInt aAS ∧ Int32.toInt aAS ≤ 65535) → (∀ k : Nat, 0 ≤ Int32.toInt (aA5 k) ∧ Int32.toInt (aA5 k) ≤ 65535) → post aAS aA5) : wp_X10_layHands_ post p0 bT aG dO qG m_x gR qR nG oO pJ sH := by
  have l0 := aE0
  have f24 := aAT p0
  exact ⟨10, tb_X10_layHands__2 bT aG qG m_x gR qR nG oO pJ xJ vZ xU xV aAW xK zM xT yF yD xZ hc0 hc1 hpost _ p0 0 dO sH (by omega) aAH zY (by omega)⟩
