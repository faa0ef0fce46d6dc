set_option maxHeartbeats 8000000 in
set_option maxRecDepth 200000 in
theorem t_X10_leaned {post : Int32 → Int32 → Prop} {p0 p1 bT aG bY : Int32} {m_x gR nG oO pJ : Nat → Int32} (xJ : 0 ≤ Int32.toInt bT ∧ Int32.toInt bT ≤ 16) (vZ : 0 ≤ Int32.toInt aG ∧ Int32.toInt aG ≤ 8) (yG : 0 ≤ Int32.toInt bY ∧ Int32.toInt bY ≤ 1) (aAW : ∀ k : Nat, 0 ≤ Int32.toInt (m_x k) ∧ Int32.toInt (m_x k) ≤ 99) (xK : ∀ k : Nat, 0 ≤ Int32.toInt (gR k) ∧ Int32.toInt (gR k) ≤ 99) (xT : ∀ k : Nat, 0 ≤ Int32.toInt (nG k) ∧ Int32.toInt (nG k) ≤ 99) (yF : ∀ k : Nat, 0 ≤ Int32.toInt (oO k) ∧ Int32.toInt (oO k) ≤ 99) (yD : ∀ k : Nat, k = 4 → 1 ≤ Int32.toInt (pJ k) ∧ Int32.toInt (pJ k) ≤ 30) (xZ : ∀ k : Nat, k = 3 → 0 ≤ Int32.toInt (pJ k) ∧ Int32.toInt (pJ k) ≤ 9) (hpost : ∀ (r : Int32) (xG : Int32), (-2 ≤ Int32.toInt r ∧ Int32.toInt r ≤ 30) → (0 ≤ Int32.toInt xG ∧ Int32.toInt xG ≤ 0) → post r xG) : wp_X10_leaned post p0 p1 bT aG bY m_x gR nG oO pJ := by
  have l0 := aI2
  have l1 := li_m2
  have l2 := aE0
  have l3 := aEc
  have l4 := li_30
  intro v1 ev1
  have f2 : Int32.toInt (bT - 1) = Int32.toInt bT - Int32.toInt (1 : Int32) := aCA _ _ (by omega)
  rw [← ev1] at f2
  have f4 := aAT p0
  refine And.intro (fun c3 => ?_) (fun c3 => ?_)
  · skip
    have c3 := (aAd _ _).mp c3
    refine And.intro (aHE (by omega)) ?_
    refine And.intro (fun _ => ?_) (fun h9 => absurd h9 (by decide))
    exact hpost _ _ (by omega) (by omega)
  · skip
    have c3 := mt (aAd _ _).mpr c3
    refine And.intro (fun c5 => ?_) (fun c5 => ?_)
    · skip
      have c5 := (aAd _ _).mp c5
      refine And.intro (aHE (by omega)) ?_
      refine And.intro (fun _ => ?_) (fun h9 => absurd h9 (by decide))
      exact hpost _ _ (by omega) (by omega)
    · skip
      have c5 := mt (aAd _ _).mpr c5
      refine And.intro (aHE (by omega)) ?_
      refine And.intro (fun h9 => absurd h9 (by decide)) (fun _ => ?_)
      intro v6 ev6
      have f7 : Int32.toInt (aG - 1) = Int32.toInt aG - Int32.toInt (1 : Int32) := aCA _ _ (by omega)
      rw [← ev6] at f7
      have f9 := aAT p1
      refine And.intro (fun c8 => ?_) (fun c8 => ?_)
      · skip
        have c8 := (aAd _ _).mp c8
        refine And.intro (aHE (by omega)) ?_
        refine And.intro (fun h9 => absurd h9 (by decide)) (fun _ => ?_)
        exact hpost _ _ (by omega) (by omega)
      · skip
        have c8 := mt (aAd _ _).mpr c8
        refine And.intro (fun c10 => ?_) (fun c10 => ?_)
        · skip
          have c10 := (aAd _ _).mp c10
          refine And.intro (aHE (by omega)) ?_
          refine And.intro (fun h9 => absurd h9 (by decide)) (fun _ => ?_)
          exact hpost _ _ (by omega) (by omega)
        · skip
          have c10 := mt (aAd _ _).mpr c10
          refine And.intro (aHE (by omega)) ?_
          refine And.intro (fun _ => ?_) (fun h9 => absurd h9 (by decide))
          refine t_X10_leanOf (by omega) (by omega) aAW xK xT yF yD xZ (fun r11 h_r11 => ?_)
          refine And.intro (fun c12 => ?_) (fun c12 => ?_)
          · skip
            have c12 := (aAO _ _).mp c12
            exact hpost _ _ (by omega) (by omega)
          · skip
            have c12 := mt (aAO _ _).mpr c12
            exact hpost _ _ (by omega) (by omega)
set_option maxHeartbeats 8000000 in
set_option maxRecDepth 200000 in
theorem ts_X10_autumn_129 {post : Int32 → Int32 → Int32 → Int32 → (Nat → Int32) → Prop} {SB : Int} {K55 : Int32 → Int32 → Int32 → Int32 → Int32 → Int32 → Int32 → Int32 → Int32 → Int32 → (Nat → Int32) → Prop} {K91 : Int32 → Int32 → Int32 → Int32 → Int32 → Int32 → Int32 → Int32 → Int32 → Int32 → Int32 → Int32 → Int32 → (Nat → Int32) → Prop} {n55 n91 : Int} (bT : Int32) (qG pW qR : Nat → Int32) (xJ : 0 ≤ Int32.toInt bT ∧ Int32.toInt bT ≤ 16) (xU : ∀ k : Nat, k = 17 → -1 ≤ Int32.toInt (qG k) ∧ Int32.toInt (qG k) ≤ SB) (xV : ∀ k : Nat, k = 19 → 0 ≤ Int32.toInt (qG k) ∧ Int32.toInt (qG k) ≤ 9) (yR : ∀ k : Nat, 0 ≤ Int32.toInt (pW k) ∧ Int32.toInt (pW k) ≤ 9) (zM : ∀ k : Nat, 0 ≤ Int32.toInt (qR k) ∧ Int32.toInt (qR k) ≤ 9) (hc0 : -1 ≤ SB ∧ SB ≤ 7) (hpost : ∀ (r : Int32) (xM : Int32) (xG : Int32) (m_drawn' : Int32) (aBX : Nat → Int32), (-1 ≤ Int32.toInt r ∧ Int32.toInt r ≤ 63) → (0 ≤ Int32.toInt xM ∧ Int32.toInt xM ≤ 16) → (0 ≤ Int32.toInt xG ∧ Int32.toInt xG ≤ 0) → post r xM xG m_drawn' aBX) (hK55 : ∀ (x2 : Int32) (x3 : Int32) (x4 : Int32) (x5 : Int32) (x6 : Int32) (x7 : Int32) (x8 : Int32) (bL : Int32) (bY : Int32) (jY : Int32) (sW : Nat → Int32), (1 ≤ Int32.toInt x2 ∧ Int32.toInt x2 ≤ 30) → (0 ≤ Int32.toInt x3 ∧ Int32.toInt x3 ≤ 10) → (0 ≤ Int32.toInt x4 ∧ Int32.toInt x4 ≤ 65535) → (0 ≤ Int32.toInt x5 ∧ Int32.toInt x5 ≤ 65535) → (0 ≤ Int32.toInt x6 ∧ Int32.toInt x6 ≤ 63) → (-1 ≤ Int32.toInt x7 ∧ Int32.toInt x7 ≤ 30) → (1 ≤ Int32.toInt x8 ∧ Int32.toInt x8 ≤ 31) → (0 ≤ Int32.toInt bL ∧ Int32.toInt bL ≤ 16) → (0 ≤ Int32.toInt bY ∧ Int32.toInt bY ≤ 0) → (31 - Int32.toInt x8 < n55) → K55 x2 x3 x4 x5 x6 x7 x8 bL bY jY sW) (hK91 : ∀ (x2 : Int32) (x3 : Int32) (x4 : Int32) (x5 : Int32) (x6 : Int32) (x7 : Int32) (x8 : Int32) (x9 : Int32) (x10 : Int32) (x11 : Int32) (bL : Int32) (bY : Int32) (jY : Int32) (sW : Nat → Int32), (1 ≤ Int32.toInt x2 ∧ Int32.toInt x2 ≤ 30) → (0 ≤ Int32.toInt x3 ∧ Int32.toInt x3 ≤ 10) → (0 ≤ Int32.toInt x4 ∧ Int32.toInt x4 ≤ 65535) → (0 ≤ Int32.toInt x5 ∧ Int32.toInt x5 ≤ 65535) → (0 ≤ Int32.toInt x6 ∧ Int32.toInt x6 ≤ 63) → (-1 ≤ Int32.toInt x7 ∧ Int32.toInt x7 ≤ 30) → (1 ≤ Int32.toInt x8 ∧ Int32.toInt x8 ≤ 30) → (0 ≤ Int32.toInt x9 ∧ Int32.toInt x9 ≤ 65535) → (0 ≤ Int32.toInt x10 ∧ Int32.toInt x10 ≤ 65535) → (0 ≤ Int32.toInt x11 ∧ Int32.toInt x11 ≤ 16) → (0 ≤ Int32.toInt bL ∧ Int32.toInt bL ≤ 16) → (0 ≤ Int32.toInt bY ∧ Int32.toInt bY ≤ 0) → (31 - Int32.toInt x8 ≤ n55) → (16 - Int32.toInt x11 < n91) → K91 x2 x3 x4 x5 x6 x7 x8 x9 x10 x11 bL bY jY sW) (x2 x3 x4 x5 x6 x7 x8 x9 x10 x11 bL bY jY : Int32) (sW : Nat → Int32) (aBN : 1 ≤ Int32.toInt x2 ∧ Int32.toInt x2 ≤ 30) (aCH : 0 ≤ Int32.toInt x3 ∧ Int32.toInt x3 ≤ 10) (aDO : 0 ≤ Int32.toInt x4 ∧ Int32.toInt x4 ≤ 65535) (aF7 : 0 ≤ Int32.toInt x5 ∧ Int32.toInt x5 ≤ 65535) (h_x6 : 0 ≤ Int32.toInt x6 ∧ Int32.toInt x6 ≤ 63) (h_x7 : -1 ≤ Int32.toInt x7 ∧ Int32.toInt x7 ≤ 30) (h_x8 : 1 ≤ Int32.toInt x8 ∧ Int32.toInt x8 ≤ 30) (h_x9 : 0 ≤ Int32.toInt x9 ∧ Int32.toInt x9 ≤ 65535) (h_x10 : 0 ≤ Int32.toInt x10 ∧ Int32.toInt x10 ≤ 65535) (h_x11 : 0 ≤ Int32.toInt x11 ∧ Int32.toInt x11 ≤ 15) (yJ : 0 ≤ Int32.toInt bL ∧ Int32.toInt bL ≤ 16) (yG : 0 ≤ Int32.toInt bY ∧ Int32.toInt bY ≤ 0) (hn55 : 31 - Int32.toInt x8 ≤ n55) (hn91 : 16 - Int32.toInt x11 ≤ n91) : ws_X10_autumn_129 post K55 K91 bT qG pW qR x2 x3 x4 x5 x6 x7 x8 x9 x10 x11 bL bY jY sW := by
  have l0 := aEc
  intro v1 ev1
  have f2 : Int32.toInt (x11 + 1) = Int32.toInt x11 + Int32.toInt (1 : Int32) := aAD _ _ (by omega)
  rw [← ev1] at f2
  have f3 := aAT jY
  exact hK91 x2 x3 x4 x5 x6 x7 x8 x9 x10 v1 bL bY jY sW aBN aCH aDO aF7 h_x6 h_x7 h_x8 h_x9 h_x10 (by omega) yJ yG hn55 (by omega)
set_option maxHeartbeats 8000000 in
set_option maxRecDepth 200000 in
theorem ts_X10_autumn_175 {post : Int32 → Int32 → Int32 → Int32 → (Nat → Int32) → Prop} {SB : Int} {K55 : Int32 → Int32 → Int32 → Int32 → Int32 → Int32 → Int32 → Int32 → Int32 → Int32 → (Nat → Int32) → Prop} {n55 : Int} (bT : Int32) (qG pW qR : Nat → Int32) (xJ : 0 ≤ Int32.toInt bT ∧ Int32.toInt bT ≤ 16) (xU : ∀ k : Nat, k = 17 → -1 ≤ Int32.toInt (qG k) ∧ Int32.toInt (qG k) ≤ SB) (xV : ∀ k : Nat, k = 19 → 0 ≤ Int32.toInt (qG k) ∧ Int32.toInt (qG k) ≤ 9) (yR : ∀ k : Nat, 0 ≤ Int32.toInt (pW k) ∧ Int32.toInt (pW k) ≤ 9) (zM : ∀ k : Nat, 0 ≤ Int32.toInt (qR k) ∧ Int32.toInt (qR k) ≤ 9) (hc0 : -1 ≤ SB ∧ SB ≤ 7) (hpost : ∀ (r : Int32) (xM : Int32) (xG : Int32) (m_drawn' : Int32) (aBX : Nat → Int32), (-1 ≤ Int32.toInt r ∧ Int32.toInt r ≤ 63) → (0 ≤ Int32.toInt xM ∧ Int32.toInt xM ≤ 16) → (0 ≤ Int32.toInt xG ∧ Int32.toInt xG ≤ 0) → post r xM xG m_drawn' aBX) (hK55 : ∀ (x2 : Int32) (x3 : Int32) (x4 : Int32) (x5 : Int32) (x6 : Int32) (x7 : Int32) (x8 : Int32) (bL : Int32) (bY : Int32) (jY : Int32) (sW : Nat → Int32), (1 ≤ Int32.toInt x2 ∧ Int32.toInt x2 ≤ 30) → (0 ≤ Int32.toInt x3 ∧ Int32.toInt x3 ≤ 10) → (0 ≤ Int32.toInt x4 ∧ Int32.toInt x4 ≤ 65535) → (0 ≤ Int32.toInt x5 ∧ Int32.toInt x5 ≤ 65535) → (0 ≤ Int32.toInt x6 ∧ Int32.toInt x6 ≤ 63) → (-1 ≤ Int32.toInt x7 ∧ Int32.toInt x7 ≤ 30) → (1 ≤ Int32.toInt x8 ∧ Int32.toInt x8 ≤ 31) → (0 ≤ Int32.toInt bL ∧ Int32.toInt bL ≤ 16) → (0 ≤ Int32.toInt bY ∧ Int32.toInt bY ≤ 0) → (31 - Int32.toInt x8 < n55) → K55 x2 x3 x4 x5 x6 x7 x8 bL bY jY sW) (x2 x3 x4 x5 x6 x7 x8 bL bY jY : Int32) (sW : Nat → Int32) (aBN : 1 ≤ Int32.toInt x2 ∧ Int32.toInt x2 ≤ 30) (aCH : 0 ≤ Int32.toInt x3 ∧ Int32.toInt x3 ≤ 10) (aDO : 0 ≤ Int32.toInt x4 ∧ Int32.toInt x4 ≤ 65535) (aF7 : 0 ≤ Int32.toInt x5 ∧ Int32.toInt x5 ≤ 65535) (h_x6 : 0 ≤ Int32.toInt x6 ∧ Int32.toInt x6 ≤ 63) (h_x7 : -1 ≤ Int32.toInt x7 ∧ Int32.toInt x7 ≤ 30) (h_x8 : 1 ≤ Int32.toInt x8 ∧ Int32.toInt x8 ≤ 30) (yJ : 0 ≤ Int32.toInt bL ∧ Int32.toInt bL ≤ 16) (yG : 0 ≤ Int32.toInt bY ∧ Int32.toInt bY ≤ 0) (hn55 : 31 - Int32.toInt x8 ≤ n55) : ws_X10_autumn_175 post K55 bT qG pW qR x2 x3 x4 x5 x6 x7 x8 bL bY jY sW := by
  have l0 := aEc
  intro v4 ev4
  have f5 : Int32.toInt (x8 + 1) = Int32.toInt x8 + Int32.toInt (1 : Int32) := aAD _ _ (by omega)
  rw [← ev4] at f5
  have f6 := aAT jY
  exact hK55 x2 x3 x4 x5 x6 x7 v4 bL bY jY sW aBN aCH aDO aF7 h_x6 h_x7 (by omega) yJ yG (by omega)
set_option maxHeartbeats 8000000 in
set_option maxRecDepth 200000 in
theorem ts_X10_autumn_91 {post : Int32 → Int32 → Int32 → Int32 → (Nat → Int32) → Prop} {SB : Int} {K55 : Int32 → Int32 → Int32 → Int32 → Int32 → Int32 → Int32 → Int32 → Int32 → Int32 → (Nat → Int32) → Prop} {next : Int32 → Int32 → Int32 → Int32 → Int32 → Int32 → Int32 → Int32 → Int32 → Int32 → Int32 → Int32 → Int32 → (Nat → Int32) → Prop} {n91 n55 : Int} (bT : Int32) (qG pW qR : Nat → Int32) (xJ : 0 ≤ Int32.toInt bT ∧ Int32.toInt bT ≤ 16) (xU : ∀ k : Nat, k = 17 → -1 ≤ Int32.toInt (qG k) ∧ Int32.toInt (qG k) ≤ SB) (xV : ∀ k : Nat, k = 19 → 0 ≤ Int32.toInt (qG k) ∧ Int32.toInt (qG k) ≤ 9) (yR : ∀ k : Nat, 0 ≤ Int32.toInt (pW k) ∧ Int32.toInt (pW k) ≤ 9) (zM : ∀ k : Nat, 0 ≤ Int32.toInt (qR k) ∧ Int32.toInt (qR k) ≤ 9) (hc0 : -1 ≤ SB ∧ SB ≤ 7) (hpost : ∀ (r : Int32) (xM : Int32) (xG : Int32) (m_drawn' : Int32) (aBX : Nat → Int32), (-1 ≤ Int32.toInt r ∧ Int32.toInt r ≤ 63) → (0 ≤ Int32.toInt xM ∧ Int32.toInt xM ≤ 16) → (0 ≤ Int32.toInt xG ∧ Int32.toInt xG ≤ 0) → post r xM xG m_drawn' aBX) (hK55 : ∀ (x2 : Int32) (x3 : Int32) (x4 : Int32) (x5 : Int32) (x6 : Int32) (x7 : Int32) (x8 : Int32) (bL : Int32) (bY : Int32) (jY : Int32) (sW : Nat → Int32), (1 ≤ Int32.toInt x2 ∧ Int32.toInt x2 ≤ 30) → (0 ≤ Int32.toInt x3 ∧ Int32.toInt x3 ≤ 10) → (0 ≤ Int32.toInt x4 ∧ Int32.toInt x4 ≤ 65535) → (0 ≤ Int32.toInt x5 ∧ Int32.toInt x5 ≤ 65535) → (0 ≤ Int32.toInt x6 ∧ Int32.toInt x6 ≤ 63) → (-1 ≤ Int32.toInt x7 ∧ Int32.toInt x7 ≤ 30) → (1 ≤ Int32.toInt x8 ∧ Int32.toInt x8 ≤ 31) → (0 ≤ Int32.toInt bL ∧ Int32.toInt bL ≤ 16) → (0 ≤ Int32.toInt bY ∧ Int32.toInt bY ≤ 0) → (31 - Int32.toInt x8 < n55) → K55 x2 x3 x4 x5 x6 x7 x8 bL bY jY sW) (hKn : ∀ (x2 : Int32) (x3 : Int32) (x4 : Int32) (x5 : Int32) (x6 : Int32) (x7 : Int32) (x8 : Int32) (x9 : Int32) (x10 : Int32) (x11 : Int32) (bL : Int32) (bY : Int32) (jY : Int32) (sW : Nat → Int32), (1 ≤ Int32.toInt x2 ∧ Int32.toInt x2 ≤ 30) → (0 ≤ Int32.toInt x3 ∧ Int32.toInt x3 ≤ 10) → (0 ≤ Int32.toInt x4 ∧ Int32.toInt x4 ≤ 65535) → (0 ≤ Int32.toInt x5 ∧ Int32.toInt x5 ≤ 65535) → (0 ≤ Int32.toInt x6 ∧ Int32.toInt x6 ≤ 63) → (-1 ≤ Int32.toInt x7 ∧ Int32.toInt x7 ≤ 30) → (1 ≤ Int32.toInt x8 ∧ Int32.toInt x8 ≤ 30) → (0 ≤ Int32.toInt x9 ∧ Int32.toInt x9 ≤ 65535) → (0 ≤ Int32.toInt x10 ∧ Int32.toInt x10 ≤ 65535) → (0 ≤ Int32.toInt x11 ∧ Int32.toInt x11 ≤ 16) → (0 ≤ Int32.toInt bL ∧ Int32.toInt bL ≤ 16) → (0 ≤ Int32.toInt bY ∧ Int32.toInt bY ≤ 0) → (31 - Int32.toInt x8 ≤ n55) → (16 - Int32.toInt x11 < n91) → next x2 x3 x4 x5 x6 x7 x8 x9 x10 x11 bL bY jY sW) (x2 x3 x4 x5 x6 x7 x8 x9 x10 x11 bL bY jY : Int32) (sW : Nat → Int32) (aBN : 1 ≤ Int32.toInt x2 ∧ Int32.toInt x2 ≤ 30) (aCH : 0 ≤ Int32.toInt x3 ∧ Int32.toInt x3 ≤ 10) (aDO : 0 ≤ Int32.toInt x4 ∧ Int32.toInt x4 ≤ 65535) (aF7 : 0 ≤ Int32.toInt x5 ∧ Int32.toInt x5 ≤ 65535) (h_x6 : 0 ≤ Int32.toInt x6 ∧ Int32.toInt x6 ≤ 63) (h_x7 : -1 ≤ Int32.toInt x7 ∧ Int32.toInt x7 ≤ 30) (h_x8 : 1 ≤ Int32.toInt x8 ∧ Int32.toInt x8 ≤ 30) (h_x9 : 0 ≤ Int32.toInt x9 ∧ Int32.toInt x9 ≤ 65535) (h_x10 : 0 ≤ Int32.toInt x10 ∧ Int32.toInt x10 ≤ 65535) (h_x11 : 0 ≤ Int32.toInt x11 ∧ Int32.toInt x11 ≤ 16) (yJ : 0 ≤ Int32.toInt bL ∧ Int32.toInt bL ≤ 16) (yG : 0 ≤ Int32.toInt bY ∧ Int32.toInt bY ≤ 0) (hn55 : 31 - Int32.toInt x8 ≤ n55) (hn91 : 16 - Int32.toInt x11 ≤ n91) : ws_X10_autumn_91 post K55 next bT qG pW qR x2 x3 x4 x5 x6 x7 x8 x9 x10 x11 bL bY jY sW := by
  have l0 := aE0
  have l1 := aEc
  have l2 := li_10
  have l3 := aKH
  have l4 := aJ8
  have l5 := li_63
  have l6 := aJ9
  refine And.intro (fun c7 => ?_) (fun c7 => ?_)
  · skip
    have c7 := (aAO _ _).mp c7
    intro v8 ev8
    have f10 := aBx x4 (x10 ^^^ (-1)) (by omega)
    have hv8 := congrArg Int32.toInt ev8
    intro v11 ev11
    have f12 := ti_or 16 65536 x5 x10 (by decide) (by omega) (by omega)
    have hv11 := congrArg Int32.toInt ev11
    intro v13 ev13
    intro v14 ev14
    have f16 := aAQ v13 1431655765 (by omega)
    have f15 : Int32.toInt (x10 - (v13 &&& 1431655765)) = Int32.toInt x10 - Int32.toInt (v13 &&& 1431655765) := aCA _ _ (by omega)
    rw [← ev14] at f15
    intro v17 ev17
    have f18 := aAQ v14 858993459 (by omega)
    have hv17 := congrArg Int32.toInt ev17
    intro v19 ev19
    intro v20 ev20
    have f22 := aAQ v19 858993459 (by omega)
    have f21 : Int32.toInt (v17 + (v19 &&& 858993459)) = Int32.toInt v17 + Int32.toInt (v19 &&& 858993459) := aAD _ _ (by omega)
    rw [← ev20] at f21
    intro v23 ev23
    have hv23 := congrArg Int32.toInt ev23
    intro v25 ev25
    have f26 := aAQ v23 252645135 (by omega)
    have hv25 := congrArg Int32.toInt ev25
    intro v27 ev27
    have hv27 := congrArg Int32.toInt ev27
    intro v29 ev29
    have hv29 := congrArg Int32.toInt ev29
    have f32 := aAQ v29 63 (by omega)
    refine And.intro (fun c31 => ?_) (fun c31 => ?_)
    · skip
      have c31 := (aAd _ _).mp c31
      intro v33 ev33
      intro v34 ev34
      have f36 := aAQ v33 1431655765 (by omega)
      have f35 : Int32.toInt (x10 - (v33 &&& 1431655765)) = Int32.toInt x10 - Int32.toInt (v33 &&& 1431655765) := aCA _ _ (by omega)
      rw [← ev34] at f35
      intro v37 ev37
      have f38 := aAQ v34 858993459 (by omega)
      have hv37 := congrArg Int32.toInt ev37
      intro v39 ev39
      intro v40 ev40
      have f42 := aAQ v39 858993459 (by omega)
      have f41 : Int32.toInt (v37 + (v39 &&& 858993459)) = Int32.toInt v37 + Int32.toInt (v39 &&& 858993459) := aAD _ _ (by omega)
      rw [← ev40] at f41
      intro v43 ev43
      have hv43 := congrArg Int32.toInt ev43
      intro v45 ev45
      have f46 := aAQ v43 252645135 (by omega)
      have hv45 := congrArg Int32.toInt ev45
      intro v47 ev47
      have hv47 := congrArg Int32.toInt ev47
      intro v49 ev49
      have hv49 := congrArg Int32.toInt ev49
      have f51 := aAQ v49 63 (by omega)
      have f52 := aAT jY
      exact ts_X10_autumn_175 bT qG pW qR xJ xU xV yR zM hc0 hpost hK55 x2 x3 v8 v11 (v49 &&& 63) x8 x8 bL bY jY sW aBN aCH (by omega) (by omega) (by omega) (by omega) h_x8 yJ yG hn55
    · skip
      have c31 := mt (aAd _ _).mpr c31
      have f53 := aAT jY
      exact ts_X10_autumn_175 bT qG pW qR xJ xU xV yR zM hc0 hpost hK55 x2 x3 v8 v11 x6 x7 x8 bL bY jY sW aBN aCH (by omega) (by omega) h_x6 h_x7 h_x8 yJ yG hn55
  · skip
    have c7 := mt (aAO _ _).mpr c7
    intro v54 ev54
    have f55 := aRJ x9 x11 (by omega)
    have hv54 := congrArg Int32.toInt ev54
    intro v56 ev56
    have f57 := aAQ v54 1 (by omega)
    have f58 := aBx v54 1 (by omega)
    have hv56 := congrArg Int32.toInt ev56
    refine And.intro (fun c59 => ?_) (fun c59 => ?_)
    · skip
      have c59 := mt (zJ _ _).mpr c59
      refine And.intro (fun _ => ?_) (fun h9 => absurd h9 (by decide))
      have f60 := aAT jY
      exact ts_X10_autumn_129 bT qG pW qR xJ xU xV yR zM hc0 hpost hK55 hKn x2 x3 x4 x5 x6 x7 x8 x9 x10 x11 bL bY jY sW aBN aCH aDO aF7 h_x6 h_x7 h_x8 h_x9 h_x10 (by omega) yJ yG hn55 hn91
    · skip
      have c59 := (zJ _ _).mp c59
      refine And.intro (fun h9 => absurd h9 (by decide)) (fun _ => ?_)
      intro v61 ev61
      have hv61 := congrArg Int32.toInt ev61
      intro v63 ev63
      have hv63 := congrArg Int32.toInt ev63
      intro v65 ev65
      refine And.intro (mt (zJ _ _).mp (by omega)) ?_
      refine And.intro (fun c66 => ?_) (fun c66 => ?_)
      · skip
        have c66 := (aAO _ _).mp c66
        have f68 := aAT v63
        exact ts_X10_autumn_129 bT qG pW qR xJ xU xV yR zM hc0 hpost hK55 hKn x2 x3 x4 x5 x6 x7 x8 x9 x10 x11 bL bY v63 sW aBN aCH aDO aF7 h_x6 h_x7 h_x8 h_x9 h_x10 (by omega) yJ yG hn55 hn91
      · skip
        have c66 := mt (aAO _ _).mpr c66
        intro v69 ev69
        have f71 := aDv 15 32768 x11 (by decide) (by omega)
        have f70 := ti_or 16 65536 x10 (1 <<< (x11 &&& 31)) (by decide) (by omega) (by omega)
        have hv69 := congrArg Int32.toInt ev69
        have f72 := aAT v63
        exact ts_X10_autumn_129 bT qG pW qR xJ xU xV yR zM hc0 hpost hK55 hKn x2 x3 x4 x5 x6 x7 x8 x9 v69 x11 bL bY v63 sW aBN aCH aDO aF7 h_x6 h_x7 h_x8 h_x9 (by omega) (by omega) yJ yG hn55 hn91
set_option maxHeartbeats 8000000 in
set_option maxRecDepth 200000 in
theorem tb_X10_autumn_91 {post : Int32 → Int32 → Int32 → Int32 → (Nat → Int32) → Prop} {SB : Int} {K55 : Int32 → Int32 → Int32 → Int32 → Int32 → Int32 → Int32 → Int32 → Int32 → Int32 → (Nat → Int32) → Prop} {n55 : Int} (bT : Int32) (qG pW qR : Nat → Int32) (xJ : 0 ≤ Int32.toInt bT ∧ Int32.toInt bT ≤ 16) (xU : ∀ k : Nat, k = 17 → -1 ≤ Int32.toInt (qG k) ∧ Int32.toInt (qG k) ≤ SB) (xV : ∀ k : Nat, k = 19 → 0 ≤ Int32.toInt (qG k) ∧ Int32.toInt (qG k) ≤ 9) (yR : ∀ k : Nat, 0 ≤ Int32.toInt (pW k) ∧ Int32.toInt (pW k) ≤ 9) (zM : ∀ k : Nat, 0 ≤ Int32.toInt (qR k) ∧ Int32.toInt (qR k) ≤ 9) (hc0 : -1 ≤ SB ∧ SB ≤ 7) (hpost : ∀ (r : Int32) (xM : Int32) (xG : Int32) (m_drawn' : Int32) (aBX : Nat → Int32), (-1 ≤ Int32.toInt r ∧ Int32.toInt r ≤ 63) → (0 ≤ Int32.toInt xM ∧ Int32.toInt xM ≤ 16) → (0 ≤ Int32.toInt xG ∧ Int32.toInt xG ≤ 0) → post r xM xG m_drawn' aBX) (hK55 : ∀ (x2 : Int32) (x3 : Int32) (x4 : Int32) (x5 : Int32) (x6 : Int32) (x7 : Int32) (x8 : Int32) (bL : Int32) (bY : Int32) (jY : Int32) (sW : Nat → Int32), (1 ≤ Int32.toInt x2 ∧ Int32.toInt x2 ≤ 30) → (0 ≤ Int32.toInt x3 ∧ Int32.toInt x3 ≤ 10) → (0 ≤ Int32.toInt x4 ∧ Int32.toInt x4 ≤ 65535) → (0 ≤ Int32.toInt x5 ∧ Int32.toInt x5 ≤ 65535) → (0 ≤ Int32.toInt x6 ∧ Int32.toInt x6 ≤ 63) → (-1 ≤ Int32.toInt x7 ∧ Int32.toInt x7 ≤ 30) → (1 ≤ Int32.toInt x8 ∧ Int32.toInt x8 ≤ 31) → (0 ≤ Int32.toInt bL ∧ Int32.toInt bL ≤ 16) → (0 ≤ Int32.toInt bY ∧ Int32.toInt bY ≤ 0) → (31 - Int32.toInt x8 < n55) → K55 x2 x3 x4 x5 x6 x7 x8 bL bY jY sW) : ∀ (n : Nat) (x2 x3 x4 x5 x6 x7 x8 x9 x10 x11 bL bY jY : Int32) (sW : Nat → Int32), (1 ≤ Int32.toInt x2 ∧ Int32.toInt x2 ≤ 30) → (0 ≤ Int32.toInt x3 ∧ Int32.toInt x3 ≤ 10) → (0 ≤ Int32.toInt x4 ∧ Int32.toInt x4 ≤ 65535) → (0 ≤ Int32.toInt x5 ∧ Int32.toInt x5 ≤ 65535) → (0 ≤ Int32.toInt x6 ∧ Int32.toInt x6 ≤ 63) → (-1 ≤ Int32.toInt x7 ∧ Int32.toInt x7 ≤ 30) → (1 ≤ Int32.toInt x8 ∧ Int32.toInt x8 ≤ 30) → (0 ≤ Int32.toInt x9 ∧ Int32.toInt x9 ≤ 65535) → (0 ≤ Int32.toInt x10 ∧ Int32.toInt x10 ≤ 65535) → (0 ≤ Int32.toInt x11 ∧ Int32.toInt x11 ≤ 16) → (0 ≤ Int32.toInt bL ∧ Int32.toInt bL ≤ 16) → (0 ≤ Int32.toInt bY ∧ Int32.toInt bY ≤ 0) → (31 - Int32.toInt x8 ≤ n55) → (16 - Int32.toInt x11 < (n : Int)) → wb_X10_autumn_91 post K55 bT qG pW qR n x2 x3 x4 x5 x6 x7 x8 x9 x10 x11 bL bY jY sW := by
  intro n
  induction n with
  | zero =>
    intro x2 x3 x4 x5 x6 x7 x8 x9 x10 x11 bL bY jY sW aBN aCH aDO aF7 h_x6 h_x7 h_x8 h_x9 h_x10 h_x11 yJ yG hn55 hm
    exfalso; omega
  | succ n ih =>
    intro x2 x3 x4 x5 x6 x7 x8 x9 x10 x11 bL bY jY sW aBN aCH aDO aF7 h_x6 h_x7 h_x8 h_x9 h_x10 h_x11 yJ yG hn55 hm
    exact ts_X10_autumn_91 bT qG pW qR xJ xU xV yR zM hc0 hpost hK55 ih x2 x3 x4 x5 x6 x7 x8 x9 x10 x11 bL bY jY sW aBN aCH aDO aF7 h_x6 h_x7 h_x8 h_x9 h_x10 h_x11 yJ yG hn55 (by omega)
set_option maxHeartbeats 8000000 in
set_option maxRecDepth 200000 in
theorem ts_X10_autumn_55 {post : Int32 → Int32 → Int32 → Int32 → (Nat → Int32) → Prop} {SB : Int} {next : Int32 → Int32 → Int32 → Int32 → Int32 → Int32 → Int32 → Int32 → Int32 → Int32 → (Nat → Int32) → Prop} {n55 : Int} (bT : Int32) (qG pW qR : Nat → Int32) (xJ : 0 ≤ Int32.toInt bT ∧ Int32.toInt bT ≤ 16) (xU : ∀ k : Nat, k = 17 → -1 ≤ Int32.toInt (qG k) ∧ Int32.toInt (qG k) ≤ SB) (xV : ∀ k : Nat, k = 19 → 0 ≤ Int32.toInt (qG k) ∧ Int32.toInt (qG k) ≤ 9) (yR : ∀ k : Nat, 0 ≤ Int32.toInt (pW k) ∧ Int32.toInt (pW k) ≤ 9) (zM : ∀ k : Nat, 0 ≤ Int32.toInt (qR k) ∧ Int32.toInt (qR k) ≤ 9) (hc0 : -1 ≤ SB ∧ SB ≤ 7) (hpost : ∀ (r : Int32) (xM : Int32) (xG : Int32) (m_drawn' : Int32) (aBX : Nat → Int32), (-1 ≤ Int32.toInt r ∧ Int32.toInt r ≤ 63) → (0 ≤ Int32.toInt xM ∧ Int32.toInt xM ≤ 16) → (0 ≤ Int32.toInt xG ∧ Int32.toInt xG ≤ 0) → post r xM xG m_drawn' aBX) (hKn : ∀ (x2 : Int32) (x3 : Int32) (x4 : Int32) (x5 : Int32) (x6 : Int32) (x7 : Int32) (x8 : Int32) (bL : Int32) (bY : Int32) (jY : Int32) (sW : Nat → Int32), (1 ≤ Int32.toInt x2 ∧ Int32.toInt x2 ≤ 30) → (0 ≤ Int32.toInt x3 ∧ Int32.toInt x3 ≤ 10) → (0 ≤ Int32.toInt x4 ∧ Int32.toInt x4 ≤ 65535) → (0 ≤ Int32.toInt x5 ∧ Int32.toInt x5 ≤ 65535) → (0 ≤ Int32.toInt x6 ∧ Int32.toInt x6 ≤ 63) → (-1 ≤ Int32.toInt x7 ∧ Int32.toInt x7 ≤ 30) → (1 ≤ Int32.toInt x8 ∧ Int32.toInt x8 ≤ 31) → (0 ≤ Int32.toInt bL ∧ Int32.toInt bL ≤ 16) → (0 ≤ Int32.toInt bY ∧ Int32.toInt bY ≤ 0) → (31 - Int32.toInt x8 < n55) → next x2 x3 x4 x5 x6 x7 x8 bL bY jY sW) (x2 x3 x4 x5 x6 x7 x8 bL bY jY : Int32) (sW : Nat → Int32) (aBN : 1 ≤ Int32.toInt x2 ∧ Int32.toInt x2 ≤ 30) (aCH : 0 ≤ Int32.toInt x3 ∧ Int32.toInt x3 ≤ 10) (aDO : 0 ≤ Int32.toInt x4 ∧ Int32.toInt x4 ≤ 65535) (aF7 : 0 ≤ Int32.toInt x5 ∧ Int32.toInt x5 ≤ 65535) (h_x6 : 0 ≤ Int32.toInt x6 ∧ Int32.toInt x6 ≤ 63) (h_x7 : -1 ≤ Int32.toInt x7 ∧ Int32.toInt x7 ≤ 30) (h_x8 : 1 ≤ Int32.toInt x8 ∧ Int32.toInt x8 ≤ 31) (yJ : 0 ≤ Int32.toInt bL ∧ Int32.toInt bL ≤ 16) (yG : 0 ≤ Int32.toInt bY ∧ Int32.toInt bY ≤ 0) (hn55 : 31 - Int32.toInt x8 ≤ n55) : ws_X10_autumn_55 post next bT qG pW qR x2 x3 x4 x5 x6 x7 x8 bL bY jY sW := by
  have l0 := aE0
  have l1 := aEc
  have l2 := aKH
  have l3 := li_16
  have l4 := li_19
  have l5 := aJ8
  have l6 := li_63
  have l7 := aJ9
  have l8 := li_9
  refine And.intro (fun c73 => ?_) (fun c73 => ?_)
  · skip
    have c73 := (aAd _ _).mp c73
    refine And.intro (aBZ (by omega)) ?_
    intro v74 ev74
    have f75 : Int32.toInt (0 + 1) = Int32.toInt (0 : Int32) + Int32.toInt (1 : Int32) := aAD _ _ (by omega)
    rw [← ev74] at f75
    intro v76 ev76
    have hv76 := congrArg Int32.toInt ev76
    refine aNU aF7 xJ yR (fun r78 => ?_)
    refine And.intro (aBZ (by omega)) ?_
    intro v79 ev79
    have f80 : Int32.toInt (v74 + 1) = Int32.toInt v74 + Int32.toInt (1 : Int32) := aAD _ _ (by omega)
    rw [← ev79] at f80
    refine And.intro (aBZ (by omega)) ?_
    intro v81 ev81
    have f82 : Int32.toInt (v79 + 1) = Int32.toInt v79 + Int32.toInt (1 : Int32) := aAD _ _ (by omega)
    rw [← ev81] at f82
    intro v83 ev83
    intro v84 ev84
    have f86 := aAQ v83 1431655765 (by omega)
    have f85 : Int32.toInt (x5 - (v83 &&& 1431655765)) = Int32.toInt x5 - Int32.toInt (v83 &&& 1431655765) := aCA _ _ (by omega)
    rw [← ev84] at f85
    intro v87 ev87
    have f88 := aAQ v84 858993459 (by omega)
    have hv87 := congrArg Int32.toInt ev87
    intro v89 ev89
    intro v90 ev90
    have f92 := aAQ v89 858993459 (by omega)
    have f91 : Int32.toInt (v87 + (v89 &&& 858993459)) = Int32.toInt v87 + Int32.toInt (v89 &&& 858993459) := aAD _ _ (by omega)
    rw [← ev90] at f91
    intro v93 ev93
    have hv93 := congrArg Int32.toInt ev93
    intro v95 ev95
    have f96 := aAQ v93 252645135 (by omega)
    have hv95 := congrArg Int32.toInt ev95
    intro v97 ev97
    have hv97 := congrArg Int32.toInt ev97
    intro v99 ev99
    have hv99 := congrArg Int32.toInt ev99
    have f101 := aAQ v99 63 (by omega)
    exact hpost _ _ _ _ _ (by omega) (by omega) yG
  · skip
    have c73 := mt (aAd _ _).mpr c73
    have q102 := xV (19 : Int32).toNatClampNeg (by have e9 : (19 : Int32).toNatClampNeg = (Int32.toInt (19 : Int32)).toNat := rfl; omega)
    intro v103 ev103
    have hv103 := congrArg Int32.toInt ev103
    intro v105 ev105
    have f106 : Int32.toInt (v103 + x8) = Int32.toInt v103 + Int32.toInt x8 := aAD _ _ (by omega)
    rw [← ev105] at f106
    intro v107 ev107
    have f108 := ti_min (9 : Int32) v105
    have hv107 := congrArg Int32.toInt ev107
    refine aXh (by omega) xJ zM (fun r109 h_r109 ox110 => ?_)
    intro v111 ev111
    have f112 := aAQ x4 r109 (by omega)
    have f113 := aBx x4 r109 (by omega)
    have hv111 := congrArg Int32.toInt ev111
    have f114 := aAT jY
    exact ⟨18, tb_X10_autumn_91 bT qG pW qR xJ xU xV yR zM hc0 hpost hKn _ x2 x3 x4 x5 x6 x7 x8 v111 0 0 bL bY jY sW aBN aCH aDO aF7 h_x6 h_x7 (by omega) (by omega) (by omega) (by omega) yJ yG hn55 (by omega)⟩
set_option maxHeartbeats 8000000 in
set_option maxRecDepth 200000 in
theorem tb_X10_autumn_55 {post : Int32 → Int32 → Int32 → Int32 → (Nat → Int32) → Prop} {SB : Int} (bT : Int32) (qG pW qR : Nat → Int32) (xJ : 0 ≤ Int32.toInt bT ∧ Int32.toInt bT ≤ 16) (xU : ∀ k : Nat, k = 17 → -1 ≤ Int32.toInt (qG k) ∧ Int32.toInt (qG k) ≤ SB) (xV : ∀ k : Nat, k = 19 → 0 ≤ Int32.toInt (qG k) ∧ Int32.toInt (qG k) ≤ 9) (yR : ∀ k : Nat, 0 ≤ Int32.toInt (pW k) ∧ Int32.toInt (pW k) ≤ 9) (zM : ∀ k : Nat, 0 ≤ Int32.toInt (qR k) ∧ Int32.toInt (qR k) ≤ 9) (hc0 : -1 ≤ SB ∧ SB ≤ 7) (hpost : ∀ (r : Int32) (xM : Int32) (xG : Int32) (m_drawn' : Int32) (aBX : Nat → Int32), (-1 ≤ Int32.toInt r ∧ Int32.toInt r ≤ 63) → (0 ≤ Int32.toInt xM ∧ Int32.toInt xM ≤ 16) → (0 ≤ Int32.toInt xG ∧ Int32.toInt xG ≤ 0) → post r xM xG m_drawn' aBX) : ∀ (n : Nat) (x2 x3 x4 x5 x6 x7 x8 bL bY jY : Int32) (sW : Nat → Int32), (1 ≤ Int32.toInt x2 ∧ Int32.toInt x2 ≤ 30) → (0 ≤ Int32.toInt x3 ∧ Int32.toInt x3 ≤ 10) → (0 ≤ Int32.toInt x4 ∧ Int32.toInt x4 ≤ 65535) → (0 ≤ Int32.toInt x5 ∧ Int32.toInt x5 ≤ 65535) → (0 ≤ Int32.toInt x6 ∧ Int32.toInt x6 ≤ 63) → (-1 ≤ Int32.toInt x7 ∧ Int32.toInt x7 ≤ 30) → (1 ≤ Int32.toInt x8 ∧ Int32.toInt x8 ≤ 31) → (0 ≤ Int32.toInt bL ∧ Int32.toInt bL ≤ 16) → (0 ≤ Int32.toInt bY ∧ Int32.toInt bY ≤ 0) → (31 - Int32.toInt x8 < (n : Int)) → wb_X10_autumn_55 post bT qG pW qR n x2 x3 x4 x5 x6 x7 x8 bL bY jY sW := by
  intro n
  induction n with
  | zero =>
    intro x2 x3 x4 x5 x6 x7 x8 bL bY jY sW aBN aCH aDO aF7 h_x6 h_x7 h_x8 yJ yG hm
    exfalso; omega
  | succ n ih =>
    intro x2 x3 x4 x5 x6 x7 x8 bL bY jY sW aBN aCH aDO aF7 h_x6 h_x7 h_x8 yJ yG hm
    exact ts_X10_autumn_55 bT qG pW qR xJ xU xV yR zM hc0 hpost ih x2 x3 x4 x5 x6 x7 x8 bL bY jY sW aBN aCH aDO aF7 h_x6 h_x7 h_x8 yJ yG (by omega)
set_option maxHeartbeats 8000000 in
set_option maxRecDepth 200000 in
theorem t_X10_autumn {post : Int32 → Int32 → Int32 → Int32 → (Nat → Int32) → Prop} {SB : Int} {p0 p1 p2 bT bL bY jY : Int32} {qG pW qR sW : Nat → Int32} (xJ : 0 ≤ Int32.toInt bT ∧ Int32.toInt bT ≤ 16) (yJ : 0 ≤ Int32.toInt bL ∧ Int32.toInt bL ≤ 16) (yG : 0 ≤ Int32.toInt bY ∧ Int32.toInt bY ≤ 1) (xU : ∀ k : Nat, k = 17 → -1 ≤ Int32.toInt (qG k) ∧ Int32.toInt (qG k) ≤ SB) (xV : ∀ k : Nat, k = 19 → 0 ≤ Int32.toInt (qG k) ∧ Int32.toInt (qG k) ≤ 9) (yR : ∀ k : Nat, 0 ≤ Int32.toInt (pW k) ∧ Int32.toInt (pW k) ≤ 9) (zM : ∀ k : Nat, 0 ≤ Int32.toInt (qR k) ∧ Int32.toInt (qR k) ≤ 9) (hc0 : -1 ≤ SB ∧ SB ≤ 7) (hpost : ∀ (r : Int32) (xM : Int32) (xG : Int32) (m_drawn' : Int32) (aBX : Nat → Int32), (-1 ≤ Int32.toInt r ∧ Int32.toInt r ≤ 63) → (0 ≤ Int32.toInt xM ∧ Int32.toInt xM ≤ 16) → (0 ≤ Int32.toInt xG ∧ Int32.toInt xG ≤ 0) → post r xM xG m_drawn' aBX) : wp_X10_autumn post p0 p1 p2 bT bL bY jY qG pW qR sW := by
  have l0 := aI2
  have l1 := aE0
  have l2 := aEc
  have l3 := li_10
  have l4 := li_30
  have f116 := aAT p1
  refine And.intro (fun c115 => ?_) (fun c115 => ?_)
  · skip
    have c115 := (aAd _ _).mp c115
    refine And.intro (fun _ => ?_) (fun h9 => absurd h9 (by decide))
    exact hpost _ _ _ _ _ (by omega) yJ (by omega)
  · skip
    have c115 := mt (aAd _ _).mpr c115
    refine And.intro (fun c117 => ?_) (fun c117 => ?_)
    · skip
      have c117 := (aAd _ _).mp c117
      refine And.intro (fun _ => ?_) (fun h9 => absurd h9 (by decide))
      exact hpost _ _ _ _ _ (by omega) yJ (by omega)
    · skip
      have c117 := mt (aAd _ _).mpr c117
      refine And.intro (fun h9 => absurd h9 (by decide)) (fun _ => ?_)
      have f119 := aAT p2
      refine And.intro (fun c118 => ?_) (fun c118 => ?_)
      · skip
        have c118 := (aAd _ _).mp c118
        refine And.intro (fun h9 => absurd h9 (by decide)) (fun _ => ?_)
        exact hpost _ _ _ _ _ (by omega) yJ (by omega)
      · skip
        have c118 := mt (aAd _ _).mpr c118
        refine And.intro (fun c120 => ?_) (fun c120 => ?_)
        · skip
          have c120 := (aAd _ _).mp c120
          refine And.intro (fun h9 => absurd h9 (by decide)) (fun _ => ?_)
          exact hpost _ _ _ _ _ (by omega) yJ (by omega)
        · skip
          have c120 := mt (aAd _ _).mpr c120
          refine And.intro (fun _ => ?_) (fun h9 => absurd h9 (by decide))
          refine aKO (by omega) xJ xU xV (by omega) (fun r121 h_r121 ox122 => ?_)
          have f123 := aAT p0
          exact ⟨32, tb_X10_autumn_55 bT qG pW qR xJ xU xV yR zM hc0 hpost _ p1 p2 r121 0 0 (-1) 1 bL 0 p0 sW (by omega) (by omega) h_r121 (by omega) (by omega) (by omega) (by omega) yJ (by omega) (by omega)⟩
