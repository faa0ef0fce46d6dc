set_option maxHeartbeats 8000000 in
set_option maxRecDepth 200000 in
theorem ts_X10_sum_78 {post : Int32 → Int32 → Int32 → Prop} {WT WH : aOw} {rn : Int} (hT : aUg WT rn) (hH : aYK WH rn) {aLe : Int32} {K6 : Int32 → Int32 → Int32 → Int32 → Prop} {n6 : Int} (jD : Nat) (m_length oF bZ aR aE bI aW : Int32) (m_x gR pW nG oO qO qQ : Nat → Int32) (yM : jD = 1 ∨ jD = 2) (zE : 1 ≤ Int32.toInt m_length ∧ Int32.toInt m_length ≤ 80) (aAR : 40 ≤ Int32.toInt oF ∧ Int32.toInt oF ≤ 40) (zT : 0 ≤ Int32.toInt bZ ∧ Int32.toInt bZ ≤ 1) (yL : 0 ≤ Int32.toInt aR ∧ Int32.toInt aR ≤ 15) (xQ : 0 ≤ Int32.toInt aE ∧ Int32.toInt aE ≤ 7) (yY : 0 ≤ Int32.toInt bI ∧ Int32.toInt bI ≤ 1) (yK : 0 ≤ Int32.toInt aW ∧ Int32.toInt aW ≤ 63) (aAW : ∀ k : Nat, 0 ≤ Int32.toInt (m_x k) ∧ Int32.toInt (m_x k) ≤ 99) (xK : ∀ k : Nat, 0 ≤ Int32.toInt (gR k) ∧ Int32.toInt (gR k) ≤ 99) (yR : ∀ k : Nat, 0 ≤ Int32.toInt (pW k) ∧ Int32.toInt (pW k) ≤ 9) (xT : ∀ k : Nat, 0 ≤ Int32.toInt (nG k) ∧ Int32.toInt (nG k) ≤ 99) (yF : ∀ k : Nat, 0 ≤ Int32.toInt (oO k) ∧ Int32.toInt (oO k) ≤ 99) (zG : ∀ k : Nat, -128 ≤ Int32.toInt (qO k) ∧ Int32.toInt (qO k) ≤ 127) (zI : ∀ k : Nat, -128 ≤ Int32.toInt (qQ k) ∧ Int32.toInt (qQ k) ≤ 127) (hc0 : jD = 2 → Int32.toInt oF ≤ 40) (hpost : ∀ (r : Int32) (aAm : Int32) (zH : Int32), (0 ≤ Int32.toInt aAm ∧ Int32.toInt aAm ≤ 80) → (-1 ≤ Int32.toInt zH ∧ Int32.toInt zH ≤ 80) → (Int32.toInt aLe ≤ Int32.toInt aAm) → (Int32.toInt aAm ≤ Int32.toInt oF) → post r aAm zH) (hK6 : ∀ (x1 : Int32) (x2 : Int32) (rP : Int32) (dQ : Int32), (0 ≤ Int32.toInt x1 ∧ Int32.toInt x1 ≤ 4) → (0 ≤ Int32.toInt rP ∧ Int32.toInt rP ≤ 80) → (-1 ≤ Int32.toInt dQ ∧ Int32.toInt dQ ≤ 80) → (Int32.toInt rP ≤ Int32.toInt oF) → (Int32.toInt oF - Int32.toInt rP < rn + 1) → (Int32.toInt aLe ≤ Int32.toInt rP) → (Int32.toInt oF - Int32.toInt rP < n6) → K6 x1 x2 rP dQ) (x1 k0 rP dQ : Int32) (aBK : 0 ≤ Int32.toInt x1 ∧ Int32.toInt x1 ≤ 4) (aA1 : 0 ≤ Int32.toInt rP ∧ Int32.toInt rP ≤ 80) (aAA : -1 ≤ Int32.toInt dQ ∧ Int32.toInt dQ ≤ 80) (hx0 : Int32.toInt rP ≤ Int32.toInt oF) (hx1 : Int32.toInt oF - Int32.toInt rP < rn + 1) (hx2 : Int32.toInt aLe ≤ Int32.toInt rP) (hx3 : Int32.toInt oF - Int32.toInt rP < n6) (hn6 : Int32.toInt oF - Int32.toInt rP ≤ n6) : ws_X10_sum_78 WT WH post K6 jD m_length oF bZ aR aE bI aW m_x gR pW nG oO qO qQ x1 k0 rP dQ := by
  have f1 := aAT k0
  exact hK6 x1 k0 rP dQ aBK aA1 aAA hx0 hx1 hx2 (by omega)
set_option maxHeartbeats 8000000 in
set_option maxRecDepth 200000 in
theorem ts_X10_sum_45 {post : Int32 → Int32 → Int32 → Prop} {WT WH : aOw} {rn : Int} (hT : aUg WT rn) (hH : aYK WH rn) {aLe : Int32} {K6 : Int32 → Int32 → Int32 → Int32 → Prop} {n6 : Int} (jD : Nat) (m_length oF bZ aR aE bI aW : Int32) (m_x gR pW nG oO qO qQ : Nat → Int32) (yM : jD = 1 ∨ jD = 2) (zE : 1 ≤ Int32.toInt m_length ∧ Int32.toInt m_length ≤ 80) (aAR : 40 ≤ Int32.toInt oF ∧ Int32.toInt oF ≤ 40) (zT : 0 ≤ Int32.toInt bZ ∧ Int32.toInt bZ ≤ 1) (yL : 0 ≤ Int32.toInt aR ∧ Int32.toInt aR ≤ 15) (xQ : 0 ≤ Int32.toInt aE ∧ Int32.toInt aE ≤ 7) (yY : 0 ≤ Int32.toInt bI ∧ Int32.toInt bI ≤ 1) (yK : 0 ≤ Int32.toInt aW ∧ Int32.toInt aW ≤ 63) (aAW : ∀ k : Nat, 0 ≤ Int32.toInt (m_x k) ∧ Int32.toInt (m_x k) ≤ 99) (xK : ∀ k : Nat, 0 ≤ Int32.toInt (gR k) ∧ Int32.toInt (gR k) ≤ 99) (yR : ∀ k : Nat, 0 ≤ Int32.toInt (pW k) ∧ Int32.toInt (pW k) ≤ 9) (xT : ∀ k : Nat, 0 ≤ Int32.toInt (nG k) ∧ Int32.toInt (nG k) ≤ 99) (yF : ∀ k : Nat, 0 ≤ Int32.toInt (oO k) ∧ Int32.toInt (oO k) ≤ 99) (zG : ∀ k : Nat, -128 ≤ Int32.toInt (qO k) ∧ Int32.toInt (qO k) ≤ 127) (zI : ∀ k : Nat, -128 ≤ Int32.toInt (qQ k) ∧ Int32.toInt (qQ k) ≤ 127) (hc0 : jD = 2 → Int32.toInt oF ≤ 40) (hpost : ∀ (r : Int32) (aAm : Int32) (zH : Int32), (0 ≤ Int32.toInt aAm ∧ Int32.toInt aAm ≤ 80) → (-1 ≤ Int32.toInt zH ∧ Int32.toInt zH ≤ 80) → (Int32.toInt aLe ≤ Int32.toInt aAm) → (Int32.toInt aAm ≤ Int32.toInt oF) → post r aAm zH) (hK6 : ∀ (x1 : Int32) (x2 : Int32) (rP : Int32) (dQ : Int32), (0 ≤ Int32.toInt x1 ∧ Int32.toInt x1 ≤ 4) → (0 ≤ Int32.toInt rP ∧ Int32.toInt rP ≤ 80) → (-1 ≤ Int32.toInt dQ ∧ Int32.toInt dQ ≤ 80) → (Int32.toInt rP ≤ Int32.toInt oF) → (Int32.toInt oF - Int32.toInt rP < rn + 1) → (Int32.toInt aLe ≤ Int32.toInt rP) → (Int32.toInt oF - Int32.toInt rP < n6) → K6 x1 x2 rP dQ) (x1 x2 k0 rP dQ : Int32) (aBK : 0 ≤ Int32.toInt x1 ∧ Int32.toInt x1 ≤ 4) (h_k0 : 0 ≤ Int32.toInt k0 ∧ Int32.toInt k0 ≤ 1) (aA1 : 0 ≤ Int32.toInt rP ∧ Int32.toInt rP ≤ 80) (aAA : -1 ≤ Int32.toInt dQ ∧ Int32.toInt dQ ≤ -1) (hx0 : Int32.toInt rP ≤ Int32.toInt oF) (hx1 : Int32.toInt oF - Int32.toInt rP < rn + 1) (hx2 : Int32.toInt aLe ≤ Int32.toInt rP) (hx3 : Int32.toInt rP < Int32.toInt oF) (hn6 : Int32.toInt oF - Int32.toInt rP ≤ n6) : ws_X10_sum_45 WT WH post K6 jD m_length oF bZ aR aE bI aW m_x gR pW nG oO qO qQ x1 x2 k0 rP dQ := by
  have l0 := aE0
  have l1 := aEc
  intro v2 ev2
  have f3 : Int32.toInt (rP + 1) = Int32.toInt rP + Int32.toInt (1 : Int32) := aAD _ _ (by omega)
  rw [← ev2] at f3
  refine t_X10_product hT hH aBK yM zE aAR (by omega) aAA zT yL xQ yY yK aAW xK yR xT yF zG zI (by omega) (by omega) (by omega) (fun r6 aQ5 aGh h_m_at_4 h_m_wrong_5 ox7 ox8 => ?_)
  refine And.intro (fun c9 => ?_) (fun c9 => ?_)
  · skip
    have c9 := (zJ _ _).mp c9
    intro v10 ev10
    have hv10 := congrArg Int32.toInt ev10
    have f12 := aAT v10
    exact ts_X10_sum_78 hT hH jD m_length oF bZ aR aE bI aW m_x gR pW nG oO qO qQ yM zE aAR zT yL xQ yY yK aAW xK yR xT yF zG zI hc0 hpost hK6 x1 v10 aQ5 aGh aBK h_m_at_4 h_m_wrong_5 (by omega) (by omega) (by omega) (by omega) (by omega)
  · skip
    have c9 := mt (zJ _ _).mpr c9
    intro v13 ev13
    have hv13 := congrArg Int32.toInt ev13
    have f15 := aAT v13
    exact ts_X10_sum_78 hT hH jD m_length oF bZ aR aE bI aW m_x gR pW nG oO qO qQ yM zE aAR zT yL xQ yY yK aAW xK yR xT yF zG zI hc0 hpost hK6 x1 v13 aQ5 aGh aBK h_m_at_4 h_m_wrong_5 (by omega) (by omega) (by omega) (by omega) (by omega)
set_option maxHeartbeats 8000000 in
set_option maxRecDepth 200000 in
theorem ts_X10_sum_31 {post : Int32 → Int32 → Int32 → Prop} {WT WH : aOw} {rn : Int} (hT : aUg WT rn) (hH : aYK WH rn) {aLe : Int32} {K6 : Int32 → Int32 → Int32 → Int32 → Prop} {n6 : Int} (jD : Nat) (m_length oF bZ aR aE bI aW : Int32) (m_x gR pW nG oO qO qQ : Nat → Int32) (yM : jD = 1 ∨ jD = 2) (zE : 1 ≤ Int32.toInt m_length ∧ Int32.toInt m_length ≤ 80) (aAR : 40 ≤ Int32.toInt oF ∧ Int32.toInt oF ≤ 40) (zT : 0 ≤ Int32.toInt bZ ∧ Int32.toInt bZ ≤ 1) (yL : 0 ≤ Int32.toInt aR ∧ Int32.toInt aR ≤ 15) (xQ : 0 ≤ Int32.toInt aE ∧ Int32.toInt aE ≤ 7) (yY : 0 ≤ Int32.toInt bI ∧ Int32.toInt bI ≤ 1) (yK : 0 ≤ Int32.toInt aW ∧ Int32.toInt aW ≤ 63) (aAW : ∀ k : Nat, 0 ≤ Int32.toInt (m_x k) ∧ Int32.toInt (m_x k) ≤ 99) (xK : ∀ k : Nat, 0 ≤ Int32.toInt (gR k) ∧ Int32.toInt (gR k) ≤ 99) (yR : ∀ k : Nat, 0 ≤ Int32.toInt (pW k) ∧ Int32.toInt (pW k) ≤ 9) (xT : ∀ k : Nat, 0 ≤ Int32.toInt (nG k) ∧ Int32.toInt (nG k) ≤ 99) (yF : ∀ k : Nat, 0 ≤ Int32.toInt (oO k) ∧ Int32.toInt (oO k) ≤ 99) (zG : ∀ k : Nat, -128 ≤ Int32.toInt (qO k) ∧ Int32.toInt (qO k) ≤ 127) (zI : ∀ k : Nat, -128 ≤ Int32.toInt (qQ k) ∧ Int32.toInt (qQ k) ≤ 127) (hc0 : jD = 2 → Int32.toInt oF ≤ 40) (hpost : ∀ (r : Int32) (aAm : Int32) (zH : Int32), (0 ≤ Int32.toInt aAm ∧ Int32.toInt aAm ≤ 80) → (-1 ≤ Int32.toInt zH ∧ Int32.toInt zH ≤ 80) → (Int32.toInt aLe ≤ Int32.toInt aAm) → (Int32.toInt aAm ≤ Int32.toInt oF) → post r aAm zH) (hK6 : ∀ (x1 : Int32) (x2 : Int32) (rP : Int32) (dQ : Int32), (0 ≤ Int32.toInt x1 ∧ Int32.toInt x1 ≤ 4) → (0 ≤ Int32.toInt rP ∧ Int32.toInt rP ≤ 80) → (-1 ≤ Int32.toInt dQ ∧ Int32.toInt dQ ≤ 80) → (Int32.toInt rP ≤ Int32.toInt oF) → (Int32.toInt oF - Int32.toInt rP < rn + 1) → (Int32.toInt aLe ≤ Int32.toInt rP) → (Int32.toInt oF - Int32.toInt rP < n6) → K6 x1 x2 rP dQ) (x1 x2 rP dQ : Int32) (aBK : 0 ≤ Int32.toInt x1 ∧ Int32.toInt x1 ≤ 4) (aA1 : 0 ≤ Int32.toInt rP ∧ Int32.toInt rP ≤ 80) (aAA : -1 ≤ Int32.toInt dQ ∧ Int32.toInt dQ ≤ -1) (hx0 : Int32.toInt rP ≤ Int32.toInt oF) (hx1 : Int32.toInt oF - Int32.toInt rP < rn + 1) (hx2 : Int32.toInt aLe ≤ Int32.toInt rP) (hx3 : Int32.toInt rP < Int32.toInt oF) (hn6 : Int32.toInt oF - Int32.toInt rP ≤ n6) : ws_X10_sum_31 WT WH post K6 jD m_length oF bZ aR aE bI aW m_x gR pW nG oO qO qQ x1 x2 rP dQ := by
  have l0 := aE0
  have l1 := aEc
  have l2 := li_43
  refine aOq yM (by omega) (by omega) aA1 zG zI (by omega) (fun r16 h_r16 ox17 ox18 => ?_)
  refine And.intro (fun c19 => ?_) (fun c19 => ?_)
  · skip
    have c19 := mt (zJ _ _).mpr c19
    have f20 := aAT x2
    exact ts_X10_sum_45 hT hH jD m_length oF bZ aR aE bI aW m_x gR pW nG oO qO qQ yM zE aAR zT yL xQ yY yK aAW xK yR xT yF zG zI hc0 hpost hK6 x1 x2 0 rP dQ aBK (by omega) aA1 aAA hx0 hx1 hx2 hx3 hn6
  · skip
    have c19 := (zJ _ _).mp c19
    have f21 := aAT x2
    exact ts_X10_sum_45 hT hH jD m_length oF bZ aR aE bI aW m_x gR pW nG oO qO qQ yM zE aAR zT yL xQ yY yK aAW xK yR xT yF zG zI hc0 hpost hK6 x1 x2 1 rP dQ aBK (by omega) aA1 aAA hx0 hx1 hx2 hx3 hn6
set_option maxHeartbeats 8000000 in
set_option maxRecDepth 200000 in
theorem ts_X10_sum_6 {post : Int32 → Int32 → Int32 → Prop} {WT WH : aOw} {rn : Int} (hT : aUg WT rn) (hH : aYK WH rn) {aLe : Int32} {next : Int32 → Int32 → Int32 → Int32 → Prop} {n6 : Int} (jD : Nat) (m_length oF bZ aR aE bI aW : Int32) (m_x gR pW nG oO qO qQ : Nat → Int32) (yM : jD = 1 ∨ jD = 2) (zE : 1 ≤ Int32.toInt m_length ∧ Int32.toInt m_length ≤ 80) (aAR : 40 ≤ Int32.toInt oF ∧ Int32.toInt oF ≤ 40) (zT : 0 ≤ Int32.toInt bZ ∧ Int32.toInt bZ ≤ 1) (yL : 0 ≤ Int32.toInt aR ∧ Int32.toInt aR ≤ 15) (xQ : 0 ≤ Int32.toInt aE ∧ Int32.toInt aE ≤ 7) (yY : 0 ≤ Int32.toInt bI ∧ Int32.toInt bI ≤ 1) (yK : 0 ≤ Int32.toInt aW ∧ Int32.toInt aW ≤ 63) (aAW : ∀ k : Nat, 0 ≤ Int32.toInt (m_x k) ∧ Int32.toInt (m_x k) ≤ 99) (xK : ∀ k : Nat, 0 ≤ Int32.toInt (gR k) ∧ Int32.toInt (gR k) ≤ 99) (yR : ∀ k : Nat, 0 ≤ Int32.toInt (pW k) ∧ Int32.toInt (pW k) ≤ 9) (xT : ∀ k : Nat, 0 ≤ Int32.toInt (nG k) ∧ Int32.toInt (nG k) ≤ 99) (yF : ∀ k : Nat, 0 ≤ Int32.toInt (oO k) ∧ Int32.toInt (oO k) ≤ 99) (zG : ∀ k : Nat, -128 ≤ Int32.toInt (qO k) ∧ Int32.toInt (qO k) ≤ 127) (zI : ∀ k : Nat, -128 ≤ Int32.toInt (qQ k) ∧ Int32.toInt (qQ k) ≤ 127) (hc0 : jD = 2 → Int32.toInt oF ≤ 40) (hpost : ∀ (r : Int32) (aAm : Int32) (zH : Int32), (0 ≤ Int32.toInt aAm ∧ Int32.toInt aAm ≤ 80) → (-1 ≤ Int32.toInt zH ∧ Int32.toInt zH ≤ 80) → (Int32.toInt aLe ≤ Int32.toInt aAm) → (Int32.toInt aAm ≤ Int32.toInt oF) → post r aAm zH) (hKn : ∀ (x1 : Int32) (x2 : Int32) (rP : Int32) (dQ : Int32), (0 ≤ Int32.toInt x1 ∧ Int32.toInt x1 ≤ 4) → (0 ≤ Int32.toInt rP ∧ Int32.toInt rP ≤ 80) → (-1 ≤ Int32.toInt dQ ∧ Int32.toInt dQ ≤ 80) → (Int32.toInt rP ≤ Int32.toInt oF) → (Int32.toInt oF - Int32.toInt rP < rn + 1) → (Int32.toInt aLe ≤ Int32.toInt rP) → (Int32.toInt oF - Int32.toInt rP < n6) → next x1 x2 rP dQ) (x1 x2 rP dQ : Int32) (aBK : 0 ≤ Int32.toInt x1 ∧ Int32.toInt x1 ≤ 4) (aA1 : 0 ≤ Int32.toInt rP ∧ Int32.toInt rP ≤ 80) (aAA : -1 ≤ Int32.toInt dQ ∧ Int32.toInt dQ ≤ 80) (hx0 : Int32.toInt rP ≤ Int32.toInt oF) (hx1 : Int32.toInt oF - Int32.toInt rP < rn + 1) (hx2 : Int32.toInt aLe ≤ Int32.toInt rP) (hn6 : Int32.toInt oF - Int32.toInt rP ≤ n6) : ws_X10_sum_6 WT WH post next jD m_length oF bZ aR aE bI aW m_x gR pW nG oO qO qQ x1 x2 rP dQ := by
  have l0 := aI2
  have l1 := li_43
  have l2 := li_45
  refine And.intro (fun c22 => ?_) (fun c22 => ?_)
  · skip
    have c22 := mt (zJ _ _).mpr c22
    refine And.intro (fun _ => ?_) (fun h9 => absurd h9 (by decide))
    exact hpost _ _ _ aA1 aAA (by omega) (by omega)
  · skip
    have c22 := (zJ _ _).mp c22
    refine And.intro (fun h9 => absurd h9 (by decide)) (fun _ => ?_)
    refine aOq yM (by omega) (by omega) aA1 zG zI (by omega) (fun r23 h_r23 ox24 ox25 => ?_)
    refine And.intro (fun c26 => ?_) (fun c26 => ?_)
    · skip
      have c26 := (zJ _ _).mp c26
      have f27 := aAT x2
      exact ts_X10_sum_31 hT hH jD m_length oF bZ aR aE bI aW m_x gR pW nG oO qO qQ yM zE aAR zT yL xQ yY yK aAW xK yR xT yF zG zI hc0 hpost hKn x1 x2 rP dQ aBK aA1 (by omega) hx0 hx1 hx2 (by omega) hn6
    · skip
      have c26 := mt (zJ _ _).mpr c26
      refine aOq yM (by omega) (by omega) aA1 zG zI (by omega) (fun r28 h_r28 ox29 ox30 => ?_)
      refine And.intro (fun c31 => ?_) (fun c31 => ?_)
      · skip
        have c31 := mt (zJ _ _).mpr c31
        exact hpost _ _ _ aA1 aAA (by omega) (by omega)
      · skip
        have c31 := (zJ _ _).mp c31
        have f32 := aAT x2
        exact ts_X10_sum_31 hT hH jD m_length oF bZ aR aE bI aW m_x gR pW nG oO qO qQ yM zE aAR zT yL xQ yY yK aAW xK yR xT yF zG zI hc0 hpost hKn x1 x2 rP dQ aBK aA1 (by omega) hx0 hx1 hx2 (by omega) hn6
set_option maxHeartbeats 8000000 in
set_option maxRecDepth 200000 in
theorem tb_X10_sum_6 {post : Int32 → Int32 → Int32 → Prop} {WT WH : aOw} {rn : Int} (hT : aUg WT rn) (hH : aYK WH rn) {aLe : Int32} (jD : Nat) (m_length oF bZ aR aE bI aW : Int32) (m_x gR pW nG oO qO qQ : Nat → Int32) (yM : jD = 1 ∨ jD = 2) (zE : 1 ≤ Int32.toInt m_length ∧ Int32.toInt m_length ≤ 80) (aAR : 40 ≤ Int32.toInt oF ∧ Int32.toInt oF ≤ 40) (zT : 0 ≤ Int32.toInt bZ ∧ Int32.toInt bZ ≤ 1) (yL : 0 ≤ Int32.toInt aR ∧ Int32.toInt aR ≤ 15) (xQ : 0 ≤ Int32.toInt aE ∧ Int32.toInt aE ≤ 7) (yY : 0 ≤ Int32.toInt bI ∧ Int32.toInt bI ≤ 1) (yK : 0 ≤ Int32.toInt aW ∧ Int32.toInt aW ≤ 63) (aAW : ∀ k : Nat, 0 ≤ Int32.toInt (m_x k) ∧ Int32.toInt (m_x k) ≤ 99) (xK : ∀ k : Nat, 0 ≤ Int32.toInt (gR k) ∧ Int32.toInt (gR k) ≤ 99) (yR : ∀ k : Nat, 0 ≤ Int32.toInt (pW k) ∧ Int32.toInt (pW k) ≤ 9) (xT : ∀ k : Nat, 0 ≤ Int32.toInt (nG k) ∧ Int32.toInt (nG k) ≤ 99) (yF : ∀ k : Nat, 0 ≤ Int32.toInt (oO k) ∧ Int32.toInt (oO k) ≤ 99) (zG : ∀ k : Nat, -128 ≤ Int32.toInt (qO k) ∧ Int32.toInt (qO k) ≤ 127) (zI : ∀ k : Nat, -128 ≤ Int32.toInt (qQ k) ∧ Int32.toInt (qQ k) ≤ 127) (hc0 : jD = 2 → Int32.toInt oF ≤ 40) (hpost : ∀ (r : Int32) (aAm : Int32) (zH : Int32), (0 ≤ Int32.toInt aAm ∧ Int32.toInt aAm ≤ 80) → (-1 ≤ Int32.toInt zH ∧ Int32.toInt zH ≤ 80) → (Int32.toInt aLe ≤ Int32.toInt aAm) → (Int32.toInt aAm ≤ Int32.toInt oF) → post r aAm zH) : ∀ (n : Nat) (x1 x2 rP dQ : Int32), (0 ≤ Int32.toInt x1 ∧ Int32.toInt x1 ≤ 4) → (0 ≤ Int32.toInt rP ∧ Int32.toInt rP ≤ 80) → (-1 ≤ Int32.toInt dQ ∧ Int32.toInt dQ ≤ 80) → (Int32.toInt rP ≤ Int32.toInt oF) → (Int32.toInt oF - Int32.toInt rP < rn + 1) → (Int32.toInt aLe ≤ Int32.toInt rP) → (Int32.toInt oF - Int32.toInt rP < (n : Int)) → wb_X10_sum_6 WT WH post jD m_length oF bZ aR aE bI aW m_x gR pW nG oO qO qQ n x1 x2 rP dQ := by
  intro n
  induction n with
  | zero =>
    intro x1 x2 rP dQ aBK aA1 aAA hx0 hx1 hx2 hm
    exfalso; omega
  | succ n ih =>
    intro x1 x2 rP dQ aBK aA1 aAA hx0 hx1 hx2 hm
    exact ts_X10_sum_6 hT hH jD m_length oF bZ aR aE bI aW m_x gR pW nG oO qO qQ yM zE aAR zT yL xQ yY yK aAW xK yR xT yF zG zI hc0 hpost ih x1 x2 rP dQ aBK aA1 aAA hx0 hx1 hx2 (by omega)
set_option maxHeartbeats 8000000 in
set_option maxRecDepth 200000 in
theorem t_X10_sum {post : Int32 → Int32 → Int32 → Prop} {WT WH : aOw} {rn : Int} (hT : aUg WT rn) (hH : aYK WH rn) {p0 : Int32} {jD : Nat} {m_length oF rP dQ bZ aR aE bI aW : Int32} {m_x gR pW nG oO qO qQ : Nat → Int32} (h_p0 : 0 ≤ Int32.toInt p0 ∧ Int32.toInt p0 ≤ 4) (yM : jD = 1 ∨ jD = 2) (zE : 1 ≤ Int32.toInt m_length ∧ Int32.toInt m_length ≤ 80) (aAR : 40 ≤ Int32.toInt oF ∧ Int32.toInt oF ≤ 40) (aA1 : 0 ≤ Int32.toInt rP ∧ Int32.toInt rP ≤ 80) (aAA : -1 ≤ Int32.toInt dQ ∧ Int32.toInt dQ ≤ -1) (zT : 0 ≤ Int32.toInt bZ ∧ Int32.toInt bZ ≤ 1) (yL : 0 ≤ Int32.toInt aR ∧ Int32.toInt aR ≤ 15) (xQ : 0 ≤ Int32.toInt aE ∧ Int32.toInt aE ≤ 7) (yY : 0 ≤ Int32.toInt bI ∧ Int32.toInt bI ≤ 1) (yK : 0 ≤ Int32.toInt aW ∧ Int32.toInt aW ≤ 63) (aAW : ∀ k : Nat, 0 ≤ Int32.toInt (m_x k) ∧ Int32.toInt (m_x k) ≤ 99) (xK : ∀ k : Nat, 0 ≤ Int32.toInt (gR k) ∧ Int32.toInt (gR k) ≤ 99) (yR : ∀ k : Nat, 0 ≤ Int32.toInt (pW k) ∧ Int32.toInt (pW k) ≤ 9) (xT : ∀ k : Nat, 0 ≤ Int32.toInt (nG k) ∧ Int32.toInt (nG k) ≤ 99) (yF : ∀ k : Nat, 0 ≤ Int32.toInt (oO k) ∧ Int32.toInt (oO k) ≤ 99) (zG : ∀ k : Nat, -128 ≤ Int32.toInt (qO k) ∧ Int32.toInt (qO k) ≤ 127) (zI : ∀ k : Nat, -128 ≤ Int32.toInt (qQ k) ∧ Int32.toInt (qQ k) ≤ 127) (hc0 : jD = 2 → Int32.toInt oF ≤ 40) (hx0 : Int32.toInt rP ≤ Int32.toInt oF) (hx1 : Int32.toInt oF - Int32.toInt rP < rn + 1) (hpost : ∀ (r : Int32) (aAm : Int32) (zH : Int32), (0 ≤ Int32.toInt aAm ∧ Int32.toInt aAm ≤ 80) → (-1 ≤ Int32.toInt zH ∧ Int32.toInt zH ≤ 80) → (Int32.toInt rP ≤ Int32.toInt aAm) → (Int32.toInt aAm ≤ Int32.toInt oF) → post r aAm zH) : wp_X10_sum WT WH post p0 jD m_length oF rP dQ bZ aR aE bI aW m_x gR pW nG oO qO qQ := by
  refine t_X10_product hT hH h_p0 yM zE aAR aA1 aAA zT yL xQ yY yK aAW xK yR xT yF zG zI (by omega) (by omega) (by omega) (fun r35 m_at_33 m_wrong_34 h_m_at_33 h_m_wrong_34 ox36 ox37 => ?_)
  have f38 := aAT r35
  exact ⟨82, tb_X10_sum_6 hT hH jD m_length oF bZ aR aE bI aW m_x gR pW nG oO qO qQ yM zE aAR zT yL xQ yY yK aAW xK yR xT yF zG zI hc0 hpost _ p0 r35 m_at_33 m_wrong_34 h_p0 h_m_at_33 h_m_wrong_34 (by omega) (by omega) (by omega) (by omega)⟩
set_option maxHeartbeats 8000000 in
set_option maxRecDepth 200000 in
theorem t_X10_held {post : Int32 → Int32 → Int32 → Prop} {WT WH : aOw} {rn : Int} (hT : aUg WT rn) (hH : aYK WH rn) {p0 : Int32} {jD : Nat} {m_length oF rP dQ bZ aR aE bI aW : Int32} {m_x gR pW nG oO qO qQ : Nat → Int32} (h_p0 : 0 ≤ Int32.toInt p0 ∧ Int32.toInt p0 ≤ 4) (yM : jD = 1 ∨ jD = 2) (zE : 1 ≤ Int32.toInt m_length ∧ Int32.toInt m_length ≤ 80) (aAR : 40 ≤ Int32.toInt oF ∧ Int32.toInt oF ≤ 40) (aA1 : 0 ≤ Int32.toInt rP ∧ Int32.toInt rP ≤ 80) (aAA : -1 ≤ Int32.toInt dQ ∧ Int32.toInt dQ ≤ -1) (zT : 0 ≤ Int32.toInt bZ ∧ Int32.toInt bZ ≤ 1) (yL : 0 ≤ Int32.toInt aR ∧ Int32.toInt aR ≤ 15) (xQ : 0 ≤ Int32.toInt aE ∧ Int32.toInt aE ≤ 7) (yY : 0 ≤ Int32.toInt bI ∧ Int32.toInt bI ≤ 1) (yK : 0 ≤ Int32.toInt aW ∧ Int32.toInt aW ≤ 63) (aAW : ∀ k : Nat, 0 ≤ Int32.toInt (m_x k) ∧ Int32.toInt (m_x k) ≤ 99) (xK : ∀ k : Nat, 0 ≤ Int32.toInt (gR k) ∧ Int32.toInt (gR k) ≤ 99) (yR : ∀ k : Nat, 0 ≤ Int32.toInt (pW k) ∧ Int32.toInt (pW k) ≤ 9) (xT : ∀ k : Nat, 0 ≤ Int32.toInt (nG k) ∧ Int32.toInt (nG k) ≤ 99) (yF : ∀ k : Nat, 0 ≤ Int32.toInt (oO k) ∧ Int32.toInt (oO k) ≤ 99) (zG : ∀ k : Nat, -128 ≤ Int32.toInt (qO k) ∧ Int32.toInt (qO k) ≤ 127) (zI : ∀ k : Nat, -128 ≤ Int32.toInt (qQ k) ∧ Int32.toInt (qQ k) ≤ 127) (hc0 : jD = 2 → Int32.toInt oF ≤ 40) (hx0 : Int32.toInt rP ≤ Int32.toInt oF) (hx1 : Int32.toInt oF - Int32.toInt rP < rn + 1) (hpost : ∀ (r : Int32) (aAm : Int32) (zH : Int32), (0 ≤ Int32.toInt aAm ∧ Int32.toInt aAm ≤ 80) → (-1 ≤ Int32.toInt zH ∧ Int32.toInt zH ≤ 80) → (Int32.toInt rP ≤ Int32.toInt aAm) → (Int32.toInt aAm ≤ Int32.toInt oF) → post r aAm zH) : wp_X10_held WT WH post p0 jD m_length oF rP dQ bZ aR aE bI aW m_x gR pW nG oO qO qQ := by
  have l0 := aI2
  have l1 := aEc
  have l2 := li_60
  have l3 := li_61
  have l4 := li_62
  refine t_X10_sum hT hH h_p0 yM zE aAR aA1 aAA zT yL xQ yY yK aAW xK yR xT yF zG zI (by omega) (by omega) (by omega) (fun r3 m_at_1 m_wrong_2 h_m_at_1 h_m_wrong_2 ox4 ox5 => ?_)
  refine And.intro (fun c6 => ?_) (fun c6 => ?_)
  · skip
    have c6 := mt (zJ _ _).mpr c6
    refine And.intro (fun _ => ?_) (fun h9 => absurd h9 (by decide))
    refine And.intro (fun _ => ?_) (fun h9 => absurd h9 (by decide))
    refine And.intro (fun c7 => ?_) (fun c7 => ?_)
    · skip
      have c7 := mt (zJ _ _).mpr c7
      refine And.intro (fun _ => ?_) (fun h9 => absurd h9 (by decide))
      refine And.intro (fun _ => ?_) (fun h9 => absurd h9 (by decide))
      refine And.intro (fun c8 => ?_) (fun c8 => ?_)
      · skip
        have c8 := mt (zJ _ _).mpr c8
        refine And.intro (fun _ => ?_) (fun h9 => absurd h9 (by decide))
        refine And.intro (fun _ => ?_) (fun h9 => absurd h9 (by decide))
        exact hpost _ _ _ h_m_at_1 h_m_wrong_2 (by omega) (by omega)
      · skip
        have c8 := (zJ _ _).mp c8
        exfalso; omega
    · skip
      have c7 := (zJ _ _).mp c7
      exfalso; omega
  · skip
    have c6 := (zJ _ _).mp c6
    refine And.intro (fun h9 => absurd h9 (by decide)) (fun _ => ?_)
    refine aOq yM (by omega) (by omega) h_m_at_1 zG zI (by omega) (fun r9 h_r9 ox10 ox11 => ?_)
    refine And.intro (fun c12 => ?_) (fun c12 => ?_)
    · skip
      have c12 := (zJ _ _).mp c12
      intro v13 ev13
      have f14 : Int32.toInt (m_at_1 + 1) = Int32.toInt m_at_1 + Int32.toInt (1 : Int32) := aAD _ _ (by omega)
      rw [← ev13] at f14
      refine And.intro (fun h9 => absurd h9 (by decide)) (fun _ => ?_)
      refine t_X10_sum hT hH h_p0 yM zE aAR (by omega) (by omega) zT yL xQ yY yK aAW xK yR xT yF zG zI (by omega) (by omega) (by omega) (fun r17 m_at_15 m_wrong_16 h_m_at_15 h_m_wrong_16 ox18 ox19 => ?_)
      have f21 := aAT r3
      have f22 := aAT r17
      refine And.intro (fun c20 => ?_) (fun c20 => ?_)
      · skip
        have c20 := (aAO _ _).mp c20
        exact hpost _ _ _ h_m_at_15 h_m_wrong_16 (by omega) (by omega)
      · skip
        have c20 := mt (aAO _ _).mpr c20
        exact hpost _ _ _ h_m_at_15 h_m_wrong_16 (by omega) (by omega)
    · skip
      have c12 := mt (zJ _ _).mpr c12
      refine And.intro (fun _ => ?_) (fun h9 => absurd h9 (by decide))
      refine And.intro (fun c23 => ?_) (fun c23 => ?_)
      · skip
        have c23 := mt (zJ _ _).mpr c23
        exfalso; omega
      · skip
        have c23 := (zJ _ _).mp c23
        refine And.intro (fun h9 => absurd h9 (by decide)) (fun _ => ?_)
        refine aOq yM (by omega) (by omega) h_m_at_1 zG zI (by omega) (fun r24 h_r24 ox25 ox26 => ?_)
        refine And.intro (fun c27 => ?_) (fun c27 => ?_)
        · skip
          have c27 := (zJ _ _).mp c27
          intro v28 ev28
          have f29 : Int32.toInt (m_at_1 + 1) = Int32.toInt m_at_1 + Int32.toInt (1 : Int32) := aAD _ _ (by omega)
          rw [← ev28] at f29
          refine And.intro (fun h9 => absurd h9 (by decide)) (fun _ => ?_)
          refine t_X10_sum hT hH h_p0 yM zE aAR (by omega) (by omega) zT yL xQ yY yK aAW xK yR xT yF zG zI (by omega) (by omega) (by omega) (fun r32 m_at_30 m_wrong_31 h_m_at_30 h_m_wrong_31 ox33 ox34 => ?_)
          have f36 := aAT r3
          have f37 := aAT r32
          refine And.intro (fun c35 => ?_) (fun c35 => ?_)
          · skip
            have c35 := (aAO _ _).mp c35
            exact hpost _ _ _ h_m_at_30 h_m_wrong_31 (by omega) (by omega)
          · skip
            have c35 := mt (aAO _ _).mpr c35
            exact hpost _ _ _ h_m_at_30 h_m_wrong_31 (by omega) (by omega)
        · skip
          have c27 := mt (zJ _ _).mpr c27
          refine And.intro (fun _ => ?_) (fun h9 => absurd h9 (by decide))
          refine And.intro (fun c38 => ?_) (fun c38 => ?_)
          · skip
            have c38 := mt (zJ _ _).mpr c38
            exfalso; omega
          · skip
            have c38 := (zJ _ _).mp c38
            refine And.intro (fun h9 => absurd h9 (by decide)) (fun _ => ?_)
            refine aOq yM (by omega) (by omega) h_m_at_1 zG zI (by omega) (fun r39 h_r39 ox40 ox41 => ?_)
            refine And.intro (fun c42 => ?_) (fun c42 => ?_)
            · skip
              have c42 := (zJ _ _).mp c42
              intro v43 ev43
              have f44 : Int32.toInt (m_at_1 + 1) = Int32.toInt m_at_1 + Int32.toInt (1 : Int32) := aAD _ _ (by omega)
              rw [← ev43] at f44
              refine And.intro (fun h9 => absurd h9 (by decide)) (fun _ => ?_)
              refine t_X10_sum hT hH h_p0 yM zE aAR (by omega) (by omega) zT yL xQ yY yK aAW xK yR xT yF zG zI (by omega) (by omega) (by omega) (fun r47 m_at_45 m_wrong_46 h_m_at_45 h_m_wrong_46 ox48 ox49 => ?_)
              have f51 := aAT r3
              have f52 := aAT r47
              refine And.intro (fun c50 => ?_) (fun c50 => ?_)
              · skip
                have c50 := mt (zJ _ _).mpr c50
                exact hpost _ _ _ h_m_at_45 h_m_wrong_46 (by omega) (by omega)
              · skip
                have c50 := (zJ _ _).mp c50
                exact hpost _ _ _ h_m_at_45 h_m_wrong_46 (by omega) (by omega)
            · skip
              have c42 := mt (zJ _ _).mpr c42
              refine And.intro (fun _ => ?_) (fun h9 => absurd h9 (by decide))
              exact hpost _ _ _ h_m_at_1 h_m_wrong_2 (by omega) (by omega)
