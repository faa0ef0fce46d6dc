def aUg (W : aOw) (rn : Int) : Prop := ∀ {post : Int32 → Int32 → Int32 → Prop} {p0 : Int32} {jD : Nat} {m_length oF rP dQ bZ aR aE bI aW : Int32} {m_x gR pW nG oO qO qQ : Nat → Int32} (h_p0 : 0 ≤ Int32.toInt p0 ∧ Int32.toInt p0 ≤ 4) (yM : jD = 1 ∨ jD = 2) (zE : 1 ≤ Int32.toInt m_length ∧ Int32.toInt m_length ≤ 80) (aAR : 40 ≤ Int32.toInt oF ∧ Int32.toInt oF ≤ 40) (aA1 : 0 ≤ Int32.toInt rP ∧ Int32.toInt rP ≤ 80) (aAA : -1 ≤ Int32.toInt dQ ∧ Int32.toInt dQ ≤ -1) (zT : 0 ≤ Int32.toInt bZ ∧ Int32.toInt bZ ≤ 1) (yL : 0 ≤ Int32.toInt aR ∧ Int32.toInt aR ≤ 15) (xQ : 0 ≤ Int32.toInt aE ∧ Int32.toInt aE ≤ 7) (yY : 0 ≤ Int32.toInt bI ∧ Int32.toInt bI ≤ 1) (yK : 0 ≤ Int32.toInt aW ∧ Int32.toInt aW ≤ 63) (aAW : ∀ k : Nat, 0 ≤ Int32.toInt (m_x k) ∧ Int32.toInt (m_x k) ≤ 99) (xK : ∀ k : Nat, 0 ≤ Int32.toInt (gR k) ∧ Int32.toInt (gR k) ≤ 99) (yR : ∀ k : Nat, 0 ≤ Int32.toInt (pW k) ∧ Int32.toInt (pW k) ≤ 9) (xT : ∀ k : Nat, 0 ≤ Int32.toInt (nG k) ∧ Int32.toInt (nG k) ≤ 99) (yF : ∀ k : Nat, 0 ≤ Int32.toInt (oO k) ∧ Int32.toInt (oO k) ≤ 99) (zG : ∀ k : Nat, -128 ≤ Int32.toInt (qO k) ∧ Int32.toInt (qO k) ≤ 127) (zI : ∀ k : Nat, -128 ≤ Int32.toInt (qQ k) ∧ Int32.toInt (qQ k) ≤ 127) (hc0 : jD = 2 → Int32.toInt oF ≤ 40) (hx0 : Int32.toInt rP ≤ Int32.toInt oF) (hx1 : Int32.toInt oF - Int32.toInt rP < rn) (hpost : ∀ (r : Int32) (aAm : Int32) (zH : Int32), (0 ≤ Int32.toInt aAm ∧ Int32.toInt aAm ≤ 80) → (-1 ≤ Int32.toInt zH ∧ Int32.toInt zH ≤ 80) → (Int32.toInt rP ≤ Int32.toInt aAm) → (Int32.toInt aAm ≤ Int32.toInt oF) → post r aAm zH), W post p0 jD m_length oF rP dQ bZ aR aE bI aW m_x gR pW nG oO qO qQ
def aYK (W : aOw) (rn : Int) : Prop := ∀ {post : Int32 → Int32 → Int32 → Prop} {p0 : Int32} {jD : Nat} {m_length oF rP dQ bZ aR aE bI aW : Int32} {m_x gR pW nG oO qO qQ : Nat → Int32} (h_p0 : 0 ≤ Int32.toInt p0 ∧ Int32.toInt p0 ≤ 4) (yM : jD = 1 ∨ jD = 2) (zE : 1 ≤ Int32.toInt m_length ∧ Int32.toInt m_length ≤ 80) (aAR : 40 ≤ Int32.toInt oF ∧ Int32.toInt oF ≤ 40) (aA1 : 0 ≤ Int32.toInt rP ∧ Int32.toInt rP ≤ 80) (aAA : -1 ≤ Int32.toInt dQ ∧ Int32.toInt dQ ≤ -1) (zT : 0 ≤ Int32.toInt bZ ∧ Int32.toInt bZ ≤ 1) (yL : 0 ≤ Int32.toInt aR ∧ Int32.toInt aR ≤ 15) (xQ : 0 ≤ Int32.toInt aE ∧ Int32.toInt aE ≤ 7) (yY : 0 ≤ Int32.toInt bI ∧ Int32.toInt bI ≤ 1) (yK : 0 ≤ Int32.toInt aW ∧ Int32.toInt aW ≤ 63) (aAW : ∀ k : Nat, 0 ≤ Int32.toInt (m_x k) ∧ Int32.toInt (m_x k) ≤ 99) (xK : ∀ k : Nat, 0 ≤ Int32.toInt (gR k) ∧ Int32.toInt (gR k) ≤ 99) (yR : ∀ k : Nat, 0 ≤ Int32.toInt (pW k) ∧ Int32.toInt (pW k) ≤ 9) (xT : ∀ k : Nat, 0 ≤ Int32.toInt (nG k) ∧ Int32.toInt (nG k) ≤ 99) (yF : ∀ k : Nat, 0 ≤ Int32.toInt (oO k) ∧ Int32.toInt (oO k) ≤ 99) (zG : ∀ k : Nat, -128 ≤ Int32.toInt (qO k) ∧ Int32.toInt (qO k) ≤ 127) (zI : ∀ k : Nat, -128 ≤ Int32.toInt (qQ k) ∧ Int32.toInt (qQ k) ≤ 127) (hc0 : jD = 2 → Int32.toInt oF ≤ 40) (hx0 : Int32.toInt rP ≤ Int32.toInt oF) (hx1 : Int32.toInt oF - Int32.toInt rP < rn) (hpost : ∀ (r : Int32) (aAm : Int32) (zH : Int32), (0 ≤ Int32.toInt aAm ∧ Int32.toInt aAm ≤ 80) → (-1 ≤ Int32.toInt zH ∧ Int32.toInt zH ≤ 80) → (Int32.toInt rP ≤ Int32.toInt aAm) → (Int32.toInt aAm ≤ Int32.toInt oF) → post r aAm zH), W post p0 jD m_length oF rP dQ bZ aR aE bI aW m_x gR pW nG oO qO qQ
set_option maxHeartbeats 8000000 in
set_option maxRecDepth 200000 in
theorem ts_X10_thing_136 {post : Int32 → Int32 → Int32 → Prop} {WT WH : aOw} {rn : Int} (hT : aUg WT rn) (hH : aYK WH rn) {aLe : Int32} (jD : Nat) (m_length oF bZ aR aE bI aW : Int32) (m_x gR pW nG oO qO qQ : Nat → Int32) (yM : jD = 1 ∨ jD = 2) (zE : 1 ≤ Int32.toInt m_length ∧ Int32.toInt m_length ≤ 80) (aAR : 40 ≤ Int32.toInt oF ∧ Int32.toInt oF ≤ 40) (zT : 0 ≤ Int32.toInt bZ ∧ Int32.toInt bZ ≤ 1) (yL : 0 ≤ Int32.toInt aR ∧ Int32.toInt aR ≤ 15) (xQ : 0 ≤ Int32.toInt aE ∧ Int32.toInt aE ≤ 7) (yY : 0 ≤ Int32.toInt bI ∧ Int32.toInt bI ≤ 1) (yK : 0 ≤ Int32.toInt aW ∧ Int32.toInt aW ≤ 63) (aAW : ∀ k : Nat, 0 ≤ Int32.toInt (m_x k) ∧ Int32.toInt (m_x k) ≤ 99) (xK : ∀ k : Nat, 0 ≤ Int32.toInt (gR k) ∧ Int32.toInt (gR k) ≤ 99) (yR : ∀ k : Nat, 0 ≤ Int32.toInt (pW k) ∧ Int32.toInt (pW k) ≤ 9) (xT : ∀ k : Nat, 0 ≤ Int32.toInt (nG k) ∧ Int32.toInt (nG k) ≤ 99) (yF : ∀ k : Nat, 0 ≤ Int32.toInt (oO k) ∧ Int32.toInt (oO k) ≤ 99) (zG : ∀ k : Nat, -128 ≤ Int32.toInt (qO k) ∧ Int32.toInt (qO k) ≤ 127) (zI : ∀ k : Nat, -128 ≤ Int32.toInt (qQ k) ∧ Int32.toInt (qQ k) ≤ 127) (hc0 : jD = 2 → Int32.toInt oF ≤ 40) (hpost : ∀ (r : Int32) (aAm : Int32) (zH : Int32), (0 ≤ Int32.toInt aAm ∧ Int32.toInt aAm ≤ 80) → (-1 ≤ Int32.toInt zH ∧ Int32.toInt zH ≤ 80) → (Int32.toInt aLe ≤ Int32.toInt aAm) → (Int32.toInt aAm ≤ Int32.toInt oF) → post r aAm zH) (x2 rP dQ : Int32) (aBN : 100 ≤ Int32.toInt x2 ∧ Int32.toInt x2 ≤ 121) (aA1 : 0 ≤ Int32.toInt rP ∧ Int32.toInt rP ≤ 80) (aAA : -1 ≤ Int32.toInt dQ ∧ Int32.toInt dQ ≤ -1) (hx0 : Int32.toInt rP ≤ Int32.toInt oF) (hx1 : Int32.toInt oF - Int32.toInt rP < rn + 1) (hx2 : Int32.toInt aLe ≤ Int32.toInt rP) (hx3 : Int32.toInt rP < Int32.toInt oF) : aJK WT WH post jD m_length oF bZ aR aE bI aW m_x gR pW nG oO qO qQ x2 rP dQ := by
  have l0 := aE0
  have l1 := aEc
  have l2 := li_100
  have l3 := li_107
  have l4 := li_115
  have l5 := li_117
  have l6 := li_119
  have l7 := li_121
  intro v1 ev1
  have f2 : Int32.toInt (rP + 1) = Int32.toInt rP + Int32.toInt (1 : Int32) := aAD _ _ (by omega)
  rw [← ev1] at f2
  refine And.intro (fun c3 => ?_) (fun c3 => ?_)
  · skip
    have c3 := (zJ _ _).mp c3
    exact hpost _ _ _ (by omega) (by omega) (by omega) (by omega)
  · skip
    have c3 := mt (zJ _ _).mpr c3
    refine And.intro (fun c4 => ?_) ?_
    · skip
      have c4 := (zJ _ _).mp c4
      refine And.intro (aBZ (by omega)) ?_
      intro v5 ev5
      have f6 := aAW aR.toNatClampNeg
      have hv5 := congrArg Int32.toInt ev5
      refine And.intro (aBZ (by omega)) ?_
      intro v7 ev7
      have f9 := xT aE.toNatClampNeg
      have f8 : Int32.toInt (v5 - (nG aE.toNatClampNeg)) = Int32.toInt v5 - Int32.toInt (nG aE.toNatClampNeg) := aCA _ _ (by omega)
      rw [← ev7] at f8
      intro v10 ev10
      have f11 := ti_abs v7 (by omega)
      have hv10 := congrArg Int32.toInt ev10
      exact hpost _ _ _ (by omega) (by omega) (by omega) (by omega)
    refine And.intro (fun c12 => ?_) ?_
    · skip
      have c12 := (zJ _ _).mp c12
      exact hpost _ _ _ (by omega) (by omega) (by omega) (by omega)
    refine And.intro (fun c13 => ?_) ?_
    · skip
      have c13 := (zJ _ _).mp c13
      exact hpost _ _ _ (by omega) (by omega) (by omega) (by omega)
    refine And.intro (fun c14 => ?_) ?_
    · skip
      have c14 := (zJ _ _).mp c14
      refine And.intro (aBZ (by omega)) ?_
      intro v15 ev15
      have f16 := xK aR.toNatClampNeg
      have hv15 := congrArg Int32.toInt ev15
      refine And.intro (aBZ (by omega)) ?_
      intro v17 ev17
      have f19 := yF aE.toNatClampNeg
      have f18 : Int32.toInt (v15 - (oO aE.toNatClampNeg)) = Int32.toInt v15 - Int32.toInt (oO aE.toNatClampNeg) := aCA _ _ (by omega)
      rw [← ev17] at f18
      intro v20 ev20
      have f21 := ti_max (0 : Int32) v17
      have hv20 := congrArg Int32.toInt ev20
      exact hpost _ _ _ (by omega) (by omega) (by omega) (by omega)
    refine And.intro (fun c22 => ?_) ?_
    · skip
      have c22 := (zJ _ _).mp c22
      refine And.intro (aBZ (by omega)) ?_
      exact hpost _ _ _ (by omega) (by omega) (by omega) (by omega)
    refine And.intro (fun c23 => ?_) ?_
    · skip
      have c23 := (zJ _ _).mp c23
      refine And.intro (aBZ (by omega)) ?_
      exact hpost _ _ _ (by omega) (by omega) (by omega) (by omega)
    intro c24 c25 c26 c27 c28 c29
    have c24 := mt (zJ _ _).mpr c24
    have c25 := mt (zJ _ _).mpr c25
    have c26 := mt (zJ _ _).mpr c26
    have c27 := mt (zJ _ _).mpr c27
    have c28 := mt (zJ _ _).mpr c28
    have c29 := mt (zJ _ _).mpr c29
    exact hpost _ _ _ (by omega) (by omega) (by omega) (by omega)
set_option maxHeartbeats 8000000 in
set_option maxRecDepth 200000 in
theorem ts_X10_thing_67 {post : Int32 → Int32 → Int32 → Prop} {WT WH : aOw} {rn : Int} (hT : aUg WT rn) (hH : aYK WH rn) {aLe : Int32} (jD : Nat) (m_length oF bZ aR aE bI aW : Int32) (m_x gR pW nG oO qO qQ : Nat → Int32) (yM : jD = 1 ∨ jD = 2) (zE : 1 ≤ Int32.toInt m_length ∧ Int32.toInt m_length ≤ 80) (aAR : 40 ≤ Int32.toInt oF ∧ Int32.toInt oF ≤ 40) (zT : 0 ≤ Int32.toInt bZ ∧ Int32.toInt bZ ≤ 1) (yL : 0 ≤ Int32.toInt aR ∧ Int32.toInt aR ≤ 15) (xQ : 0 ≤ Int32.toInt aE ∧ Int32.toInt aE ≤ 7) (yY : 0 ≤ Int32.toInt bI ∧ Int32.toInt bI ≤ 1) (yK : 0 ≤ Int32.toInt aW ∧ Int32.toInt aW ≤ 63) (aAW : ∀ k : Nat, 0 ≤ Int32.toInt (m_x k) ∧ Int32.toInt (m_x k) ≤ 99) (xK : ∀ k : Nat, 0 ≤ Int32.toInt (gR k) ∧ Int32.toInt (gR k) ≤ 99) (yR : ∀ k : Nat, 0 ≤ Int32.toInt (pW k) ∧ Int32.toInt (pW k) ≤ 9) (xT : ∀ k : Nat, 0 ≤ Int32.toInt (nG k) ∧ Int32.toInt (nG k) ≤ 99) (yF : ∀ k : Nat, 0 ≤ Int32.toInt (oO k) ∧ Int32.toInt (oO k) ≤ 99) (zG : ∀ k : Nat, -128 ≤ Int32.toInt (qO k) ∧ Int32.toInt (qO k) ≤ 127) (zI : ∀ k : Nat, -128 ≤ Int32.toInt (qQ k) ∧ Int32.toInt (qQ k) ≤ 127) (hc0 : jD = 2 → Int32.toInt oF ≤ 40) (hpost : ∀ (r : Int32) (aAm : Int32) (zH : Int32), (0 ≤ Int32.toInt aAm ∧ Int32.toInt aAm ≤ 80) → (-1 ≤ Int32.toInt zH ∧ Int32.toInt zH ≤ 80) → (Int32.toInt aLe ≤ Int32.toInt aAm) → (Int32.toInt aAm ≤ Int32.toInt oF) → post r aAm zH) (x2 rP dQ : Int32) (aBN : -1 ≤ Int32.toInt x2 ∧ Int32.toInt x2 ≤ 255) (aA1 : 0 ≤ Int32.toInt rP ∧ Int32.toInt rP ≤ 80) (aAA : -1 ≤ Int32.toInt dQ ∧ Int32.toInt dQ ≤ -1) (hx0 : Int32.toInt rP ≤ Int32.toInt oF) (hx1 : Int32.toInt oF - Int32.toInt rP < rn + 1) (hx2 : Int32.toInt aLe ≤ Int32.toInt rP) (hx3 : Int32.toInt x2 = -1 ∨ Int32.toInt rP < Int32.toInt oF) : ws_X10_thing_67 WT WH post jD m_length oF bZ aR aE bI aW m_x gR pW nG oO qO qQ x2 rP dQ := by
  have l0 := aI2
  have l1 := li_100
  have l2 := li_107
  have l3 := li_111
  have l4 := li_115
  have l5 := li_117
  have l6 := li_119
  have l7 := li_121
  have l8 := li_3
  have l9 := li_48
  have l10 := li_57
  refine And.intro (fun c30 => ?_) (fun c30 => ?_)
  · skip
    have c30 := (aAd _ _).mp c30
    refine And.intro (fun _ => ?_) (fun h9 => absurd h9 (by decide))
    refine And.intro (fun c31 => ?_) (fun c31 => ?_)
    · skip
      have c31 := (zJ _ _).mp c31
      exfalso; omega
    · skip
      have c31 := mt (zJ _ _).mpr c31
      refine And.intro (fun c32 => ?_) (fun c32 => ?_)
      · skip
        have c32 := (zJ _ _).mp c32
        exfalso; omega
      · skip
        have c32 := mt (zJ _ _).mpr c32
        refine And.intro (fun c33 => ?_) (fun c33 => ?_)
        · skip
          have c33 := (zJ _ _).mp c33
          exfalso; omega
        · skip
          have c33 := mt (zJ _ _).mpr c33
          refine And.intro (fun c34 => ?_) (fun c34 => ?_)
          · skip
            have c34 := (zJ _ _).mp c34
            exfalso; omega
          · skip
            have c34 := mt (zJ _ _).mpr c34
            refine And.intro (fun c35 => ?_) (fun c35 => ?_)
            · skip
              have c35 := (zJ _ _).mp c35
              exfalso; omega
            · skip
              have c35 := mt (zJ _ _).mpr c35
              refine And.intro (fun c36 => ?_) (fun c36 => ?_)
              · skip
                have c36 := (zJ _ _).mp c36
                exfalso; omega
              · skip
                have c36 := mt (zJ _ _).mpr c36
                refine And.intro (fun c37 => ?_) (fun c37 => ?_)
                · skip
                  have c37 := (zJ _ _).mp c37
                  exfalso; omega
                · skip
                  have c37 := mt (zJ _ _).mpr c37
                  refine And.intro (fun c38 => ?_) (fun c38 => ?_)
                  · skip
                    have c38 := mt (zJ _ _).mpr c38
                    exfalso; omega
                  · skip
                    have c38 := (zJ _ _).mp c38
                    refine And.intro (fun h9 => absurd h9 (by decide)) (fun _ => ?_)
                    exact hpost _ _ _ aA1 (by omega) (by omega) (by omega)
  · skip
    have c30 := mt (aAd _ _).mpr c30
    refine And.intro (fun c39 => ?_) (fun c39 => ?_)
    · skip
      have c39 := (aAd _ _).mp c39
      refine And.intro (fun _ => ?_) (fun h9 => absurd h9 (by decide))
      refine And.intro (fun c40 => ?_) (fun c40 => ?_)
      · skip
        have c40 := (zJ _ _).mp c40
        exact ts_X10_thing_136 hT hH jD m_length oF bZ aR aE bI aW m_x gR pW nG oO qO qQ yM zE aAR zT yL xQ yY yK aAW xK yR xT yF zG zI hc0 hpost x2 rP dQ (by omega) aA1 aAA hx0 hx1 hx2 (by omega)
      · skip
        have c40 := mt (zJ _ _).mpr c40
        refine And.intro (fun c41 => ?_) (fun c41 => ?_)
        · skip
          have c41 := (zJ _ _).mp c41
          exact ts_X10_thing_136 hT hH jD m_length oF bZ aR aE bI aW m_x gR pW nG oO qO qQ yM zE aAR zT yL xQ yY yK aAW xK yR xT yF zG zI hc0 hpost x2 rP dQ (by omega) aA1 aAA hx0 hx1 hx2 (by omega)
        · skip
          have c41 := mt (zJ _ _).mpr c41
          refine And.intro (fun c42 => ?_) (fun c42 => ?_)
          · skip
            have c42 := (zJ _ _).mp c42
            exact ts_X10_thing_136 hT hH jD m_length oF bZ aR aE bI aW m_x gR pW nG oO qO qQ yM zE aAR zT yL xQ yY yK aAW xK yR xT yF zG zI hc0 hpost x2 rP dQ (by omega) aA1 aAA hx0 hx1 hx2 (by omega)
          · skip
            have c42 := mt (zJ _ _).mpr c42
            refine And.intro (fun c43 => ?_) (fun c43 => ?_)
            · skip
              have c43 := (zJ _ _).mp c43
              exact ts_X10_thing_136 hT hH jD m_length oF bZ aR aE bI aW m_x gR pW nG oO qO qQ yM zE aAR zT yL xQ yY yK aAW xK yR xT yF zG zI hc0 hpost x2 rP dQ (by omega) aA1 aAA hx0 hx1 hx2 (by omega)
            · skip
              have c43 := mt (zJ _ _).mpr c43
              refine And.intro (fun c44 => ?_) (fun c44 => ?_)
              · skip
                have c44 := (zJ _ _).mp c44
                exact ts_X10_thing_136 hT hH jD m_length oF bZ aR aE bI aW m_x gR pW nG oO qO qQ yM zE aAR zT yL xQ yY yK aAW xK yR xT yF zG zI hc0 hpost x2 rP dQ (by omega) aA1 aAA hx0 hx1 hx2 (by omega)
              · skip
                have c44 := mt (zJ _ _).mpr c44
                refine And.intro (fun c45 => ?_) (fun c45 => ?_)
                · skip
                  have c45 := (zJ _ _).mp c45
                  exact ts_X10_thing_136 hT hH jD m_length oF bZ aR aE bI aW m_x gR pW nG oO qO qQ yM zE aAR zT yL xQ yY yK aAW xK yR xT yF zG zI hc0 hpost x2 rP dQ (by omega) aA1 aAA hx0 hx1 hx2 (by omega)
                · skip
                  have c45 := mt (zJ _ _).mpr c45
                  refine And.intro (fun c46 => ?_) (fun c46 => ?_)
                  · skip
                    have c46 := (zJ _ _).mp c46
                    exact ts_X10_thing_136 hT hH jD m_length oF bZ aR aE bI aW m_x gR pW nG oO qO qQ yM zE aAR zT yL xQ yY yK aAW xK yR xT yF zG zI hc0 hpost x2 rP dQ (by omega) aA1 aAA hx0 hx1 hx2 (by omega)
                  · skip
                    have c46 := mt (zJ _ _).mpr c46
                    refine And.intro (fun c47 => ?_) (fun c47 => ?_)
                    · skip
                      have c47 := mt (zJ _ _).mpr c47
                      exfalso; omega
                    · skip
                      have c47 := (zJ _ _).mp c47
                      refine And.intro (fun h9 => absurd h9 (by decide)) (fun _ => ?_)
                      exact hpost _ _ _ aA1 (by omega) (by omega) (by omega)
    · skip
      have c39 := mt (aAd _ _).mpr c39
      refine And.intro (fun h9 => absurd h9 (by decide)) (fun _ => ?_)
      refine aXA (by omega) yM (by omega) (by omega) aA1 (by omega) zG zI (by omega) (fun r50 m_at_48 m_wrong_49 h_r50 h_m_at_48 h_m_wrong_49 ox51 ox52 ox53 ox54 => ?_)
      exact hpost _ _ _ h_m_at_48 h_m_wrong_49 (by omega) (by omega)
set_option maxHeartbeats 8000000 in
set_option maxRecDepth 200000 in
theorem t_X10_thing {post : Int32 → Int32 → Int32 → Prop} {WT WH : aOw} {rn : Int} (hT : aUg WT rn) (hH : aYK WH rn) {p0 : Int32} {jD : Nat} {m_length oF rP dQ bZ aR aE bI aW : Int32} {m_x gR pW nG oO qO qQ : Nat → Int32} (h_p0 : 0 ≤ Int32.toInt p0 ∧ Int32.toInt p0 ≤ 4) (yM : jD = 1 ∨ jD = 2) (zE : 1 ≤ Int32.toInt m_length ∧ Int32.toInt m_length ≤ 80) (aAR : 40 ≤ Int32.toInt oF ∧ Int32.toInt oF ≤ 40) (aA1 : 0 ≤ Int32.toInt rP ∧ Int32.toInt rP ≤ 80) (aAA : -1 ≤ Int32.toInt dQ ∧ Int32.toInt dQ ≤ -1) (zT : 0 ≤ Int32.toInt bZ ∧ Int32.toInt bZ ≤ 1) (yL : 0 ≤ Int32.toInt aR ∧ Int32.toInt aR ≤ 15) (xQ : 0 ≤ Int32.toInt aE ∧ Int32.toInt aE ≤ 7) (yY : 0 ≤ Int32.toInt bI ∧ Int32.toInt bI ≤ 1) (yK : 0 ≤ Int32.toInt aW ∧ Int32.toInt aW ≤ 63) (aAW : ∀ k : Nat, 0 ≤ Int32.toInt (m_x k) ∧ Int32.toInt (m_x k) ≤ 99) (xK : ∀ k : Nat, 0 ≤ Int32.toInt (gR k) ∧ Int32.toInt (gR k) ≤ 99) (yR : ∀ k : Nat, 0 ≤ Int32.toInt (pW k) ∧ Int32.toInt (pW k) ≤ 9) (xT : ∀ k : Nat, 0 ≤ Int32.toInt (nG k) ∧ Int32.toInt (nG k) ≤ 99) (yF : ∀ k : Nat, 0 ≤ Int32.toInt (oO k) ∧ Int32.toInt (oO k) ≤ 99) (zG : ∀ k : Nat, -128 ≤ Int32.toInt (qO k) ∧ Int32.toInt (qO k) ≤ 127) (zI : ∀ k : Nat, -128 ≤ Int32.toInt (qQ k) ∧ Int32.toInt (qQ k) ≤ 127) (hc0 : jD = 2 → Int32.toInt oF ≤ 40) (hx0 : Int32.toInt rP ≤ Int32.toInt oF) (hx1 : Int32.toInt oF - Int32.toInt rP < rn + 1) (hpost : ∀ (r : Int32) (aAm : Int32) (zH : Int32), (0 ≤ Int32.toInt aAm ∧ Int32.toInt aAm ≤ 80) → (-1 ≤ Int32.toInt zH ∧ Int32.toInt zH ≤ 80) → (Int32.toInt rP ≤ Int32.toInt aAm) → (Int32.toInt aAm ≤ Int32.toInt oF) → post r aAm zH) : wp_X10_thing WT WH post p0 jD m_length oF rP dQ bZ aR aE bI aW m_x gR pW nG oO qO qQ := by
  have l0 := aI2
  have l1 := aEc
  have l2 := li_4
  have l3 := li_40
  have l4 := li_41
  have l5 := li_45
  refine And.intro (fun c55 => ?_) (fun c55 => ?_)
  · skip
    have c55 := mt (zJ _ _).mpr c55
    exfalso; omega
  · skip
    have c55 := (zJ _ _).mp c55
    refine And.intro (fun h9 => absurd h9 (by decide)) (fun _ => ?_)
    refine aOq yM (by omega) (by omega) aA1 zG zI (by omega) (fun r56 h_r56 ox57 ox58 => ?_)
    refine And.intro (fun c59 => ?_) (fun c59 => ?_)
    · skip
      have c59 := (zJ _ _).mp c59
      intro v60 ev60
      have f61 : Int32.toInt (rP + 1) = Int32.toInt rP + Int32.toInt (1 : Int32) := aAD _ _ (by omega)
      rw [← ev60] at f61
      refine And.intro (fun h9 => absurd h9 (by decide)) (fun _ => ?_)
      refine hT h_p0 yM zE aAR (by omega) aAA zT yL xQ yY yK aAW xK yR xT yF zG zI (by omega) (by omega) (by omega) (fun r64 m_at_62 m_wrong_63 h_m_at_62 h_m_wrong_63 ox65 ox66 => ?_)
      exact hpost _ _ _ h_m_at_62 h_m_wrong_63 (by omega) (by omega)
    · skip
      have c59 := mt (zJ _ _).mpr c59
      refine And.intro (fun _ => ?_) (fun h9 => absurd h9 (by decide))
      refine And.intro (fun c67 => ?_) (fun c67 => ?_)
      · skip
        have c67 := mt (zJ _ _).mpr c67
        exfalso; omega
      · skip
        have c67 := (zJ _ _).mp c67
        refine And.intro (fun _ => ?_) (fun h9 => absurd h9 (by decide))
        refine aOq yM (by omega) (by omega) aA1 zG zI (by omega) (fun r68 h_r68 ox69 ox70 => ?_)
        refine And.intro (fun c71 => ?_) (fun c71 => ?_)
        · skip
          have c71 := mt (zJ _ _).mpr c71
          exact ts_X10_thing_67 hT hH jD m_length oF bZ aR aE bI aW m_x gR pW nG oO qO qQ yM zE aAR zT yL xQ yY yK aAW xK yR xT yF zG zI hc0 hpost r68 rP dQ h_r68 aA1 aAA (by omega) (by omega) (by omega) (by omega)
        · skip
          have c71 := (zJ _ _).mp c71
          refine And.intro (fun c72 => ?_) (fun c72 => ?_)
          · skip
            have c72 := (aAO _ _).mp c72
            exact ts_X10_thing_67 hT hH jD m_length oF bZ aR aE bI aW m_x gR pW nG oO qO qQ yM zE aAR zT yL xQ yY yK aAW xK yR xT yF zG zI hc0 hpost r68 rP dQ h_r68 aA1 aAA (by omega) (by omega) (by omega) (by omega)
          · skip
            have c72 := mt (aAO _ _).mpr c72
            intro v73 ev73
            have f74 : Int32.toInt (rP + 1) = Int32.toInt rP + Int32.toInt (1 : Int32) := aAD _ _ (by omega)
            rw [← ev73] at f74
            intro v75 ev75
            have f76 : Int32.toInt (p0 + 1) = Int32.toInt p0 + Int32.toInt (1 : Int32) := aAD _ _ (by omega)
            rw [← ev75] at f76
            refine hH (by omega) yM zE aAR (by omega) aAA zT yL xQ yY yK aAW xK yR xT yF zG zI (by omega) (by omega) (by omega) (fun r79 m_at_77 m_wrong_78 h_m_at_77 h_m_wrong_78 ox80 ox81 => ?_)
            refine And.intro (fun c82 => ?_) (fun c82 => ?_)
            · skip
              have c82 := mt (zJ _ _).mpr c82
              refine And.intro (fun _ => ?_) (fun h9 => absurd h9 (by decide))
              refine And.intro (fun h9 => absurd h9 (by decide)) (fun _ => ?_)
              refine And.intro (fun c83 => ?_) (fun c83 => ?_)
              · skip
                have c83 := mt (zJ _ _).mpr c83
                refine And.intro (fun _ => ?_) (fun h9 => absurd h9 (by decide))
                exact hpost _ _ _ h_m_at_77 h_m_wrong_78 (by omega) (by omega)
              · skip
                have c83 := (zJ _ _).mp c83
                exfalso; omega
            · skip
              have c82 := (zJ _ _).mp c82
              refine And.intro (fun h9 => absurd h9 (by decide)) (fun _ => ?_)
              refine aOq yM (by omega) (by omega) h_m_at_77 zG zI (by omega) (fun r84 h_r84 ox85 ox86 => ?_)
              refine And.intro (fun c87 => ?_) (fun c87 => ?_)
              · skip
                have c87 := (zJ _ _).mp c87
                intro v88 ev88
                have f89 : Int32.toInt (m_at_77 + 1) = Int32.toInt m_at_77 + Int32.toInt (1 : Int32) := aAD _ _ (by omega)
                rw [← ev88] at f89
                refine And.intro (fun _ => ?_) (fun h9 => absurd h9 (by decide))
                exact hpost _ _ _ (by omega) h_m_wrong_78 (by omega) (by omega)
              · skip
                have c87 := mt (zJ _ _).mpr c87
                refine And.intro (fun h9 => absurd h9 (by decide)) (fun _ => ?_)
                refine And.intro (fun c90 => ?_) (fun c90 => ?_)
                · skip
                  have c90 := mt (zJ _ _).mpr c90
                  exfalso; omega
                · skip
                  have c90 := (zJ _ _).mp c90
                  refine And.intro (fun h9 => absurd h9 (by decide)) (fun _ => ?_)
                  exact hpost _ _ _ h_m_at_77 (by omega) (by omega) (by omega)
set_option maxHeartbeats 8000000 in
set_option maxRecDepth 200000 in
theorem ts_X10_product_87 {post : Int32 → Int32 → Int32 → Prop} {WT WH : aOw} {rn : Int} (hT : aUg WT rn) (hH : aYK WH rn) {aLe : Int32} {K6 : Int32 → Int32 → Int32 → Int32 → Prop} {n6 : Int} (jD : Nat) (m_length oF bZ aR aE bI aW : Int32) (m_x gR pW nG oO qO qQ : Nat → Int32) (yM : jD = 1 ∨ jD = 2) (zE : 1 ≤ Int32.toInt m_length ∧ Int32.toInt m_length ≤ 80) (aAR : 40 ≤ Int32.toInt oF ∧ Int32.toInt oF ≤ 40) (zT : 0 ≤ Int32.toInt bZ ∧ Int32.toInt bZ ≤ 1) (yL : 0 ≤ Int32.toInt aR ∧ Int32.toInt aR ≤ 15) (xQ : 0 ≤ Int32.toInt aE ∧ Int32.toInt aE ≤ 7) (yY : 0 ≤ Int32.toInt bI ∧ Int32.toInt bI ≤ 1) (yK : 0 ≤ Int32.toInt aW ∧ Int32.toInt aW ≤ 63) (aAW : ∀ k : Nat, 0 ≤ Int32.toInt (m_x k) ∧ Int32.toInt (m_x k) ≤ 99) (xK : ∀ k : Nat, 0 ≤ Int32.toInt (gR k) ∧ Int32.toInt (gR k) ≤ 99) (yR : ∀ k : Nat, 0 ≤ Int32.toInt (pW k) ∧ Int32.toInt (pW k) ≤ 9) (xT : ∀ k : Nat, 0 ≤ Int32.toInt (nG k) ∧ Int32.toInt (nG k) ≤ 99) (yF : ∀ k : Nat, 0 ≤ Int32.toInt (oO k) ∧ Int32.toInt (oO k) ≤ 99) (zG : ∀ k : Nat, -128 ≤ Int32.toInt (qO k) ∧ Int32.toInt (qO k) ≤ 127) (zI : ∀ k : Nat, -128 ≤ Int32.toInt (qQ k) ∧ Int32.toInt (qQ k) ≤ 127) (hc0 : jD = 2 → Int32.toInt oF ≤ 40) (hpost : ∀ (r : Int32) (aAm : Int32) (zH : Int32), (0 ≤ Int32.toInt aAm ∧ Int32.toInt aAm ≤ 80) → (-1 ≤ Int32.toInt zH ∧ Int32.toInt zH ≤ 80) → (Int32.toInt aLe ≤ Int32.toInt aAm) → (Int32.toInt aAm ≤ Int32.toInt oF) → post r aAm zH) (hK6 : ∀ (x1 : Int32) (x2 : Int32) (rP : Int32) (dQ : Int32), (0 ≤ Int32.toInt x1 ∧ Int32.toInt x1 ≤ 4) → (0 ≤ Int32.toInt rP ∧ Int32.toInt rP ≤ 80) → (-1 ≤ Int32.toInt dQ ∧ Int32.toInt dQ ≤ 80) → (Int32.toInt rP ≤ Int32.toInt oF) → (Int32.toInt oF - Int32.toInt rP < rn + 1) → (Int32.toInt aLe ≤ Int32.toInt rP) → (Int32.toInt oF - Int32.toInt rP < n6) → K6 x1 x2 rP dQ) (x1 k0 rP dQ : Int32) (aBK : 0 ≤ Int32.toInt x1 ∧ Int32.toInt x1 ≤ 4) (aA1 : 0 ≤ Int32.toInt rP ∧ Int32.toInt rP ≤ 80) (aAA : -1 ≤ Int32.toInt dQ ∧ Int32.toInt dQ ≤ 80) (hx0 : Int32.toInt rP ≤ Int32.toInt oF) (hx1 : Int32.toInt oF - Int32.toInt rP < rn + 1) (hx2 : Int32.toInt aLe ≤ Int32.toInt rP) (hx3 : Int32.toInt oF - Int32.toInt rP < n6) (hn6 : Int32.toInt oF - Int32.toInt rP ≤ n6) : aNM WT WH post K6 jD m_length oF bZ aR aE bI aW m_x gR pW nG oO qO qQ x1 k0 rP dQ := by
  have f1 := aAT k0
  exact hK6 x1 k0 rP dQ aBK aA1 aAA hx0 hx1 hx2 (by omega)
set_option maxHeartbeats 8000000 in
set_option maxRecDepth 200000 in
theorem ts_X10_product_45 {post : Int32 → Int32 → Int32 → Prop} {WT WH : aOw} {rn : Int} (hT : aUg WT rn) (hH : aYK WH rn) {aLe : Int32} {K6 : Int32 → Int32 → Int32 → Int32 → Prop} {n6 : Int} (jD : Nat) (m_length oF bZ aR aE bI aW : Int32) (m_x gR pW nG oO qO qQ : Nat → Int32) (yM : jD = 1 ∨ jD = 2) (zE : 1 ≤ Int32.toInt m_length ∧ Int32.toInt m_length ≤ 80) (aAR : 40 ≤ Int32.toInt oF ∧ Int32.toInt oF ≤ 40) (zT : 0 ≤ Int32.toInt bZ ∧ Int32.toInt bZ ≤ 1) (yL : 0 ≤ Int32.toInt aR ∧ Int32.toInt aR ≤ 15) (xQ : 0 ≤ Int32.toInt aE ∧ Int32.toInt aE ≤ 7) (yY : 0 ≤ Int32.toInt bI ∧ Int32.toInt bI ≤ 1) (yK : 0 ≤ Int32.toInt aW ∧ Int32.toInt aW ≤ 63) (aAW : ∀ k : Nat, 0 ≤ Int32.toInt (m_x k) ∧ Int32.toInt (m_x k) ≤ 99) (xK : ∀ k : Nat, 0 ≤ Int32.toInt (gR k) ∧ Int32.toInt (gR k) ≤ 99) (yR : ∀ k : Nat, 0 ≤ Int32.toInt (pW k) ∧ Int32.toInt (pW k) ≤ 9) (xT : ∀ k : Nat, 0 ≤ Int32.toInt (nG k) ∧ Int32.toInt (nG k) ≤ 99) (yF : ∀ k : Nat, 0 ≤ Int32.toInt (oO k) ∧ Int32.toInt (oO k) ≤ 99) (zG : ∀ k : Nat, -128 ≤ Int32.toInt (qO k) ∧ Int32.toInt (qO k) ≤ 127) (zI : ∀ k : Nat, -128 ≤ Int32.toInt (qQ k) ∧ Int32.toInt (qQ k) ≤ 127) (hc0 : jD = 2 → Int32.toInt oF ≤ 40) (hpost : ∀ (r : Int32) (aAm : Int32) (zH : Int32), (0 ≤ Int32.toInt aAm ∧ Int32.toInt aAm ≤ 80) → (-1 ≤ Int32.toInt zH ∧ Int32.toInt zH ≤ 80) → (Int32.toInt aLe ≤ Int32.toInt aAm) → (Int32.toInt aAm ≤ Int32.toInt oF) → post r aAm zH) (hK6 : ∀ (x1 : Int32) (x2 : Int32) (rP : Int32) (dQ : Int32), (0 ≤ Int32.toInt x1 ∧ Int32.toInt x1 ≤ 4) → (0 ≤ Int32.toInt rP ∧ Int32.toInt rP ≤ 80) → (-1 ≤ Int32.toInt dQ ∧ Int32.toInt dQ ≤ 80) → (Int32.toInt rP ≤ Int32.toInt oF) → (Int32.toInt oF - Int32.toInt rP < rn + 1) → (Int32.toInt aLe ≤ Int32.toInt rP) → (Int32.toInt oF - Int32.toInt rP < n6) → K6 x1 x2 rP dQ) (x1 x2 k0 rP dQ : Int32) (aBK : 0 ≤ Int32.toInt x1 ∧ Int32.toInt x1 ≤ 4) (h_k0 : 0 ≤ Int32.toInt k0 ∧ Int32.toInt k0 ≤ 1) (aA1 : 0 ≤ Int32.toInt rP ∧ Int32.toInt rP ≤ 80) (aAA : -1 ≤ Int32.toInt dQ ∧ Int32.toInt dQ ≤ -1) (hx0 : Int32.toInt rP ≤ Int32.toInt oF) (hx1 : Int32.toInt oF - Int32.toInt rP < rn + 1) (hx2 : Int32.toInt aLe ≤ Int32.toInt rP) (hx3 : Int32.toInt rP < Int32.toInt oF) (hn6 : Int32.toInt oF - Int32.toInt rP ≤ n6) : ws_X10_product_45 WT WH post K6 jD m_length oF bZ aR aE bI aW m_x gR pW nG oO qO qQ x1 x2 k0 rP dQ := by
  have l0 := aE0
  have l1 := aEc
  intro v2 ev2
  have f3 : Int32.toInt (rP + 1) = Int32.toInt rP + Int32.toInt (1 : Int32) := aAD _ _ (by omega)
  rw [← ev2] at f3
  refine t_X10_thing hT hH aBK yM zE aAR (by omega) aAA zT yL xQ yY yK aAW xK yR xT yF zG zI (by omega) (by omega) (by omega) (fun r6 aQ5 aGh h_m_at_4 h_m_wrong_5 ox7 ox8 => ?_)
  refine And.intro (fun c9 => ?_) (fun c9 => ?_)
  · skip
    have c9 := (zJ _ _).mp c9
    have f11 := aAT r6
    refine And.intro (fun c10 => ?_) (fun c10 => ?_)
    · skip
      have c10 := mt (zJ _ _).mpr c10
      refine And.intro (mt (zJ _ _).mp (by omega)) ?_
      intro v12 ev12
      have f13 := aAT v12
      exact ts_X10_product_87 hT hH jD m_length oF bZ aR aE bI aW m_x gR pW nG oO qO qQ yM zE aAR zT yL xQ yY yK aAW xK yR xT yF zG zI hc0 hpost hK6 x1 v12 aQ5 aGh aBK h_m_at_4 h_m_wrong_5 (by omega) (by omega) (by omega) (by omega) (by omega)
    · skip
      have c10 := (zJ _ _).mp c10
      exact ts_X10_product_87 hT hH jD m_length oF bZ aR aE bI aW m_x gR pW nG oO qO qQ yM zE aAR zT yL xQ yY yK aAW xK yR xT yF zG zI hc0 hpost hK6 x1 0 aQ5 aGh aBK h_m_at_4 h_m_wrong_5 (by omega) (by omega) (by omega) (by omega) (by omega)
  · skip
    have c9 := mt (zJ _ _).mpr c9
    intro v14 ev14
    have hv14 := congrArg Int32.toInt ev14
    have f16 := aAT v14
    exact ts_X10_product_87 hT hH jD m_length oF bZ aR aE bI aW m_x gR pW nG oO qO qQ yM zE aAR zT yL xQ yY yK aAW xK yR xT yF zG zI hc0 hpost hK6 x1 v14 aQ5 aGh aBK h_m_at_4 h_m_wrong_5 (by omega) (by omega) (by omega) (by omega) (by omega)
set_option maxHeartbeats 8000000 in
set_option maxRecDepth 200000 in
theorem ts_X10_product_31 {post : Int32 → Int32 → Int32 → Prop} {WT WH : aOw} {rn : Int} (hT : aUg WT rn) (hH : aYK WH rn) {aLe : Int32} {K6 : Int32 → Int32 → Int32 → Int32 → Prop} {n6 : Int} (jD : Nat) (m_length oF bZ aR aE bI aW : Int32) (m_x gR pW nG oO qO qQ : Nat → Int32) (yM : jD = 1 ∨ jD = 2) (zE : 1 ≤ Int32.toInt m_length ∧ Int32.toInt m_length ≤ 80) (aAR : 40 ≤ Int32.toInt oF ∧ Int32.toInt oF ≤ 40) (zT : 0 ≤ Int32.toInt bZ ∧ Int32.toInt bZ ≤ 1) (yL : 0 ≤ Int32.toInt aR ∧ Int32.toInt aR ≤ 15) (xQ : 0 ≤ Int32.toInt aE ∧ Int32.toInt aE ≤ 7) (yY : 0 ≤ Int32.toInt bI ∧ Int32.toInt bI ≤ 1) (yK : 0 ≤ Int32.toInt aW ∧ Int32.toInt aW ≤ 63) (aAW : ∀ k : Nat, 0 ≤ Int32.toInt (m_x k) ∧ Int32.toInt (m_x k) ≤ 99) (xK : ∀ k : Nat, 0 ≤ Int32.toInt (gR k) ∧ Int32.toInt (gR k) ≤ 99) (yR : ∀ k : Nat, 0 ≤ Int32.toInt (pW k) ∧ Int32.toInt (pW k) ≤ 9) (xT : ∀ k : Nat, 0 ≤ Int32.toInt (nG k) ∧ Int32.toInt (nG k) ≤ 99) (yF : ∀ k : Nat, 0 ≤ Int32.toInt (oO k) ∧ Int32.toInt (oO k) ≤ 99) (zG : ∀ k : Nat, -128 ≤ Int32.toInt (qO k) ∧ Int32.toInt (qO k) ≤ 127) (zI : ∀ k : Nat, -128 ≤ Int32.toInt (qQ k) ∧ Int32.toInt (qQ k) ≤ 127) (hc0 : jD = 2 → Int32.toInt oF ≤ 40) (hpost : ∀ (r : Int32) (aAm : Int32) (zH : Int32), (0 ≤ Int32.toInt aAm ∧ Int32.toInt aAm ≤ 80) → (-1 ≤ Int32.toInt zH ∧ Int32.toInt zH ≤ 80) → (Int32.toInt aLe ≤ Int32.toInt aAm) → (Int32.toInt aAm ≤ Int32.toInt oF) → post r aAm zH) (hK6 : ∀ (x1 : Int32) (x2 : Int32) (rP : Int32) (dQ : Int32), (0 ≤ Int32.toInt x1 ∧ Int32.toInt x1 ≤ 4) → (0 ≤ Int32.toInt rP ∧ Int32.toInt rP ≤ 80) → (-1 ≤ Int32.toInt dQ ∧ Int32.toInt dQ ≤ 80) → (Int32.toInt rP ≤ Int32.toInt oF) → (Int32.toInt oF - Int32.toInt rP < rn + 1) → (Int32.toInt aLe ≤ Int32.toInt rP) → (Int32.toInt oF - Int32.toInt rP < n6) → K6 x1 x2 rP dQ) (x1 x2 rP dQ : Int32) (aBK : 0 ≤ Int32.toInt x1 ∧ Int32.toInt x1 ≤ 4) (aA1 : 0 ≤ Int32.toInt rP ∧ Int32.toInt rP ≤ 80) (aAA : -1 ≤ Int32.toInt dQ ∧ Int32.toInt dQ ≤ -1) (hx0 : Int32.toInt rP ≤ Int32.toInt oF) (hx1 : Int32.toInt oF - Int32.toInt rP < rn + 1) (hx2 : Int32.toInt aLe ≤ Int32.toInt rP) (hx3 : Int32.toInt rP < Int32.toInt oF) (hn6 : Int32.toInt oF - Int32.toInt rP ≤ n6) : ws_X10_product_31 WT WH post K6 jD m_length oF bZ aR aE bI aW m_x gR pW nG oO qO qQ x1 x2 rP dQ := by
  have l0 := aE0
  have l1 := aEc
  have l2 := li_42
  refine aOq yM (by omega) (by omega) aA1 zG zI (by omega) (fun r17 h_r17 ox18 ox19 => ?_)
  refine And.intro (fun c20 => ?_) (fun c20 => ?_)
  · skip
    have c20 := mt (zJ _ _).mpr c20
    have f21 := aAT x2
    exact ts_X10_product_45 hT hH jD m_length oF bZ aR aE bI aW m_x gR pW nG oO qO qQ yM zE aAR zT yL xQ yY yK aAW xK yR xT yF zG zI hc0 hpost hK6 x1 x2 0 rP dQ aBK (by omega) aA1 aAA hx0 hx1 hx2 hx3 hn6
  · skip
    have c20 := (zJ _ _).mp c20
    have f22 := aAT x2
    exact ts_X10_product_45 hT hH jD m_length oF bZ aR aE bI aW m_x gR pW nG oO qO qQ yM zE aAR zT yL xQ yY yK aAW xK yR xT yF zG zI hc0 hpost hK6 x1 x2 1 rP dQ aBK (by omega) aA1 aAA hx0 hx1 hx2 hx3 hn6
set_option maxHeartbeats 8000000 in
set_option maxRecDepth 200000 in
theorem ts_X10_product_6 {post : Int32 → Int32 → Int32 → Prop} {WT WH : aOw} {rn : Int} (hT : aUg WT rn) (hH : aYK WH rn) {aLe : Int32} {next : Int32 → Int32 → Int32 → Int32 → Prop} {n6 : Int} (jD : Nat) (m_length oF bZ aR aE bI aW : Int32) (m_x gR pW nG oO qO qQ : Nat → Int32) (yM : jD = 1 ∨ jD = 2) (zE : 1 ≤ Int32.toInt m_length ∧ Int32.toInt m_length ≤ 80) (aAR : 40 ≤ Int32.toInt oF ∧ Int32.toInt oF ≤ 40) (zT : 0 ≤ Int32.toInt bZ ∧ Int32.toInt bZ ≤ 1) (yL : 0 ≤ Int32.toInt aR ∧ Int32.toInt aR ≤ 15) (xQ : 0 ≤ Int32.toInt aE ∧ Int32.toInt aE ≤ 7) (yY : 0 ≤ Int32.toInt bI ∧ Int32.toInt bI ≤ 1) (yK : 0 ≤ Int32.toInt aW ∧ Int32.toInt aW ≤ 63) (aAW : ∀ k : Nat, 0 ≤ Int32.toInt (m_x k) ∧ Int32.toInt (m_x k) ≤ 99) (xK : ∀ k : Nat, 0 ≤ Int32.toInt (gR k) ∧ Int32.toInt (gR k) ≤ 99) (yR : ∀ k : Nat, 0 ≤ Int32.toInt (pW k) ∧ Int32.toInt (pW k) ≤ 9) (xT : ∀ k : Nat, 0 ≤ Int32.toInt (nG k) ∧ Int32.toInt (nG k) ≤ 99) (yF : ∀ k : Nat, 0 ≤ Int32.toInt (oO k) ∧ Int32.toInt (oO k) ≤ 99) (zG : ∀ k : Nat, -128 ≤ Int32.toInt (qO k) ∧ Int32.toInt (qO k) ≤ 127) (zI : ∀ k : Nat, -128 ≤ Int32.toInt (qQ k) ∧ Int32.toInt (qQ k) ≤ 127) (hc0 : jD = 2 → Int32.toInt oF ≤ 40) (hpost : ∀ (r : Int32) (aAm : Int32) (zH : Int32), (0 ≤ Int32.toInt aAm ∧ Int32.toInt aAm ≤ 80) → (-1 ≤ Int32.toInt zH ∧ Int32.toInt zH ≤ 80) → (Int32.toInt aLe ≤ Int32.toInt aAm) → (Int32.toInt aAm ≤ Int32.toInt oF) → post r aAm zH) (hKn : ∀ (x1 : Int32) (x2 : Int32) (rP : Int32) (dQ : Int32), (0 ≤ Int32.toInt x1 ∧ Int32.toInt x1 ≤ 4) → (0 ≤ Int32.toInt rP ∧ Int32.toInt rP ≤ 80) → (-1 ≤ Int32.toInt dQ ∧ Int32.toInt dQ ≤ 80) → (Int32.toInt rP ≤ Int32.toInt oF) → (Int32.toInt oF - Int32.toInt rP < rn + 1) → (Int32.toInt aLe ≤ Int32.toInt rP) → (Int32.toInt oF - Int32.toInt rP < n6) → next x1 x2 rP dQ) (x1 x2 rP dQ : Int32) (aBK : 0 ≤ Int32.toInt x1 ∧ Int32.toInt x1 ≤ 4) (aA1 : 0 ≤ Int32.toInt rP ∧ Int32.toInt rP ≤ 80) (aAA : -1 ≤ Int32.toInt dQ ∧ Int32.toInt dQ ≤ 80) (hx0 : Int32.toInt rP ≤ Int32.toInt oF) (hx1 : Int32.toInt oF - Int32.toInt rP < rn + 1) (hx2 : Int32.toInt aLe ≤ Int32.toInt rP) (hn6 : Int32.toInt oF - Int32.toInt rP ≤ n6) : ws_X10_product_6 WT WH post next jD m_length oF bZ aR aE bI aW m_x gR pW nG oO qO qQ x1 x2 rP dQ := by
  have l0 := aI2
  have l1 := li_42
  have l2 := li_47
  refine And.intro (fun c23 => ?_) (fun c23 => ?_)
  · skip
    have c23 := mt (zJ _ _).mpr c23
    refine And.intro (fun _ => ?_) (fun h9 => absurd h9 (by decide))
    exact hpost _ _ _ aA1 aAA (by omega) (by omega)
  · skip
    have c23 := (zJ _ _).mp c23
    refine And.intro (fun h9 => absurd h9 (by decide)) (fun _ => ?_)
    refine aOq yM (by omega) (by omega) aA1 zG zI (by omega) (fun r24 h_r24 ox25 ox26 => ?_)
    refine And.intro (fun c27 => ?_) (fun c27 => ?_)
    · skip
      have c27 := (zJ _ _).mp c27
      have f28 := aAT x2
      exact ts_X10_product_31 hT hH jD m_length oF bZ aR aE bI aW m_x gR pW nG oO qO qQ yM zE aAR zT yL xQ yY yK aAW xK yR xT yF zG zI hc0 hpost hKn x1 x2 rP dQ aBK aA1 (by omega) hx0 hx1 hx2 (by omega) hn6
    · skip
      have c27 := mt (zJ _ _).mpr c27
      refine aOq yM (by omega) (by omega) aA1 zG zI (by omega) (fun r29 h_r29 ox30 ox31 => ?_)
      refine And.intro (fun c32 => ?_) (fun c32 => ?_)
      · skip
        have c32 := mt (zJ _ _).mpr c32
        exact hpost _ _ _ aA1 aAA (by omega) (by omega)
      · skip
        have c32 := (zJ _ _).mp c32
        have f33 := aAT x2
        exact ts_X10_product_31 hT hH jD m_length oF bZ aR aE bI aW m_x gR pW nG oO qO qQ yM zE aAR zT yL xQ yY yK aAW xK yR xT yF zG zI hc0 hpost hKn x1 x2 rP dQ aBK aA1 (by omega) hx0 hx1 hx2 (by omega) hn6
set_option maxHeartbeats 8000000 in
set_option maxRecDepth 200000 in
theorem tb_X10_product_6 {post : Int32 → Int32 → Int32 → Prop} {WT WH : aOw} {rn : Int} (hT : aUg WT rn) (hH : aYK WH rn) {aLe : Int32} (jD : Nat) (m_length oF bZ aR aE bI aW : Int32) (m_x gR pW nG oO qO qQ : Nat → Int32) (yM : jD = 1 ∨ jD = 2) (zE : 1 ≤ Int32.toInt m_length ∧ Int32.toInt m_length ≤ 80) (aAR : 40 ≤ Int32.toInt oF ∧ Int32.toInt oF ≤ 40) (zT : 0 ≤ Int32.toInt bZ ∧ Int32.toInt bZ ≤ 1) (yL : 0 ≤ Int32.toInt aR ∧ Int32.toInt aR ≤ 15) (xQ : 0 ≤ Int32.toInt aE ∧ Int32.toInt aE ≤ 7) (yY : 0 ≤ Int32.toInt bI ∧ Int32.toInt bI ≤ 1) (yK : 0 ≤ Int32.toInt aW ∧ Int32.toInt aW ≤ 63) (aAW : ∀ k : Nat, 0 ≤ Int32.toInt (m_x k) ∧ Int32.toInt (m_x k) ≤ 99) (xK : ∀ k : Nat, 0 ≤ Int32.toInt (gR k) ∧ Int32.toInt (gR k) ≤ 99) (yR : ∀ k : Nat, 0 ≤ Int32.toInt (pW k) ∧ Int32.toInt (pW k) ≤ 9) (xT : ∀ k : Nat, 0 ≤ Int32.toInt (nG k) ∧ Int32.toInt (nG k) ≤ 99) (yF : ∀ k : Nat, 0 ≤ Int32.toInt (oO k) ∧ Int32.toInt (oO k) ≤ 99) (zG : ∀ k : Nat, -128 ≤ Int32.toInt (qO k) ∧ Int32.toInt (qO k) ≤ 127) (zI : ∀ k : Nat, -128 ≤ Int32.toInt (qQ k) ∧ Int32.toInt (qQ k) ≤ 127) (hc0 : jD = 2 → Int32.toInt oF ≤ 40) (hpost : ∀ (r : Int32) (aAm : Int32) (zH : Int32), (0 ≤ Int32.toInt aAm ∧ Int32.toInt aAm ≤ 80) → (-1 ≤ Int32.toInt zH ∧ Int32.toInt zH ≤ 80) → (Int32.toInt aLe ≤ Int32.toInt aAm) → (Int32.toInt aAm ≤ Int32.toInt oF) → post r aAm zH) : ∀ (n : Nat) (x1 x2 rP dQ : Int32), (0 ≤ Int32.toInt x1 ∧ Int32.toInt x1 ≤ 4) → (0 ≤ Int32.toInt rP ∧ Int32.toInt rP ≤ 80) → (-1 ≤ Int32.toInt dQ ∧ Int32.toInt dQ ≤ 80) → (Int32.toInt rP ≤ Int32.toInt oF) → (Int32.toInt oF - Int32.toInt rP < rn + 1) → (Int32.toInt aLe ≤ Int32.toInt rP) → (Int32.toInt oF - Int32.toInt rP < (n : Int)) → wb_X10_product_6 WT WH post jD m_length oF bZ aR aE bI aW m_x gR pW nG oO qO qQ n x1 x2 rP dQ := by
  intro n
  induction n with
  | zero =>
    intro x1 x2 rP dQ aBK aA1 aAA hx0 hx1 hx2 hm
    exfalso; omega
  | succ n ih =>
    intro x1 x2 rP dQ aBK aA1 aAA hx0 hx1 hx2 hm
    exact ts_X10_product_6 hT hH jD m_length oF bZ aR aE bI aW m_x gR pW nG oO qO qQ yM zE aAR zT yL xQ yY yK aAW xK yR xT yF zG zI hc0 hpost ih x1 x2 rP dQ aBK aA1 aAA hx0 hx1 hx2 (by omega)
set_option maxHeartbeats 8000000 in
set_option maxRecDepth 200000 in
theorem t_X10_product {post : Int32 → Int32 → Int32 → Prop} {WT WH : aOw} {rn : Int} (hT : aUg WT rn) (hH : aYK WH rn) {p0 : Int32} {jD : Nat} {m_length oF rP dQ bZ aR aE bI aW : Int32} {m_x gR pW nG oO qO qQ : Nat → Int32} (h_p0 : 0 ≤ Int32.toInt p0 ∧ Int32.toInt p0 ≤ 4) (yM : jD = 1 ∨ jD = 2) (zE : 1 ≤ Int32.toInt m_length ∧ Int32.toInt m_length ≤ 80) (aAR : 40 ≤ Int32.toInt oF ∧ Int32.toInt oF ≤ 40) (aA1 : 0 ≤ Int32.toInt rP ∧ Int32.toInt rP ≤ 80) (aAA : -1 ≤ Int32.toInt dQ ∧ Int32.toInt dQ ≤ -1) (zT : 0 ≤ Int32.toInt bZ ∧ Int32.toInt bZ ≤ 1) (yL : 0 ≤ Int32.toInt aR ∧ Int32.toInt aR ≤ 15) (xQ : 0 ≤ Int32.toInt aE ∧ Int32.toInt aE ≤ 7) (yY : 0 ≤ Int32.toInt bI ∧ Int32.toInt bI ≤ 1) (yK : 0 ≤ Int32.toInt aW ∧ Int32.toInt aW ≤ 63) (aAW : ∀ k : Nat, 0 ≤ Int32.toInt (m_x k) ∧ Int32.toInt (m_x k) ≤ 99) (xK : ∀ k : Nat, 0 ≤ Int32.toInt (gR k) ∧ Int32.toInt (gR k) ≤ 99) (yR : ∀ k : Nat, 0 ≤ Int32.toInt (pW k) ∧ Int32.toInt (pW k) ≤ 9) (xT : ∀ k : Nat, 0 ≤ Int32.toInt (nG k) ∧ Int32.toInt (nG k) ≤ 99) (yF : ∀ k : Nat, 0 ≤ Int32.toInt (oO k) ∧ Int32.toInt (oO k) ≤ 99) (zG : ∀ k : Nat, -128 ≤ Int32.toInt (qO k) ∧ Int32.toInt (qO k) ≤ 127) (zI : ∀ k : Nat, -128 ≤ Int32.toInt (qQ k) ∧ Int32.toInt (qQ k) ≤ 127) (hc0 : jD = 2 → Int32.toInt oF ≤ 40) (hx0 : Int32.toInt rP ≤ Int32.toInt oF) (hx1 : Int32.toInt oF - Int32.toInt rP < rn + 1) (hpost : ∀ (r : Int32) (aAm : Int32) (zH : Int32), (0 ≤ Int32.toInt aAm ∧ Int32.toInt aAm ≤ 80) → (-1 ≤ Int32.toInt zH ∧ Int32.toInt zH ≤ 80) → (Int32.toInt rP ≤ Int32.toInt aAm) → (Int32.toInt aAm ≤ Int32.toInt oF) → post r aAm zH) : wp_X10_product WT WH post p0 jD m_length oF rP dQ bZ aR aE bI aW m_x gR pW nG oO qO qQ := by
  refine t_X10_thing hT hH h_p0 yM zE aAR aA1 aAA zT yL xQ yY yK aAW xK yR xT yF zG zI (by omega) (by omega) (by omega) (fun r36 m_at_34 m_wrong_35 h_m_at_34 h_m_wrong_35 ox37 ox38 => ?_)
  have f39 := aAT r36
  exact ⟨82, tb_X10_product_6 hT hH jD m_length oF bZ aR aE bI aW m_x gR pW nG oO qO qQ yM zE aAR zT yL xQ yY yK aAW xK yR xT yF zG zI hc0 hpost _ p0 r36 m_at_34 m_wrong_35 h_p0 h_m_at_34 h_m_wrong_35 (by omega) (by omega) (by omega) (by omega)⟩
