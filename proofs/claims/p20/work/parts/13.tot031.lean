set_option maxHeartbeats 4000000 in
theorem rr_X10_t : ∀ n : Nat, aUg (rr_X10 n).1 (n : Int) ∧ aYK (rr_X10 n).2 (n : Int) := by
  intro n
  induction n with
  | zero =>
    refine ⟨?_, ?_⟩
    · intro post p0 jD m_length oF rP dQ bZ aR aE bI aW m_x gR pW nG oO qO qQ h_p0 yM zE aAR aA1 aAA zT yL xQ yY yK aAW xK yR xT yF zG zI hc0 hx0 hx1 hpost
      exfalso; omega
    · intro post p0 jD m_length oF rP dQ bZ aR aE bI aW m_x gR pW nG oO qO qQ h_p0 yM zE aAR aA1 aAA zT yL xQ yY yK aAW xK yR xT yF zG zI hc0 hx0 hx1 hpost
      exfalso; omega
  | succ n ih =>
    refine ⟨?_, ?_⟩
    · intro post p0 jD m_length oF rP dQ bZ aR aE bI aW m_x gR pW nG oO qO qQ h_p0 yM zE aAR aA1 aAA zT yL xQ yY yK aAW xK yR xT yF zG zI hc0 hx0 hx1 hpost
      exact t_X10_thing ih.1 ih.2 h_p0 yM zE aAR aA1 aAA zT yL xQ yY yK aAW xK yR xT yF zG zI hc0 (by omega) (by omega) hpost
    · intro post p0 jD m_length oF rP dQ bZ aR aE bI aW m_x gR pW nG oO qO qQ h_p0 yM zE aAR aA1 aAA zT yL xQ yY yK aAW xK yR xT yF zG zI hc0 hx0 hx1 hpost
      exact t_X10_held ih.1 ih.2 h_p0 yM zE aAR aA1 aAA zT yL xQ yY yK aAW xK yR xT yF zG zI hc0 (by omega) (by omega) hpost
theorem t_X10_heldR {post : Int32 → Int32 → Int32 → Prop} {p0 : Int32} {jD : Nat} {m_length oF rP dQ bZ aR aE bI aW : Int32} {m_x gR pW nG oO qO qQ : Nat → Int32} (h_p0 : 0 ≤ Int32.toInt p0 ∧ Int32.toInt p0 ≤ 4) (yM : jD = 1 ∨ jD = 2) (zE : 1 ≤ Int32.toInt m_length ∧ Int32.toInt m_length ≤ 80) (aAR : 40 ≤ Int32.toInt oF ∧ Int32.toInt oF ≤ 40) (aA1 : 0 ≤ Int32.toInt rP ∧ Int32.toInt rP ≤ 80) (aAA : -1 ≤ Int32.toInt dQ ∧ Int32.toInt dQ ≤ -1) (zT : 0 ≤ Int32.toInt bZ ∧ Int32.toInt bZ ≤ 1) (yL : 0 ≤ Int32.toInt aR ∧ Int32.toInt aR ≤ 15) (xQ : 0 ≤ Int32.toInt aE ∧ Int32.toInt aE ≤ 7) (yY : 0 ≤ Int32.toInt bI ∧ Int32.toInt bI ≤ 1) (yK : 0 ≤ Int32.toInt aW ∧ Int32.toInt aW ≤ 63) (aAW : ∀ k : Nat, 0 ≤ Int32.toInt (m_x k) ∧ Int32.toInt (m_x k) ≤ 99) (xK : ∀ k : Nat, 0 ≤ Int32.toInt (gR k) ∧ Int32.toInt (gR k) ≤ 99) (yR : ∀ k : Nat, 0 ≤ Int32.toInt (pW k) ∧ Int32.toInt (pW k) ≤ 9) (xT : ∀ k : Nat, 0 ≤ Int32.toInt (nG k) ∧ Int32.toInt (nG k) ≤ 99) (yF : ∀ k : Nat, 0 ≤ Int32.toInt (oO k) ∧ Int32.toInt (oO k) ≤ 99) (zG : ∀ k : Nat, -128 ≤ Int32.toInt (qO k) ∧ Int32.toInt (qO k) ≤ 127) (zI : ∀ k : Nat, -128 ≤ Int32.toInt (qQ k) ∧ Int32.toInt (qQ k) ≤ 127) (hx0 : Int32.toInt rP ≤ Int32.toInt oF) (hx1 : jD = 2 → Int32.toInt oF ≤ 40) (hx2 : Int32.toInt oF ≤ 42) (hpost : ∀ (r : Int32) (aAm : Int32) (zH : Int32), (0 ≤ Int32.toInt aAm ∧ Int32.toInt aAm ≤ 80) → (-1 ≤ Int32.toInt zH ∧ Int32.toInt zH ≤ 80) → (Int32.toInt rP ≤ Int32.toInt aAm) → (Int32.toInt aAm ≤ Int32.toInt oF) → post r aAm zH) : wp_X10_heldR post p0 jD m_length oF rP dQ bZ aR aE bI aW m_x gR pW nG oO qO qQ := t_X10_held (rr_X10_t 43).1 (rr_X10_t 43).2 h_p0 yM zE aAR aA1 aAA zT yL xQ yY yK aAW xK yR xT yF zG zI (by omega) (by omega) (by omega) hpost
set_option maxHeartbeats 8000000 in
set_option maxRecDepth 200000 in
theorem ts_X10_rule_73 {post : Int32 → Int32 → Int32 → Nat → Int32 → Int32 → Int32 → Int32 → Int32 → Int32 → (Nat → Int32) → Prop} {next : Int32 → Int32 → Int32 → Int32 → Nat → Int32 → Int32 → Int32 → Int32 → Int32 → Int32 → (Nat → Int32) → Prop} {n73 : Int} (aR aE bI aW : Int32) (m_x gR pW nG oO qO : Nat → Int32) (yL : 0 ≤ Int32.toInt aR ∧ Int32.toInt aR ≤ 15) (xQ : 0 ≤ Int32.toInt aE ∧ Int32.toInt aE ≤ 7) (yY : 0 ≤ Int32.toInt bI ∧ Int32.toInt bI ≤ 1) (yK : 0 ≤ Int32.toInt aW ∧ Int32.toInt aW ≤ 63) (aAW : ∀ k : Nat, 0 ≤ Int32.toInt (m_x k) ∧ Int32.toInt (m_x k) ≤ 99) (xK : ∀ k : Nat, 0 ≤ Int32.toInt (gR k) ∧ Int32.toInt (gR k) ≤ 99) (yR : ∀ k : Nat, 0 ≤ Int32.toInt (pW k) ∧ Int32.toInt (pW k) ≤ 9) (xT : ∀ k : Nat, 0 ≤ Int32.toInt (nG k) ∧ Int32.toInt (nG k) ≤ 99) (yF : ∀ k : Nat, 0 ≤ Int32.toInt (oO k) ∧ Int32.toInt (oO k) ≤ 99) (zG : ∀ k : Nat, -128 ≤ Int32.toInt (qO k) ∧ Int32.toInt (qO k) ≤ 127) (hpost : ∀ (r : Int32) (aBT : Int32) (xG : Int32) (aAP : Nat) (zS : Int32) (aAz : Int32) (aAm : Int32) (zH : Int32) (aUt : Int32) (aAM : Int32) (m_rule' : Nat → Int32), (-100 ≤ Int32.toInt r ∧ Int32.toInt r ≤ 0) → (0 ≤ Int32.toInt aBT ∧ Int32.toInt aBT ≤ 0) → (0 ≤ Int32.toInt xG ∧ Int32.toInt xG ≤ 0) → (aAP = 1) → (0 ≤ Int32.toInt zS ∧ Int32.toInt zS ≤ 80) → (40 ≤ Int32.toInt aAz ∧ Int32.toInt aAz ≤ 40) → (0 ≤ Int32.toInt aAm ∧ Int32.toInt aAm ≤ 80) → (-1 ≤ Int32.toInt zH ∧ Int32.toInt zH ≤ 80) → (0 ≤ Int32.toInt aUt ∧ Int32.toInt aUt ≤ 40) → (0 ≤ Int32.toInt aAM ∧ Int32.toInt aAM ≤ 0) → (∀ k : Nat, -128 ≤ Int32.toInt (m_rule' k) ∧ Int32.toInt (m_rule' k) ≤ 127) → post r aBT xG aAP zS aAz aAm zH aUt aAM m_rule') (hKn : ∀ (x1 : Int32) (x2 : Int32) (jC : Int32) (bY : Int32) (jD : Nat) (m_length : Int32) (oF : Int32) (rP : Int32) (dQ : Int32) (bW : Int32) (bZ : Int32) (qQ : Nat → Int32), (0 ≤ Int32.toInt x1 ∧ Int32.toInt x1 ≤ 40) → (0 ≤ Int32.toInt x2 ∧ Int32.toInt x2 ≤ 40) → (0 ≤ Int32.toInt jC ∧ Int32.toInt jC ≤ 0) → (0 ≤ Int32.toInt bY ∧ Int32.toInt bY ≤ 0) → (jD = 1) → (0 ≤ Int32.toInt m_length ∧ Int32.toInt m_length ≤ 80) → (40 ≤ Int32.toInt oF ∧ Int32.toInt oF ≤ 40) → (0 ≤ Int32.toInt rP ∧ Int32.toInt rP ≤ 80) → (-1 ≤ Int32.toInt dQ ∧ Int32.toInt dQ ≤ -1) → (0 ≤ Int32.toInt bW ∧ Int32.toInt bW ≤ 40) → (0 ≤ Int32.toInt bZ ∧ Int32.toInt bZ ≤ 0) → (∀ k : Nat, -128 ≤ Int32.toInt (qQ k) ∧ Int32.toInt (qQ k) ≤ 127) → (40 - Int32.toInt x2 < n73) → next x1 x2 jC bY jD m_length oF rP dQ bW bZ qQ) (x1 x2 jC bY : Int32) (jD : Nat) (m_length oF rP dQ bW bZ : Int32) (qQ : Nat → Int32) (aBK : 0 ≤ Int32.toInt x1 ∧ Int32.toInt x1 ≤ 40) (aBN : 0 ≤ Int32.toInt x2 ∧ Int32.toInt x2 ≤ 40) (aA4 : 0 ≤ Int32.toInt jC ∧ Int32.toInt jC ≤ 0) (yG : 0 ≤ Int32.toInt bY ∧ Int32.toInt bY ≤ 0) (yM : jD = 1) (zE : 0 ≤ Int32.toInt m_length ∧ Int32.toInt m_length ≤ 80) (aAR : 40 ≤ Int32.toInt oF ∧ Int32.toInt oF ≤ 40) (aA1 : 0 ≤ Int32.toInt rP ∧ Int32.toInt rP ≤ 80) (aAA : -1 ≤ Int32.toInt dQ ∧ Int32.toInt dQ ≤ -1) (zQ : 0 ≤ Int32.toInt bW ∧ Int32.toInt bW ≤ 40) (zT : 0 ≤ Int32.toInt bZ ∧ Int32.toInt bZ ≤ 0) (zI : ∀ k : Nat, -128 ≤ Int32.toInt (qQ k) ∧ Int32.toInt (qQ k) ≤ 127) (hn73 : 40 - Int32.toInt x2 ≤ n73) : ws_X10_rule_73 post next aR aE bI aW m_x gR pW nG oO qO x1 x2 jC bY jD m_length oF rP dQ bW bZ qQ := by
  have l0 := aE0
  have l1 := aEc
  refine And.intro (fun c1 => ?_) (fun c1 => ?_)
  · skip
    have c1 := (aAO _ _).mp c1
    exact hpost _ _ _ _ _ _ _ _ _ _ _ (by omega) aA4 yG yM zE aAR aA1 (by omega) aBK zT zI
  · skip
    have c1 := mt (aAO _ _).mpr c1
    refine And.intro (aBZ (by omega)) ?_
    intro v2 ev2
    have f3 := zG x2.toNatClampNeg
    have hv2 := congrArg Int32.toInt ev2
    refine And.intro (aBZ (by omega)) ?_
    have qa4 := ti_nar_byte v2
    have a4 : ∀ k : Nat, -128 ≤ Int32.toInt ((upd qQ x2.toNatClampNeg (vp_nar .byte v2)) k) ∧ Int32.toInt ((upd qQ x2.toNatClampNeg (vp_nar .byte v2)) k) ≤ 127 := t_upd (fun k => by have q9 := zI k; omega) (by omega)
    intro v5 ev5
    have f6 : Int32.toInt (x2 + 1) = Int32.toInt x2 + Int32.toInt (1 : Int32) := aAD _ _ (by omega)
    rw [← ev5] at f6
    exact hKn x1 v5 jC bY jD m_length oF rP dQ bW bZ (upd qQ x2.toNatClampNeg (vp_nar .byte v2)) aBK (by omega) aA4 yG yM zE aAR aA1 aAA zQ zT (fun k => by have q9 := a4 k; omega) (by omega)
set_option maxHeartbeats 8000000 in
set_option maxRecDepth 200000 in
theorem tb_X10_rule_73 {post : Int32 → Int32 → Int32 → Nat → Int32 → Int32 → Int32 → Int32 → Int32 → Int32 → (Nat → Int32) → Prop} (aR aE bI aW : Int32) (m_x gR pW nG oO qO : Nat → Int32) (yL : 0 ≤ Int32.toInt aR ∧ Int32.toInt aR ≤ 15) (xQ : 0 ≤ Int32.toInt aE ∧ Int32.toInt aE ≤ 7) (yY : 0 ≤ Int32.toInt bI ∧ Int32.toInt bI ≤ 1) (yK : 0 ≤ Int32.toInt aW ∧ Int32.toInt aW ≤ 63) (aAW : ∀ k : Nat, 0 ≤ Int32.toInt (m_x k) ∧ Int32.toInt (m_x k) ≤ 99) (xK : ∀ k : Nat, 0 ≤ Int32.toInt (gR k) ∧ Int32.toInt (gR k) ≤ 99) (yR : ∀ k : Nat, 0 ≤ Int32.toInt (pW k) ∧ Int32.toInt (pW k) ≤ 9) (xT : ∀ k : Nat, 0 ≤ Int32.toInt (nG k) ∧ Int32.toInt (nG k) ≤ 99) (yF : ∀ k : Nat, 0 ≤ Int32.toInt (oO k) ∧ Int32.toInt (oO k) ≤ 99) (zG : ∀ k : Nat, -128 ≤ Int32.toInt (qO k) ∧ Int32.toInt (qO k) ≤ 127) (hpost : ∀ (r : Int32) (aBT : Int32) (xG : Int32) (aAP : Nat) (zS : Int32) (aAz : Int32) (aAm : Int32) (zH : Int32) (aUt : Int32) (aAM : Int32) (m_rule' : Nat → Int32), (-100 ≤ Int32.toInt r ∧ Int32.toInt r ≤ 0) → (0 ≤ Int32.toInt aBT ∧ Int32.toInt aBT ≤ 0) → (0 ≤ Int32.toInt xG ∧ Int32.toInt xG ≤ 0) → (aAP = 1) → (0 ≤ Int32.toInt zS ∧ Int32.toInt zS ≤ 80) → (40 ≤ Int32.toInt aAz ∧ Int32.toInt aAz ≤ 40) → (0 ≤ Int32.toInt aAm ∧ Int32.toInt aAm ≤ 80) → (-1 ≤ Int32.toInt zH ∧ Int32.toInt zH ≤ 80) → (0 ≤ Int32.toInt aUt ∧ Int32.toInt aUt ≤ 40) → (0 ≤ Int32.toInt aAM ∧ Int32.toInt aAM ≤ 0) → (∀ k : Nat, -128 ≤ Int32.toInt (m_rule' k) ∧ Int32.toInt (m_rule' k) ≤ 127) → post r aBT xG aAP zS aAz aAm zH aUt aAM m_rule') : ∀ (n : Nat) (x1 x2 jC bY : Int32) (jD : Nat) (m_length oF rP dQ bW bZ : Int32) (qQ : Nat → Int32), (0 ≤ Int32.toInt x1 ∧ Int32.toInt x1 ≤ 40) → (0 ≤ Int32.toInt x2 ∧ Int32.toInt x2 ≤ 40) → (0 ≤ Int32.toInt jC ∧ Int32.toInt jC ≤ 0) → (0 ≤ Int32.toInt bY ∧ Int32.toInt bY ≤ 0) → (jD = 1) → (0 ≤ Int32.toInt m_length ∧ Int32.toInt m_length ≤ 80) → (40 ≤ Int32.toInt oF ∧ Int32.toInt oF ≤ 40) → (0 ≤ Int32.toInt rP ∧ Int32.toInt rP ≤ 80) → (-1 ≤ Int32.toInt dQ ∧ Int32.toInt dQ ≤ -1) → (0 ≤ Int32.toInt bW ∧ Int32.toInt bW ≤ 40) → (0 ≤ Int32.toInt bZ ∧ Int32.toInt bZ ≤ 0) → (∀ k : Nat, -128 ≤ Int32.toInt (qQ k) ∧ Int32.toInt (qQ k) ≤ 127) → (40 - Int32.toInt x2 < (n : Int)) → wb_X10_rule_73 post aR aE bI aW m_x gR pW nG oO qO n x1 x2 jC bY jD m_length oF rP dQ bW bZ qQ := by
  intro n
  induction n with
  | zero =>
    intro x1 x2 jC bY jD m_length oF rP dQ bW bZ qQ aBK aBN aA4 yG yM zE aAR aA1 aAA zQ zT zI hm
    exfalso; omega
  | succ n ih =>
    intro x1 x2 jC bY jD m_length oF rP dQ bW bZ qQ aBK aBN aA4 yG yM zE aAR aA1 aAA zQ zT zI hm
    exact ts_X10_rule_73 aR aE bI aW m_x gR pW nG oO qO yL xQ yY yK aAW xK yR xT yF zG hpost ih x1 x2 jC bY jD m_length oF rP dQ bW bZ qQ aBK aBN aA4 yG yM zE aAR aA1 aAA zQ zT zI (by omega)
set_option maxHeartbeats 8000000 in
set_option maxRecDepth 200000 in
theorem ts_X10_rule_71 {post : Int32 → Int32 → Int32 → Nat → Int32 → Int32 → Int32 → Int32 → Int32 → Int32 → (Nat → Int32) → Prop} (aR aE bI aW : Int32) (m_x gR pW nG oO qO : Nat → Int32) (yL : 0 ≤ Int32.toInt aR ∧ Int32.toInt aR ≤ 15) (xQ : 0 ≤ Int32.toInt aE ∧ Int32.toInt aE ≤ 7) (yY : 0 ≤ Int32.toInt bI ∧ Int32.toInt bI ≤ 1) (yK : 0 ≤ Int32.toInt aW ∧ Int32.toInt aW ≤ 63) (aAW : ∀ k : Nat, 0 ≤ Int32.toInt (m_x k) ∧ Int32.toInt (m_x k) ≤ 99) (xK : ∀ k : Nat, 0 ≤ Int32.toInt (gR k) ∧ Int32.toInt (gR k) ≤ 99) (yR : ∀ k : Nat, 0 ≤ Int32.toInt (pW k) ∧ Int32.toInt (pW k) ≤ 9) (xT : ∀ k : Nat, 0 ≤ Int32.toInt (nG k) ∧ Int32.toInt (nG k) ≤ 99) (yF : ∀ k : Nat, 0 ≤ Int32.toInt (oO k) ∧ Int32.toInt (oO k) ≤ 99) (zG : ∀ k : Nat, -128 ≤ Int32.toInt (qO k) ∧ Int32.toInt (qO k) ≤ 127) (hpost : ∀ (r : Int32) (aBT : Int32) (xG : Int32) (aAP : Nat) (zS : Int32) (aAz : Int32) (aAm : Int32) (zH : Int32) (aUt : Int32) (aAM : Int32) (m_rule' : Nat → Int32), (-100 ≤ Int32.toInt r ∧ Int32.toInt r ≤ 0) → (0 ≤ Int32.toInt aBT ∧ Int32.toInt aBT ≤ 0) → (0 ≤ Int32.toInt xG ∧ Int32.toInt xG ≤ 0) → (aAP = 1) → (0 ≤ Int32.toInt zS ∧ Int32.toInt zS ≤ 80) → (40 ≤ Int32.toInt aAz ∧ Int32.toInt aAz ≤ 40) → (0 ≤ Int32.toInt aAm ∧ Int32.toInt aAm ≤ 80) → (-1 ≤ Int32.toInt zH ∧ Int32.toInt zH ≤ 80) → (0 ≤ Int32.toInt aUt ∧ Int32.toInt aUt ≤ 40) → (0 ≤ Int32.toInt aAM ∧ Int32.toInt aAM ≤ 0) → (∀ k : Nat, -128 ≤ Int32.toInt (m_rule' k) ∧ Int32.toInt (m_rule' k) ≤ 127) → post r aBT xG aAP zS aAz aAm zH aUt aAM m_rule') (x1 jC bY : Int32) (jD : Nat) (m_length oF rP dQ bW bZ : Int32) (qQ : Nat → Int32) (aBK : 0 ≤ Int32.toInt x1 ∧ Int32.toInt x1 ≤ 40) (aA4 : 0 ≤ Int32.toInt jC ∧ Int32.toInt jC ≤ 0) (yG : 0 ≤ Int32.toInt bY ∧ Int32.toInt bY ≤ 0) (yM : jD = 1) (zE : 0 ≤ Int32.toInt m_length ∧ Int32.toInt m_length ≤ 80) (aAR : 40 ≤ Int32.toInt oF ∧ Int32.toInt oF ≤ 40) (aA1 : 0 ≤ Int32.toInt rP ∧ Int32.toInt rP ≤ 80) (aAA : -1 ≤ Int32.toInt dQ ∧ Int32.toInt dQ ≤ -1) (zQ : 0 ≤ Int32.toInt bW ∧ Int32.toInt bW ≤ 40) (zT : 0 ≤ Int32.toInt bZ ∧ Int32.toInt bZ ≤ 0) (zI : ∀ k : Nat, -128 ≤ Int32.toInt (qQ k) ∧ Int32.toInt (qQ k) ≤ 127) : ws_X10_rule_71 post aR aE bI aW m_x gR pW nG oO qO x1 jC bY jD m_length oF rP dQ bW bZ qQ := by
  have l0 := aE0
  exact ⟨42, tb_X10_rule_73 aR aE bI aW m_x gR pW nG oO qO yL xQ yY yK aAW xK yR xT yF zG hpost _ x1 0 jC bY jD m_length oF rP dQ bW bZ qQ aBK (by omega) aA4 yG yM zE aAR aA1 aAA zQ zT zI (by omega)⟩
set_option maxHeartbeats 8000000 in
set_option maxRecDepth 200000 in
theorem ts_X10_rule_57 {post : Int32 → Int32 → Int32 → Nat → Int32 → Int32 → Int32 → Int32 → Int32 → Int32 → (Nat → Int32) → Prop} (aR aE bI aW : Int32) (m_x gR pW nG oO qO : Nat → Int32) (yL : 0 ≤ Int32.toInt aR ∧ Int32.toInt aR ≤ 15) (xQ : 0 ≤ Int32.toInt aE ∧ Int32.toInt aE ≤ 7) (yY : 0 ≤ Int32.toInt bI ∧ Int32.toInt bI ≤ 1) (yK : 0 ≤ Int32.toInt aW ∧ Int32.toInt aW ≤ 63) (aAW : ∀ k : Nat, 0 ≤ Int32.toInt (m_x k) ∧ Int32.toInt (m_x k) ≤ 99) (xK : ∀ k : Nat, 0 ≤ Int32.toInt (gR k) ∧ Int32.toInt (gR k) ≤ 99) (yR : ∀ k : Nat, 0 ≤ Int32.toInt (pW k) ∧ Int32.toInt (pW k) ≤ 9) (xT : ∀ k : Nat, 0 ≤ Int32.toInt (nG k) ∧ Int32.toInt (nG k) ≤ 99) (yF : ∀ k : Nat, 0 ≤ Int32.toInt (oO k) ∧ Int32.toInt (oO k) ≤ 99) (zG : ∀ k : Nat, -128 ≤ Int32.toInt (qO k) ∧ Int32.toInt (qO k) ≤ 127) (hpost : ∀ (r : Int32) (aBT : Int32) (xG : Int32) (aAP : Nat) (zS : Int32) (aAz : Int32) (aAm : Int32) (zH : Int32) (aUt : Int32) (aAM : Int32) (m_rule' : Nat → Int32), (-100 ≤ Int32.toInt r ∧ Int32.toInt r ≤ 0) → (0 ≤ Int32.toInt aBT ∧ Int32.toInt aBT ≤ 0) → (0 ≤ Int32.toInt xG ∧ Int32.toInt xG ≤ 0) → (aAP = 1) → (0 ≤ Int32.toInt zS ∧ Int32.toInt zS ≤ 80) → (40 ≤ Int32.toInt aAz ∧ Int32.toInt aAz ≤ 40) → (0 ≤ Int32.toInt aAm ∧ Int32.toInt aAm ≤ 80) → (-1 ≤ Int32.toInt zH ∧ Int32.toInt zH ≤ 80) → (0 ≤ Int32.toInt aUt ∧ Int32.toInt aUt ≤ 40) → (0 ≤ Int32.toInt aAM ∧ Int32.toInt aAM ≤ 0) → (∀ k : Nat, -128 ≤ Int32.toInt (m_rule' k) ∧ Int32.toInt (m_rule' k) ≤ 127) → post r aBT xG aAP zS aAz aAm zH aUt aAM m_rule') (x1 jC bY : Int32) (jD : Nat) (m_length oF rP dQ bW bZ : Int32) (qQ : Nat → Int32) (aBK : 1 ≤ Int32.toInt x1 ∧ Int32.toInt x1 ≤ 80) (aA4 : 0 ≤ Int32.toInt jC ∧ Int32.toInt jC ≤ 0) (yG : 0 ≤ Int32.toInt bY ∧ Int32.toInt bY ≤ 0) (yM : jD = 1) (zE : 1 ≤ Int32.toInt m_length ∧ Int32.toInt m_length ≤ 80) (aAR : 40 ≤ Int32.toInt oF ∧ Int32.toInt oF ≤ 40) (aA1 : 0 ≤ Int32.toInt rP ∧ Int32.toInt rP ≤ 80) (aAA : -1 ≤ Int32.toInt dQ ∧ Int32.toInt dQ ≤ 80) (zQ : 0 ≤ Int32.toInt bW ∧ Int32.toInt bW ≤ 40) (zT : 0 ≤ Int32.toInt bZ ∧ Int32.toInt bZ ≤ 0) (zI : ∀ k : Nat, -128 ≤ Int32.toInt (qQ k) ∧ Int32.toInt (qQ k) ≤ 127) (hx0 : Int32.toInt dQ ≠ -1 ∨ Int32.toInt x1 ≤ Int32.toInt rP) (hx1 : Int32.toInt rP ≤ 40) : ws_X10_rule_57 post aR aE bI aW m_x gR pW nG oO qO x1 jC bY jD m_length oF rP dQ bW bZ qQ := by
  have l0 := aI2
  refine And.intro (fun c7 => ?_) (fun c7 => ?_)
  · skip
    have c7 := mt (zJ _ _).mpr c7
    refine And.intro (fun h9 => absurd h9 (by decide)) (fun _ => ?_)
    have f8 : Int32.toInt ((-1) - dQ) = Int32.toInt ((-1) : Int32) - Int32.toInt dQ := aCA _ _ (by omega)
    obtain ⟨w9, ew9⟩ : ∃ w9 : Int32, w9 = (-1) - dQ := ⟨_, rfl⟩
    rw [← ew9] at f8
    have key9 := hpost w9 jC bY jD m_length oF rP dQ bW bZ qQ (by omega) aA4 yG yM (by omega) aAR aA1 aAA zQ zT zI
    subst ew9
    exact key9
  · skip
    have c7 := (zJ _ _).mp c7
    refine And.intro (fun _ => ?_) (fun h9 => absurd h9 (by decide))
    exact ts_X10_rule_71 aR aE bI aW m_x gR pW nG oO qO yL xQ yY yK aAW xK yR xT yF zG hpost x1 jC bY jD m_length oF rP dQ bW bZ qQ (by omega) aA4 yG yM (by omega) aAR aA1 (by omega) zQ zT zI
set_option maxHeartbeats 8000000 in
set_option maxRecDepth 200000 in
theorem t_X10_rule {post : Int32 → Int32 → Int32 → Nat → Int32 → Int32 → Int32 → Int32 → Int32 → Int32 → (Nat → Int32) → Prop} {jC bY : Int32} {jD : Nat} {m_length oF rP dQ bW bZ aR aE bI aW : Int32} {m_x gR pW nG oO qO qQ : Nat → Int32} (aA4 : 0 ≤ Int32.toInt jC ∧ Int32.toInt jC ≤ 80) (yG : 0 ≤ Int32.toInt bY ∧ Int32.toInt bY ≤ 1) (yM : jD = 0 ∨ jD = 1 ∨ jD = 2) (zE : 0 ≤ Int32.toInt m_length ∧ Int32.toInt m_length ≤ 80) (aAR : 0 ≤ Int32.toInt oF ∧ Int32.toInt oF ≤ 80) (aA1 : 0 ≤ Int32.toInt rP ∧ Int32.toInt rP ≤ 80) (aAA : -1 ≤ Int32.toInt dQ ∧ Int32.toInt dQ ≤ 80) (zQ : 0 ≤ Int32.toInt bW ∧ Int32.toInt bW ≤ 40) (zT : 0 ≤ Int32.toInt bZ ∧ Int32.toInt bZ ≤ 0) (yL : 0 ≤ Int32.toInt aR ∧ Int32.toInt aR ≤ 15) (xQ : 0 ≤ Int32.toInt aE ∧ Int32.toInt aE ≤ 7) (yY : 0 ≤ Int32.toInt bI ∧ Int32.toInt bI ≤ 1) (yK : 0 ≤ Int32.toInt aW ∧ Int32.toInt aW ≤ 63) (aAW : ∀ k : Nat, 0 ≤ Int32.toInt (m_x k) ∧ Int32.toInt (m_x k) ≤ 99) (xK : ∀ k : Nat, 0 ≤ Int32.toInt (gR k) ∧ Int32.toInt (gR k) ≤ 99) (yR : ∀ k : Nat, 0 ≤ Int32.toInt (pW k) ∧ Int32.toInt (pW k) ≤ 9) (xT : ∀ k : Nat, 0 ≤ Int32.toInt (nG k) ∧ Int32.toInt (nG k) ≤ 99) (yF : ∀ k : Nat, 0 ≤ Int32.toInt (oO k) ∧ Int32.toInt (oO k) ≤ 99) (zG : ∀ k : Nat, -128 ≤ Int32.toInt (qO k) ∧ Int32.toInt (qO k) ≤ 127) (zI : ∀ k : Nat, -128 ≤ Int32.toInt (qQ k) ∧ Int32.toInt (qQ k) ≤ 127) (hpost : ∀ (r : Int32) (aBT : Int32) (xG : Int32) (aAP : Nat) (zS : Int32) (aAz : Int32) (aAm : Int32) (zH : Int32) (aUt : Int32) (aAM : Int32) (m_rule' : Nat → Int32), (-100 ≤ Int32.toInt r ∧ Int32.toInt r ≤ 0) → (0 ≤ Int32.toInt aBT ∧ Int32.toInt aBT ≤ 0) → (0 ≤ Int32.toInt xG ∧ Int32.toInt xG ≤ 0) → (aAP = 1) → (0 ≤ Int32.toInt zS ∧ Int32.toInt zS ≤ 80) → (40 ≤ Int32.toInt aAz ∧ Int32.toInt aAz ≤ 40) → (0 ≤ Int32.toInt aAm ∧ Int32.toInt aAm ≤ 80) → (-1 ≤ Int32.toInt zH ∧ Int32.toInt zH ≤ 80) → (0 ≤ Int32.toInt aUt ∧ Int32.toInt aUt ≤ 40) → (0 ≤ Int32.toInt aAM ∧ Int32.toInt aAM ≤ 0) → (∀ k : Nat, -128 ≤ Int32.toInt (m_rule' k) ∧ Int32.toInt (m_rule' k) ≤ 127) → post r aBT xG aAP zS aAz aAm zH aUt aAM m_rule') : wp_X10_rule post jC bY jD m_length oF rP dQ bW bZ aR aE bI aW m_x gR pW nG oO qO qQ := by
  have l0 := aI2
  have l1 := aE0
  have l2 := li_40
  refine And.intro (fun c10 => ?_) (fun c10 => ?_)
  · skip
    have c10 := (aAO _ _).mp c10
    exact ts_X10_rule_71 aR aE bI aW m_x gR pW nG oO qO yL xQ yY yK aAW xK yR xT yF zG hpost jC 0 0 1 jC 40 0 (-1) bW 0 qQ (by omega) (by omega) (by omega) (by first | exact yM | exact Or.inl rfl | exact Or.inr rfl | omega) aA4 (by omega) (by omega) (by omega) zQ (by omega) zI
  · skip
    have c10 := mt (aAO _ _).mpr c10
    refine t_X10_heldR (by omega) (by first | exact Or.inl rfl | exact Or.inr rfl | rfl) (by omega) (by omega) (by omega) (by omega) (by omega) yL xQ yY yK aAW xK yR xT yF zG zI (by omega) (by omega) (by omega) (fun r13 m_at_11 aVJ h_m_at_11 h_m_wrong_12 ox14 ox15 => ?_)
    refine And.intro (fun c16 => ?_) (fun c16 => ?_)
    · skip
      have c16 := (aAO _ _).mp c16
      exact ts_X10_rule_57 aR aE bI aW m_x gR pW nG oO qO yL xQ yY yK aAW xK yR xT yF zG hpost jC 0 0 1 jC 40 m_at_11 aVJ bW 0 qQ (by omega) (by omega) (by omega) (by first | exact yM | exact Or.inl rfl | exact Or.inr rfl | omega) (by omega) (by omega) h_m_at_11 h_m_wrong_12 zQ (by omega) zI (by omega) (by omega)
    · skip
      have c16 := mt (aAO _ _).mpr c16
      refine And.intro (fun c17 => ?_) (fun c17 => ?_)
      · skip
        have c17 := mt (zJ _ _).mpr c17
        refine And.intro (fun _ => ?_) (fun h9 => absurd h9 (by decide))
        exact ts_X10_rule_57 aR aE bI aW m_x gR pW nG oO qO yL xQ yY yK aAW xK yR xT yF zG hpost jC 0 0 1 jC 40 m_at_11 aVJ bW 0 qQ (by omega) (by omega) (by omega) (by first | exact yM | exact Or.inl rfl | exact Or.inr rfl | omega) (by omega) (by omega) h_m_at_11 h_m_wrong_12 zQ (by omega) zI (by omega) (by omega)
      · skip
        have c17 := (zJ _ _).mp c17
        refine And.intro (fun h9 => absurd h9 (by decide)) (fun _ => ?_)
        exact ts_X10_rule_57 aR aE bI aW m_x gR pW nG oO qO yL xQ yY yK aAW xK yR xT yF zG hpost jC 0 0 1 jC 40 m_at_11 m_at_11 bW 0 qQ (by omega) (by omega) (by omega) (by first | exact yM | exact Or.inl rfl | exact Or.inr rfl | omega) (by omega) (by omega) h_m_at_11 (by omega) zQ (by omega) zI (by omega) (by omega)
theorem aKO {post : Int32 → Prop} {SB : Int} {p1 bT : Int32} {qG : Nat → Int32} (h_p1 : 0 ≤ Int32.toInt p1 ∧ Int32.toInt p1 ≤ 3) (xJ : 0 ≤ Int32.toInt bT ∧ Int32.toInt bT ≤ 16) (xU : ∀ k : Nat, k = 17 → -1 ≤ Int32.toInt (qG k) ∧ Int32.toInt (qG k) ≤ SB) (xV : ∀ k : Nat, k = 19 → 0 ≤ Int32.toInt (qG k) ∧ Int32.toInt (qG k) ≤ 9) (hc0 : -1 ≤ SB ∧ SB ≤ 7) (hpost : ∀ (r : Int32) , (0 ≤ Int32.toInt r ∧ Int32.toInt r ≤ 65535) → (r = bsf (Int32.toInt bT).toNat (fun k => decide (qG k = p1))) → post r) : aIB post p1 bT qG := by
  refine f_which xJ (hpost _ ?_ rfl)
  exact bsf_rng _ (by omega) _
