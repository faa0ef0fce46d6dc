set_option maxHeartbeats 8000000 in
set_option maxRecDepth 200000 in
theorem ts_X10_laySeconds_12 {post : Nat → Int32 → Int32 → Int32 → Int32 → Int32 → Int32 → Int32 → Int32 → Int32 → (Nat → Int32) → Prop} {K2 : Int32 → Nat → Int32 → Int32 → Int32 → Int32 → Int32 → Int32 → Int32 → Int32 → Int32 → (Nat → Int32) → Prop} {next : Int32 → Int32 → Nat → Int32 → Int32 → Int32 → Int32 → Int32 → Int32 → Int32 → Int32 → Int32 → (Nat → Int32) → Prop} {n12 n2 : Int} (bT aG bW : Int32) (m_x gR pW nG oO qO qQ : Nat → Int32) (xJ : 0 ≤ Int32.toInt bT ∧ Int32.toInt bT ≤ 16) (vZ : 0 ≤ Int32.toInt aG ∧ Int32.toInt aG ≤ 8) (zQ : 0 ≤ Int32.toInt bW ∧ Int32.toInt bW ≤ 40) (aAW : ∀ k : Nat, 0 ≤ Int32.toInt (m_x k) ∧ Int32.toInt (m_x k) ≤ 99) (xK : ∀ k : Nat, 0 ≤ Int32.toInt (gR k) ∧ Int32.toInt (gR k) ≤ 99) (yR : ∀ k : Nat, 0 ≤ Int32.toInt (pW k) ∧ Int32.toInt (pW k) ≤ 9) (xT : ∀ k : Nat, 0 ≤ Int32.toInt (nG k) ∧ Int32.toInt (nG k) ≤ 99) (yF : ∀ k : Nat, 0 ≤ Int32.toInt (oO k) ∧ Int32.toInt (oO k) ≤ 99) (zG : ∀ k : Nat, -128 ≤ Int32.toInt (qO k) ∧ Int32.toInt (qO k) ≤ 127) (zI : ∀ k : Nat, -128 ≤ Int32.toInt (qQ k) ∧ Int32.toInt (qQ k) ≤ 127) (hpost : ∀ (aAP : Nat) (zS : Int32) (aAz : Int32) (aAm : Int32) (zH : Int32) (aAM : Int32) (zP : Int32) (yO : Int32) (zZ : Int32) (zO : Int32) (aBR : Nat → Int32), (aAP = 0 ∨ aAP = 1 ∨ aAP = 2) → (0 ≤ Int32.toInt zS ∧ Int32.toInt zS ≤ 80) → (0 ≤ Int32.toInt aAz ∧ Int32.toInt aAz ≤ 80) → (0 ≤ Int32.toInt aAm ∧ Int32.toInt aAm ≤ 80) → (-1 ≤ Int32.toInt zH ∧ Int32.toInt zH ≤ 80) → (0 ≤ Int32.toInt aAM ∧ Int32.toInt aAM ≤ 0) → (0 ≤ Int32.toInt zP ∧ Int32.toInt zP ≤ 15) → (0 ≤ Int32.toInt yO ∧ Int32.toInt yO ≤ 7) → (0 ≤ Int32.toInt zZ ∧ Int32.toInt zZ ≤ 1) → (0 ≤ Int32.toInt zO ∧ Int32.toInt zO ≤ 63) → (∀ k : Nat, 0 ≤ Int32.toInt (aBR k) ∧ Int32.toInt (aBR k) ≤ 99) → post aAP zS aAz aAm zH aAM zP yO zZ zO aBR) (hK2 : ∀ (x1 : Int32) (jD : Nat) (m_length : Int32) (oF : Int32) (rP : Int32) (dQ : Int32) (bZ : Int32) (aR : Int32) (aE : Int32) (bI : Int32) (aW : Int32) (oJ : Nat → Int32), (0 ≤ Int32.toInt x1 ∧ Int32.toInt x1 ≤ 8) → (jD = 0 ∨ jD = 1 ∨ jD = 2) → (0 ≤ Int32.toInt m_length ∧ Int32.toInt m_length ≤ 80) → (0 ≤ Int32.toInt oF ∧ Int32.toInt oF ≤ 80) → (0 ≤ Int32.toInt rP ∧ Int32.toInt rP ≤ 80) → (-1 ≤ Int32.toInt dQ ∧ Int32.toInt dQ ≤ 80) → (0 ≤ Int32.toInt bZ ∧ Int32.toInt bZ ≤ 0) → (0 ≤ Int32.toInt aR ∧ Int32.toInt aR ≤ 15) → (0 ≤ Int32.toInt aE ∧ Int32.toInt aE ≤ 7) → (0 ≤ Int32.toInt bI ∧ Int32.toInt bI ≤ 1) → (0 ≤ Int32.toInt aW ∧ Int32.toInt aW ≤ 63) → (∀ k : Nat, 0 ≤ Int32.toInt (oJ k) ∧ Int32.toInt (oJ k) ≤ 99) → (8 - Int32.toInt x1 < n2) → K2 x1 jD m_length oF rP dQ bZ aR aE bI aW oJ) (hKn : ∀ (x1 : Int32) (x2 : Int32) (jD : Nat) (m_length : Int32) (oF : Int32) (rP : Int32) (dQ : Int32) (bZ : Int32) (aR : Int32) (aE : Int32) (bI : Int32) (aW : Int32) (oJ : Nat → Int32), (0 ≤ Int32.toInt x1 ∧ Int32.toInt x1 ≤ 7) → (0 ≤ Int32.toInt x2 ∧ Int32.toInt x2 ≤ 16) → (jD = 0 ∨ jD = 1 ∨ jD = 2) → (0 ≤ Int32.toInt m_length ∧ Int32.toInt m_length ≤ 80) → (0 ≤ Int32.toInt oF ∧ Int32.toInt oF ≤ 80) → (0 ≤ Int32.toInt rP ∧ Int32.toInt rP ≤ 80) → (-1 ≤ Int32.toInt dQ ∧ Int32.toInt dQ ≤ 80) → (0 ≤ Int32.toInt bZ ∧ Int32.toInt bZ ≤ 0) → (0 ≤ Int32.toInt aR ∧ Int32.toInt aR ≤ 15) → (0 ≤ Int32.toInt aE ∧ Int32.toInt aE ≤ 7) → (0 ≤ Int32.toInt bI ∧ Int32.toInt bI ≤ 1) → (0 ≤ Int32.toInt aW ∧ Int32.toInt aW ≤ 63) → (∀ k : Nat, 0 ≤ Int32.toInt (oJ k) ∧ Int32.toInt (oJ k) ≤ 99) → (8 - Int32.toInt x1 ≤ n2) → (16 - Int32.toInt x2 < n12) → next x1 x2 jD m_length oF rP dQ bZ aR aE bI aW oJ) (x1 x2 : Int32) (jD : Nat) (m_length oF rP dQ bZ aR aE bI aW : Int32) (oJ : Nat → Int32) (aBK : 0 ≤ Int32.toInt x1 ∧ Int32.toInt x1 ≤ 7) (aBN : 0 ≤ Int32.toInt x2 ∧ Int32.toInt x2 ≤ 16) (yM : jD = 0 ∨ jD = 1 ∨ jD = 2) (zE : 0 ≤ Int32.toInt m_length ∧ Int32.toInt m_length ≤ 80) (aAR : 0 ≤ Int32.toInt oF ∧ Int32.toInt oF ≤ 80) (aA1 : 0 ≤ Int32.toInt rP ∧ Int32.toInt rP ≤ 80) (aAA : -1 ≤ Int32.toInt dQ ∧ Int32.toInt dQ ≤ 80) (zT : 0 ≤ Int32.toInt bZ ∧ Int32.toInt bZ ≤ 0) (yL : 0 ≤ Int32.toInt aR ∧ Int32.toInt aR ≤ 15) (xQ : 0 ≤ Int32.toInt aE ∧ Int32.toInt aE ≤ 7) (yY : 0 ≤ Int32.toInt bI ∧ Int32.toInt bI ≤ 1) (yK : 0 ≤ Int32.toInt aW ∧ Int32.toInt aW ≤ 63) (zL : ∀ k : Nat, 0 ≤ Int32.toInt (oJ k) ∧ Int32.toInt (oJ k) ≤ 99) (hn2 : 8 - Int32.toInt x1 ≤ n2) (hn12 : 16 - Int32.toInt x2 ≤ n12) : ws_X10_laySeconds_12 post K2 next bT aG bW m_x gR pW nG oO qO qQ x1 x2 jD m_length oF rP dQ bZ aR aE bI aW oJ := by
  have l0 := aE0
  have l1 := aEc
  have l2 := li_16
  refine And.intro (fun c1 => ?_) (fun c1 => ?_)
  · skip
    have c1 := (aAO _ _).mp c1
    intro v2 ev2
    have f3 : Int32.toInt (x1 + 1) = Int32.toInt x1 + Int32.toInt (1 : Int32) := aAD _ _ (by omega)
    rw [← ev2] at f3
    exact hK2 v2 jD m_length oF rP dQ bZ aR aE bI aW oJ (by omega) yM zE aAR aA1 aAA zT yL xQ yY yK zL (by omega)
  · skip
    have c1 := mt (aAO _ _).mpr c1
    intro v4 ev4
    have f5 : Int32.toInt (16 * x1) = Int32.toInt x1 * 16 := ta_cmul _ _ (by decide) (by omega)
    rw [← ev4] at f5
    intro v6 ev6
    have f7 : Int32.toInt (v4 + x2) = Int32.toInt v4 + Int32.toInt x2 := aAD _ _ (by omega)
    rw [← ev6] at f7
    refine t_X10_secondsOf (by omega) aBK (by omega) (by omega) yM zE aAR aA1 aAA zQ zT yL xQ yY yK aAW xK yR xT yF zG zI (fun r18 m_read_8 m_length_9 m_top_10 m_at_11 aVJ m_isAsked_13 m_askedFruit_14 m_askedStanding_15 m_askedHook_16 m_askedApron_17 h_r18 h_m_read_8 h_m_length_9 h_m_top_10 h_m_at_11 h_m_wrong_12 h_m_isAsked_13 h_m_askedFruit_14 h_m_askedStanding_15 h_m_askedHook_16 h_m_askedApron_17 => ?_)
    refine And.intro (aBZ (by omega)) ?_
    have a19 : ∀ k : Nat, 0 ≤ Int32.toInt ((upd oJ v6.toNatClampNeg r18) k) ∧ Int32.toInt ((upd oJ v6.toNatClampNeg r18) k) ≤ 99 := t_upd (fun k => by have q9 := zL k; omega) (by omega)
    intro v20 ev20
    have f21 : Int32.toInt (x2 + 1) = Int32.toInt x2 + Int32.toInt (1 : Int32) := aAD _ _ (by omega)
    rw [← ev20] at f21
    exact hKn x1 v20 m_read_8 m_length_9 m_top_10 m_at_11 aVJ m_isAsked_13 m_askedFruit_14 m_askedStanding_15 m_askedHook_16 m_askedApron_17 (upd oJ v6.toNatClampNeg r18) aBK (by omega) h_m_read_8 h_m_length_9 h_m_top_10 h_m_at_11 h_m_wrong_12 h_m_isAsked_13 h_m_askedFruit_14 h_m_askedStanding_15 h_m_askedHook_16 h_m_askedApron_17 (fun k => by have q9 := a19 k; omega) hn2 (by omega)
set_option maxHeartbeats 8000000 in
set_option maxRecDepth 200000 in
theorem tb_X10_laySeconds_12 {post : Nat → Int32 → Int32 → Int32 → Int32 → Int32 → Int32 → Int32 → Int32 → Int32 → (Nat → Int32) → Prop} {K2 : Int32 → Nat → Int32 → Int32 → Int32 → Int32 → Int32 → Int32 → Int32 → Int32 → Int32 → (Nat → Int32) → Prop} {n2 : Int} (bT aG bW : Int32) (m_x gR pW nG oO qO qQ : Nat → Int32) (xJ : 0 ≤ Int32.toInt bT ∧ Int32.toInt bT ≤ 16) (vZ : 0 ≤ Int32.toInt aG ∧ Int32.toInt aG ≤ 8) (zQ : 0 ≤ Int32.toInt bW ∧ Int32.toInt bW ≤ 40) (aAW : ∀ k : Nat, 0 ≤ Int32.toInt (m_x k) ∧ Int32.toInt (m_x k) ≤ 99) (xK : ∀ k : Nat, 0 ≤ Int32.toInt (gR k) ∧ Int32.toInt (gR k) ≤ 99) (yR : ∀ k : Nat, 0 ≤ Int32.toInt (pW k) ∧ Int32.toInt (pW k) ≤ 9) (xT : ∀ k : Nat, 0 ≤ Int32.toInt (nG k) ∧ Int32.toInt (nG k) ≤ 99) (yF : ∀ k : Nat, 0 ≤ Int32.toInt (oO k) ∧ Int32.toInt (oO k) ≤ 99) (zG : ∀ k : Nat, -128 ≤ Int32.toInt (qO k) ∧ Int32.toInt (qO k) ≤ 127) (zI : ∀ k : Nat, -128 ≤ Int32.toInt (qQ k) ∧ Int32.toInt (qQ k) ≤ 127) (hpost : ∀ (aAP : Nat) (zS : Int32) (aAz : Int32) (aAm : Int32) (zH : Int32) (aAM : Int32) (zP : Int32) (yO : Int32) (zZ : Int32) (zO : Int32) (aBR : Nat → Int32), (aAP = 0 ∨ aAP = 1 ∨ aAP = 2) → (0 ≤ Int32.toInt zS ∧ Int32.toInt zS ≤ 80) → (0 ≤ Int32.toInt aAz ∧ Int32.toInt aAz ≤ 80) → (0 ≤ Int32.toInt aAm ∧ Int32.toInt aAm ≤ 80) → (-1 ≤ Int32.toInt zH ∧ Int32.toInt zH ≤ 80) → (0 ≤ Int32.toInt aAM ∧ Int32.toInt aAM ≤ 0) → (0 ≤ Int32.toInt zP ∧ Int32.toInt zP ≤ 15) → (0 ≤ Int32.toInt yO ∧ Int32.toInt yO ≤ 7) → (0 ≤ Int32.toInt zZ ∧ Int32.toInt zZ ≤ 1) → (0 ≤ Int32.toInt zO ∧ Int32.toInt zO ≤ 63) → (∀ k : Nat, 0 ≤ Int32.toInt (aBR k) ∧ Int32.toInt (aBR k) ≤ 99) → post aAP zS aAz aAm zH aAM zP yO zZ zO aBR) (hK2 : ∀ (x1 : Int32) (jD : Nat) (m_length : Int32) (oF : Int32) (rP : Int32) (dQ : Int32) (bZ : Int32) (aR : Int32) (aE : Int32) (bI : Int32) (aW : Int32) (oJ : Nat → Int32), (0 ≤ Int32.toInt x1 ∧ Int32.toInt x1 ≤ 8) → (jD = 0 ∨ jD = 1 ∨ jD = 2) → (0 ≤ Int32.toInt m_length ∧ Int32.toInt m_length ≤ 80) → (0 ≤ Int32.toInt oF ∧ Int32.toInt oF ≤ 80) → (0 ≤ Int32.toInt rP ∧ Int32.toInt rP ≤ 80) → (-1 ≤ Int32.toInt dQ ∧ Int32.toInt dQ ≤ 80) → (0 ≤ Int32.toInt bZ ∧ Int32.toInt bZ ≤ 0) → (0 ≤ Int32.toInt aR ∧ Int32.toInt aR ≤ 15) → (0 ≤ Int32.toInt aE ∧ Int32.toInt aE ≤ 7) → (0 ≤ Int32.toInt bI ∧ Int32.toInt bI ≤ 1) → (0 ≤ Int32.toInt aW ∧ Int32.toInt aW ≤ 63) → (∀ k : Nat, 0 ≤ Int32.toInt (oJ k) ∧ Int32.toInt (oJ k) ≤ 99) → (8 - Int32.toInt x1 < n2) → K2 x1 jD m_length oF rP dQ bZ aR aE bI aW oJ) : ∀ (n : Nat) (x1 x2 : Int32) (jD : Nat) (m_length oF rP dQ bZ aR aE bI aW : Int32) (oJ : Nat → Int32), (0 ≤ Int32.toInt x1 ∧ Int32.toInt x1 ≤ 7) → (0 ≤ Int32.toInt x2 ∧ Int32.toInt x2 ≤ 16) → (jD = 0 ∨ jD = 1 ∨ jD = 2) → (0 ≤ Int32.toInt m_length ∧ Int32.toInt m_length ≤ 80) → (0 ≤ Int32.toInt oF ∧ Int32.toInt oF ≤ 80) → (0 ≤ Int32.toInt rP ∧ Int32.toInt rP ≤ 80) → (-1 ≤ Int32.toInt dQ ∧ Int32.toInt dQ ≤ 80) → (0 ≤ Int32.toInt bZ ∧ Int32.toInt bZ ≤ 0) → (0 ≤ Int32.toInt aR ∧ Int32.toInt aR ≤ 15) → (0 ≤ Int32.toInt aE ∧ Int32.toInt aE ≤ 7) → (0 ≤ Int32.toInt bI ∧ Int32.toInt bI ≤ 1) → (0 ≤ Int32.toInt aW ∧ Int32.toInt aW ≤ 63) → (∀ k : Nat, 0 ≤ Int32.toInt (oJ k) ∧ Int32.toInt (oJ k) ≤ 99) → (8 - Int32.toInt x1 ≤ n2) → (16 - Int32.toInt x2 < (n : Int)) → wb_X10_laySeconds_12 post K2 bT aG bW m_x gR pW nG oO qO qQ n x1 x2 jD m_length oF rP dQ bZ aR aE bI aW oJ := by
  intro n
  induction n with
  | zero =>
    intro x1 x2 jD m_length oF rP dQ bZ aR aE bI aW oJ aBK aBN yM zE aAR aA1 aAA zT yL xQ yY yK zL hn2 hm
    exfalso; omega
  | succ n ih =>
    intro x1 x2 jD m_length oF rP dQ bZ aR aE bI aW oJ aBK aBN yM zE aAR aA1 aAA zT yL xQ yY yK zL hn2 hm
    exact ts_X10_laySeconds_12 bT aG bW m_x gR pW nG oO qO qQ xJ vZ zQ aAW xK yR xT yF zG zI hpost hK2 ih x1 x2 jD m_length oF rP dQ bZ aR aE bI aW oJ aBK aBN yM zE aAR aA1 aAA zT yL xQ yY yK zL hn2 (by omega)
set_option maxHeartbeats 8000000 in
set_option maxRecDepth 200000 in
theorem ts_X10_laySeconds_2 {post : Nat → Int32 → Int32 → Int32 → Int32 → Int32 → Int32 → Int32 → Int32 → Int32 → (Nat → Int32) → Prop} {next : Int32 → Nat → Int32 → Int32 → Int32 → Int32 → Int32 → Int32 → Int32 → Int32 → Int32 → (Nat → Int32) → Prop} {n2 : Int} (bT aG bW : Int32) (m_x gR pW nG oO qO qQ : Nat → Int32) (xJ : 0 ≤ Int32.toInt bT ∧ Int32.toInt bT ≤ 16) (vZ : 0 ≤ Int32.toInt aG ∧ Int32.toInt aG ≤ 8) (zQ : 0 ≤ Int32.toInt bW ∧ Int32.toInt bW ≤ 40) (aAW : ∀ k : Nat, 0 ≤ Int32.toInt (m_x k) ∧ Int32.toInt (m_x k) ≤ 99) (xK : ∀ k : Nat, 0 ≤ Int32.toInt (gR k) ∧ Int32.toInt (gR k) ≤ 99) (yR : ∀ k : Nat, 0 ≤ Int32.toInt (pW k) ∧ Int32.toInt (pW k) ≤ 9) (xT : ∀ k : Nat, 0 ≤ Int32.toInt (nG k) ∧ Int32.toInt (nG k) ≤ 99) (yF : ∀ k : Nat, 0 ≤ Int32.toInt (oO k) ∧ Int32.toInt (oO k) ≤ 99) (zG : ∀ k : Nat, -128 ≤ Int32.toInt (qO k) ∧ Int32.toInt (qO k) ≤ 127) (zI : ∀ k : Nat, -128 ≤ Int32.toInt (qQ k) ∧ Int32.toInt (qQ k) ≤ 127) (hpost : ∀ (aAP : Nat) (zS : Int32) (aAz : Int32) (aAm : Int32) (zH : Int32) (aAM : Int32) (zP : Int32) (yO : Int32) (zZ : Int32) (zO : Int32) (aBR : Nat → Int32), (aAP = 0 ∨ aAP = 1 ∨ aAP = 2) → (0 ≤ Int32.toInt zS ∧ Int32.toInt zS ≤ 80) → (0 ≤ Int32.toInt aAz ∧ Int32.toInt aAz ≤ 80) → (0 ≤ Int32.toInt aAm ∧ Int32.toInt aAm ≤ 80) → (-1 ≤ Int32.toInt zH ∧ Int32.toInt zH ≤ 80) → (0 ≤ Int32.toInt aAM ∧ Int32.toInt aAM ≤ 0) → (0 ≤ Int32.toInt zP ∧ Int32.toInt zP ≤ 15) → (0 ≤ Int32.toInt yO ∧ Int32.toInt yO ≤ 7) → (0 ≤ Int32.toInt zZ ∧ Int32.toInt zZ ≤ 1) → (0 ≤ Int32.toInt zO ∧ Int32.toInt zO ≤ 63) → (∀ k : Nat, 0 ≤ Int32.toInt (aBR k) ∧ Int32.toInt (aBR k) ≤ 99) → post aAP zS aAz aAm zH aAM zP yO zZ zO aBR) (hKn : ∀ (x1 : Int32) (jD : Nat) (m_length : Int32) (oF : Int32) (rP : Int32) (dQ : Int32) (bZ : Int32) (aR : Int32) (aE : Int32) (bI : Int32) (aW : Int32) (oJ : Nat → Int32), (0 ≤ Int32.toInt x1 ∧ Int32.toInt x1 ≤ 8) → (jD = 0 ∨ jD = 1 ∨ jD = 2) → (0 ≤ Int32.toInt m_length ∧ Int32.toInt m_length ≤ 80) → (0 ≤ Int32.toInt oF ∧ Int32.toInt oF ≤ 80) → (0 ≤ Int32.toInt rP ∧ Int32.toInt rP ≤ 80) → (-1 ≤ Int32.toInt dQ ∧ Int32.toInt dQ ≤ 80) → (0 ≤ Int32.toInt bZ ∧ Int32.toInt bZ ≤ 0) → (0 ≤ Int32.toInt aR ∧ Int32.toInt aR ≤ 15) → (0 ≤ Int32.toInt aE ∧ Int32.toInt aE ≤ 7) → (0 ≤ Int32.toInt bI ∧ Int32.toInt bI ≤ 1) → (0 ≤ Int32.toInt aW ∧ Int32.toInt aW ≤ 63) → (∀ k : Nat, 0 ≤ Int32.toInt (oJ k) ∧ Int32.toInt (oJ k) ≤ 99) → (8 - Int32.toInt x1 < n2) → next x1 jD m_length oF rP dQ bZ aR aE bI aW oJ) (x1 : Int32) (jD : Nat) (m_length oF rP dQ bZ aR aE bI aW : Int32) (oJ : Nat → Int32) (aBK : 0 ≤ Int32.toInt x1 ∧ Int32.toInt x1 ≤ 8) (yM : jD = 0 ∨ jD = 1 ∨ jD = 2) (zE : 0 ≤ Int32.toInt m_length ∧ Int32.toInt m_length ≤ 80) (aAR : 0 ≤ Int32.toInt oF ∧ Int32.toInt oF ≤ 80) (aA1 : 0 ≤ Int32.toInt rP ∧ Int32.toInt rP ≤ 80) (aAA : -1 ≤ Int32.toInt dQ ∧ Int32.toInt dQ ≤ 80) (zT : 0 ≤ Int32.toInt bZ ∧ Int32.toInt bZ ≤ 0) (yL : 0 ≤ Int32.toInt aR ∧ Int32.toInt aR ≤ 15) (xQ : 0 ≤ Int32.toInt aE ∧ Int32.toInt aE ≤ 7) (yY : 0 ≤ Int32.toInt bI ∧ Int32.toInt bI ≤ 1) (yK : 0 ≤ Int32.toInt aW ∧ Int32.toInt aW ≤ 63) (zL : ∀ k : Nat, 0 ≤ Int32.toInt (oJ k) ∧ Int32.toInt (oJ k) ≤ 99) (hn2 : 8 - Int32.toInt x1 ≤ n2) : ws_X10_laySeconds_2 post next bT aG bW m_x gR pW nG oO qO qQ x1 jD m_length oF rP dQ bZ aR aE bI aW oJ := by
  have l0 := aE0
  refine And.intro (fun c22 => ?_) (fun c22 => ?_)
  · skip
    have c22 := (aAO _ _).mp c22
    exact hpost _ _ _ _ _ _ _ _ _ _ _ yM zE aAR aA1 aAA zT yL xQ yY yK zL
  · skip
    have c22 := mt (aAO _ _).mpr c22
    exact ⟨18, tb_X10_laySeconds_12 bT aG bW m_x gR pW nG oO qO qQ xJ vZ zQ aAW xK yR xT yF zG zI hpost hKn _ x1 0 jD m_length oF rP dQ bZ aR aE bI aW oJ (by omega) (by omega) yM zE aAR aA1 aAA zT yL xQ yY yK zL hn2 (by omega)⟩
set_option maxHeartbeats 8000000 in
set_option maxRecDepth 200000 in
theorem tb_X10_laySeconds_2 {post : Nat → Int32 → Int32 → Int32 → Int32 → Int32 → Int32 → Int32 → Int32 → Int32 → (Nat → Int32) → Prop} (bT aG bW : Int32) (m_x gR pW nG oO qO qQ : Nat → Int32) (xJ : 0 ≤ Int32.toInt bT ∧ Int32.toInt bT ≤ 16) (vZ : 0 ≤ Int32.toInt aG ∧ Int32.toInt aG ≤ 8) (zQ : 0 ≤ Int32.toInt bW ∧ Int32.toInt bW ≤ 40) (aAW : ∀ k : Nat, 0 ≤ Int32.toInt (m_x k) ∧ Int32.toInt (m_x k) ≤ 99) (xK : ∀ k : Nat, 0 ≤ Int32.toInt (gR k) ∧ Int32.toInt (gR k) ≤ 99) (yR : ∀ k : Nat, 0 ≤ Int32.toInt (pW k) ∧ Int32.toInt (pW k) ≤ 9) (xT : ∀ k : Nat, 0 ≤ Int32.toInt (nG k) ∧ Int32.toInt (nG k) ≤ 99) (yF : ∀ k : Nat, 0 ≤ Int32.toInt (oO k) ∧ Int32.toInt (oO k) ≤ 99) (zG : ∀ k : Nat, -128 ≤ Int32.toInt (qO k) ∧ Int32.toInt (qO k) ≤ 127) (zI : ∀ k : Nat, -128 ≤ Int32.toInt (qQ k) ∧ Int32.toInt (qQ k) ≤ 127) (hpost : ∀ (aAP : Nat) (zS : Int32) (aAz : Int32) (aAm : Int32) (zH : Int32) (aAM : Int32) (zP : Int32) (yO : Int32) (zZ : Int32) (zO : Int32) (aBR : Nat → Int32), (aAP = 0 ∨ aAP = 1 ∨ aAP = 2) → (0 ≤ Int32.toInt zS ∧ Int32.toInt zS ≤ 80) → (0 ≤ Int32.toInt aAz ∧ Int32.toInt aAz ≤ 80) → (0 ≤ Int32.toInt aAm ∧ Int32.toInt aAm ≤ 80) → (-1 ≤ Int32.toInt zH ∧ Int32.toInt zH ≤ 80) → (0 ≤ Int32.toInt aAM ∧ Int32.toInt aAM ≤ 0) → (0 ≤ Int32.toInt zP ∧ Int32.toInt zP ≤ 15) → (0 ≤ Int32.toInt yO ∧ Int32.toInt yO ≤ 7) → (0 ≤ Int32.toInt zZ ∧ Int32.toInt zZ ≤ 1) → (0 ≤ Int32.toInt zO ∧ Int32.toInt zO ≤ 63) → (∀ k : Nat, 0 ≤ Int32.toInt (aBR k) ∧ Int32.toInt (aBR k) ≤ 99) → post aAP zS aAz aAm zH aAM zP yO zZ zO aBR) : ∀ (n : Nat) (x1 : Int32) (jD : Nat) (m_length oF rP dQ bZ aR aE bI aW : Int32) (oJ : Nat → Int32), (0 ≤ Int32.toInt x1 ∧ Int32.toInt x1 ≤ 8) → (jD = 0 ∨ jD = 1 ∨ jD = 2) → (0 ≤ Int32.toInt m_length ∧ Int32.toInt m_length ≤ 80) → (0 ≤ Int32.toInt oF ∧ Int32.toInt oF ≤ 80) → (0 ≤ Int32.toInt rP ∧ Int32.toInt rP ≤ 80) → (-1 ≤ Int32.toInt dQ ∧ Int32.toInt dQ ≤ 80) → (0 ≤ Int32.toInt bZ ∧ Int32.toInt bZ ≤ 0) → (0 ≤ Int32.toInt aR ∧ Int32.toInt aR ≤ 15) → (0 ≤ Int32.toInt aE ∧ Int32.toInt aE ≤ 7) → (0 ≤ Int32.toInt bI ∧ Int32.toInt bI ≤ 1) → (0 ≤ Int32.toInt aW ∧ Int32.toInt aW ≤ 63) → (∀ k : Nat, 0 ≤ Int32.toInt (oJ k) ∧ Int32.toInt (oJ k) ≤ 99) → (8 - Int32.toInt x1 < (n : Int)) → wb_X10_laySeconds_2 post bT aG bW m_x gR pW nG oO qO qQ n x1 jD m_length oF rP dQ bZ aR aE bI aW oJ := by
  intro n
  induction n with
  | zero =>
    intro x1 jD m_length oF rP dQ bZ aR aE bI aW oJ aBK yM zE aAR aA1 aAA zT yL xQ yY yK zL hm
    exfalso; omega
  | succ n ih =>
    intro x1 jD m_length oF rP dQ bZ aR aE bI aW oJ aBK yM zE aAR aA1 aAA zT yL xQ yY yK zL hm
    exact ts_X10_laySeconds_2 bT aG bW m_x gR pW nG oO qO qQ xJ vZ zQ aAW xK yR xT yF zG zI hpost ih x1 jD m_length oF rP dQ bZ aR aE bI aW oJ aBK yM zE aAR aA1 aAA zT yL xQ yY yK zL (by omega)
set_option maxHeartbeats 8000000 in
set_option maxRecDepth 200000 in
theorem t_X10_laySeconds {post : Nat → Int32 → Int32 → Int32 → Int32 → Int32 → Int32 → Int32 → Int32 → Int32 → (Nat → Int32) → Prop} {bT aG : Int32} {jD : Nat} {m_length oF rP dQ bW bZ aR aE bI aW : Int32} {m_x gR pW nG oO qO qQ oJ : Nat → Int32} (xJ : 0 ≤ Int32.toInt bT ∧ Int32.toInt bT ≤ 16) (vZ : 0 ≤ Int32.toInt aG ∧ Int32.toInt aG ≤ 8) (yM : jD = 0 ∨ jD = 1 ∨ jD = 2) (zE : 0 ≤ Int32.toInt m_length ∧ Int32.toInt m_length ≤ 80) (aAR : 0 ≤ Int32.toInt oF ∧ Int32.toInt oF ≤ 80) (aA1 : 0 ≤ Int32.toInt rP ∧ Int32.toInt rP ≤ 80) (aAA : -1 ≤ Int32.toInt dQ ∧ Int32.toInt dQ ≤ 80) (zQ : 0 ≤ Int32.toInt bW ∧ Int32.toInt bW ≤ 40) (zT : 0 ≤ Int32.toInt bZ ∧ Int32.toInt bZ ≤ 0) (yL : 0 ≤ Int32.toInt aR ∧ Int32.toInt aR ≤ 15) (xQ : 0 ≤ Int32.toInt aE ∧ Int32.toInt aE ≤ 7) (yY : 0 ≤ Int32.toInt bI ∧ Int32.toInt bI ≤ 1) (yK : 0 ≤ Int32.toInt aW ∧ Int32.toInt aW ≤ 63) (aAW : ∀ k : Nat, 0 ≤ Int32.toInt (m_x k) ∧ Int32.toInt (m_x k) ≤ 99) (xK : ∀ k : Nat, 0 ≤ Int32.toInt (gR k) ∧ Int32.toInt (gR k) ≤ 99) (yR : ∀ k : Nat, 0 ≤ Int32.toInt (pW k) ∧ Int32.toInt (pW k) ≤ 9) (xT : ∀ k : Nat, 0 ≤ Int32.toInt (nG k) ∧ Int32.toInt (nG k) ≤ 99) (yF : ∀ k : Nat, 0 ≤ Int32.toInt (oO k) ∧ Int32.toInt (oO k) ≤ 99) (zG : ∀ k : Nat, -128 ≤ Int32.toInt (qO k) ∧ Int32.toInt (qO k) ≤ 127) (zI : ∀ k : Nat, -128 ≤ Int32.toInt (qQ k) ∧ Int32.toInt (qQ k) ≤ 127) (zL : ∀ k : Nat, 0 ≤ Int32.toInt (oJ k) ∧ Int32.toInt (oJ k) ≤ 99) (hpost : ∀ (aAP : Nat) (zS : Int32) (aAz : Int32) (aAm : Int32) (zH : Int32) (aAM : Int32) (zP : Int32) (yO : Int32) (zZ : Int32) (zO : Int32) (aBR : Nat → Int32), (aAP = 0 ∨ aAP = 1 ∨ aAP = 2) → (0 ≤ Int32.toInt zS ∧ Int32.toInt zS ≤ 80) → (0 ≤ Int32.toInt aAz ∧ Int32.toInt aAz ≤ 80) → (0 ≤ Int32.toInt aAm ∧ Int32.toInt aAm ≤ 80) → (-1 ≤ Int32.toInt zH ∧ Int32.toInt zH ≤ 80) → (0 ≤ Int32.toInt aAM ∧ Int32.toInt aAM ≤ 0) → (0 ≤ Int32.toInt zP ∧ Int32.toInt zP ≤ 15) → (0 ≤ Int32.toInt yO ∧ Int32.toInt yO ≤ 7) → (0 ≤ Int32.toInt zZ ∧ Int32.toInt zZ ≤ 1) → (0 ≤ Int32.toInt zO ∧ Int32.toInt zO ≤ 63) → (∀ k : Nat, 0 ≤ Int32.toInt (aBR k) ∧ Int32.toInt (aBR k) ≤ 99) → post aAP zS aAz aAm zH aAM zP yO zZ zO aBR) : wp_X10_laySeconds post bT aG jD m_length oF rP dQ bW bZ aR aE bI aW m_x gR pW nG oO qO qQ oJ := by
  have l0 := aE0
  exact ⟨10, tb_X10_laySeconds_2 bT aG bW m_x gR pW nG oO qO qQ xJ vZ zQ aAW xK yR xT yF zG zI hpost _ 0 jD m_length oF rP dQ bZ aR aE bI aW oJ (by omega) yM zE aAR aA1 aAA zT yL xQ yY yK zL (by omega)⟩
set_option maxHeartbeats 8000000 in
set_option maxRecDepth 200000 in
theorem ts_X10_workOf_202 {post : Int32 → Int32 → Int32 → Int32 → (Nat → Int32) → Prop} {SB : Int} {next : Int32 → Int32 → Int32 → Int32 → (Nat → Int32) → Prop} {n202 : Int} (bT aG dO : Int32) (qG oO pJ sH uE oJ : Nat → Int32) (xJ : 0 ≤ Int32.toInt bT ∧ Int32.toInt bT ≤ 16) (vZ : 0 ≤ Int32.toInt aG ∧ Int32.toInt aG ≤ 8) (aAH : 0 ≤ Int32.toInt dO ∧ Int32.toInt dO ≤ 65535) (xU : ∀ k : Nat, k = 17 → -1 ≤ Int32.toInt (qG k) ∧ Int32.toInt (qG k) ≤ SB) (xV : ∀ k : Nat, k = 19 → 0 ≤ Int32.toInt (qG k) ∧ Int32.toInt (qG k) ≤ 9) (yF : ∀ k : Nat, 0 ≤ Int32.toInt (oO k) ∧ Int32.toInt (oO k) ≤ 99) (yD : ∀ k : Nat, k = 4 → 1 ≤ Int32.toInt (pJ k) ∧ Int32.toInt (pJ k) ≤ 30) (xZ : ∀ k : Nat, k = 3 → 0 ≤ Int32.toInt (pJ k) ∧ Int32.toInt (pJ k) ≤ 9) (zY : ∀ k : Nat, 0 ≤ Int32.toInt (sH k) ∧ Int32.toInt (sH k) ≤ 65535) (aAw : ∀ k : Nat, 0 ≤ Int32.toInt (uE k) ∧ Int32.toInt (uE k) ≤ 1000000) (zL : ∀ k : Nat, 0 ≤ Int32.toInt (oJ k) ∧ Int32.toInt (oJ k) ≤ 99) (hc0 : -1 ≤ SB ∧ SB ≤ 7) (hc1 : (Int32.toInt aG ≤ 0 ∧ SB = 0) ∨ (1 ≤ Int32.toInt aG ∧ SB = Int32.toInt aG - 1)) (hpost : ∀ (r : Int32) (aB9 : Int32) (aEo : Int32) (aEn : Int32) (aGb : Nat → Int32), (0 ≤ Int32.toInt aB9 ∧ Int32.toInt aB9 ≤ 1000000) → post r aB9 aEo aEn aGb) (hKn : ∀ (x2 : Int32) (bM : Int32) (bQ : Int32) (bO : Int32) (vK : Nat → Int32), (0 ≤ Int32.toInt x2 ∧ Int32.toInt x2 ≤ 8) → (0 ≤ Int32.toInt bM ∧ Int32.toInt bM ≤ 1000000) → (8 - Int32.toInt x2 < n202) → next x2 bM bQ bO vK) (x2 bM bQ bO : Int32) (vK : Nat → Int32) (aBN : 0 ≤ Int32.toInt x2 ∧ Int32.toInt x2 ≤ 8) (aAv : 0 ≤ Int32.toInt bM ∧ Int32.toInt bM ≤ 1000000) (hn202 : 8 - Int32.toInt x2 ≤ n202) : ws_X10_workOf_202 post next bT aG dO qG oO pJ sH uE oJ x2 bM bQ bO vK := by
  have l0 := aE0
  have l1 := aEc
  have l2 := li_4
  have l3 := li_9
  refine And.intro (fun c1 => ?_) (fun c1 => ?_)
  · skip
    have c1 := (aAO _ _).mp c1
    intro v2 ev2
    have hv2 := congrArg Int32.toInt ev2
    exact hpost _ _ _ _ _ aAv
  · skip
    have c1 := mt (aAO _ _).mpr c1
    refine And.intro (aBZ (by omega)) ?_
    intro v4 ev4
    have hv4 := congrArg Int32.toInt ev4
    have q6 := yD (4 : Int32).toNatClampNeg (by have e9 : (4 : Int32).toNatClampNeg = (Int32.toInt (4 : Int32)).toNat := rfl; omega)
    intro v7 ev7
    have hv7 := congrArg Int32.toInt ev7
    intro v9 ev9
    have hv9 := congrArg Int32.toInt ev9
    have q11 := yD (4 : Int32).toNatClampNeg (by have e9 : (4 : Int32).toNatClampNeg = (Int32.toInt (4 : Int32)).toNat := rfl; omega)
    refine And.intro (mt (zJ _ _).mp (by omega)) ?_
    intro v13 ev13
    refine And.intro (aBZ (by omega)) ?_
    intro v14 ev14
    have f15 := yF x2.toNatClampNeg
    have hv14 := congrArg Int32.toInt ev14
    intro v16 ev16
    have f17 : Int32.toInt (v14 + 9) = Int32.toInt v14 + Int32.toInt (9 : Int32) := aAD _ _ (by omega)
    rw [← ev16] at f17
    intro v18 ev18
    have hv18 := congrArg Int32.toInt ev18
    intro v20 ev20
    have f21 : Int32.toInt (x2 + 1) = Int32.toInt x2 + Int32.toInt (1 : Int32) := aAD _ _ (by omega)
    rw [← ev20] at f21
    have f22 := aAT bQ
    have f23 := aAT v18
    exact hKn v20 bM bQ v18 vK (by omega) aAv (by omega)
set_option maxHeartbeats 8000000 in
set_option maxRecDepth 200000 in
theorem tb_X10_workOf_202 {post : Int32 → Int32 → Int32 → Int32 → (Nat → Int32) → Prop} {SB : Int} (bT aG dO : Int32) (qG oO pJ sH uE oJ : Nat → Int32) (xJ : 0 ≤ Int32.toInt bT ∧ Int32.toInt bT ≤ 16) (vZ : 0 ≤ Int32.toInt aG ∧ Int32.toInt aG ≤ 8) (aAH : 0 ≤ Int32.toInt dO ∧ Int32.toInt dO ≤ 65535) (xU : ∀ k : Nat, k = 17 → -1 ≤ Int32.toInt (qG k) ∧ Int32.toInt (qG k) ≤ SB) (xV : ∀ k : Nat, k = 19 → 0 ≤ Int32.toInt (qG k) ∧ Int32.toInt (qG k) ≤ 9) (yF : ∀ k : Nat, 0 ≤ Int32.toInt (oO k) ∧ Int32.toInt (oO k) ≤ 99) (yD : ∀ k : Nat, k = 4 → 1 ≤ Int32.toInt (pJ k) ∧ Int32.toInt (pJ k) ≤ 30) (xZ : ∀ k : Nat, k = 3 → 0 ≤ Int32.toInt (pJ k) ∧ Int32.toInt (pJ k) ≤ 9) (zY : ∀ k : Nat, 0 ≤ Int32.toInt (sH k) ∧ Int32.toInt (sH k) ≤ 65535) (aAw : ∀ k : Nat, 0 ≤ Int32.toInt (uE k) ∧ Int32.toInt (uE k) ≤ 1000000) (zL : ∀ k : Nat, 0 ≤ Int32.toInt (oJ k) ∧ Int32.toInt (oJ k) ≤ 99) (hc0 : -1 ≤ SB ∧ SB ≤ 7) (hc1 : (Int32.toInt aG ≤ 0 ∧ SB = 0) ∨ (1 ≤ Int32.toInt aG ∧ SB = Int32.toInt aG - 1)) (hpost : ∀ (r : Int32) (aB9 : Int32) (aEo : Int32) (aEn : Int32) (aGb : Nat → Int32), (0 ≤ Int32.toInt aB9 ∧ Int32.toInt aB9 ≤ 1000000) → post r aB9 aEo aEn aGb) : ∀ (n : Nat) (x2 bM bQ bO : Int32) (vK : Nat → Int32), (0 ≤ Int32.toInt x2 ∧ Int32.toInt x2 ≤ 8) → (0 ≤ Int32.toInt bM ∧ Int32.toInt bM ≤ 1000000) → (8 - Int32.toInt x2 < (n : Int)) → wb_X10_workOf_202 post bT aG dO qG oO pJ sH uE oJ n x2 bM bQ bO vK := by
  intro n
  induction n with
  | zero =>
    intro x2 bM bQ bO vK aBN aAv hm
    exfalso; omega
  | succ n ih =>
    intro x2 bM bQ bO vK aBN aAv hm
    exact ts_X10_workOf_202 bT aG dO qG oO pJ sH uE oJ xJ vZ aAH xU xV yF yD xZ zY aAw zL hc0 hc1 hpost ih x2 bM bQ bO vK aBN aAv (by omega)
set_option maxHeartbeats 8000000 in
set_option maxRecDepth 200000 in
theorem ts_X10_workOf_194 {post : Int32 → Int32 → Int32 → Int32 → (Nat → Int32) → Prop} {SB : Int} {K57 : Int32 → Int32 → Int32 → Int32 → Int32 → (Nat → Int32) → Prop} {n57 : Int} (bT aG dO : Int32) (qG oO pJ sH uE oJ : Nat → Int32) (xJ : 0 ≤ Int32.toInt bT ∧ Int32.toInt bT ≤ 16) (vZ : 0 ≤ Int32.toInt aG ∧ Int32.toInt aG ≤ 8) (aAH : 0 ≤ Int32.toInt dO ∧ Int32.toInt dO ≤ 65535) (xU : ∀ k : Nat, k = 17 → -1 ≤ Int32.toInt (qG k) ∧ Int32.toInt (qG k) ≤ SB) (xV : ∀ k : Nat, k = 19 → 0 ≤ Int32.toInt (qG k) ∧ Int32.toInt (qG k) ≤ 9) (yF : ∀ k : Nat, 0 ≤ Int32.toInt (oO k) ∧ Int32.toInt (oO k) ≤ 99) (yD : ∀ k : Nat, k = 4 → 1 ≤ Int32.toInt (pJ k) ∧ Int32.toInt (pJ k) ≤ 30) (xZ : ∀ k : Nat, k = 3 → 0 ≤ Int32.toInt (pJ k) ∧ Int32.toInt (pJ k) ≤ 9) (zY : ∀ k : Nat, 0 ≤ Int32.toInt (sH k) ∧ Int32.toInt (sH k) ≤ 65535) (aAw : ∀ k : Nat, 0 ≤ Int32.toInt (uE k) ∧ Int32.toInt (uE k) ≤ 1000000) (zL : ∀ k : Nat, 0 ≤ Int32.toInt (oJ k) ∧ Int32.toInt (oJ k) ≤ 99) (hc0 : -1 ≤ SB ∧ SB ≤ 7) (hc1 : (Int32.toInt aG ≤ 0 ∧ SB = 0) ∨ (1 ≤ Int32.toInt aG ∧ SB = Int32.toInt aG - 1)) (hpost : ∀ (r : Int32) (aB9 : Int32) (aEo : Int32) (aEn : Int32) (aGb : Nat → Int32), (0 ≤ Int32.toInt aB9 ∧ Int32.toInt aB9 ≤ 1000000) → post r aB9 aEo aEn aGb) (hK57 : ∀ (x1 : Int32) (x2 : Int32) (bM : Int32) (bQ : Int32) (bO : Int32) (vK : Nat → Int32), (0 ≤ Int32.toInt x1 ∧ Int32.toInt x1 ≤ 255) → (0 ≤ Int32.toInt x2 ∧ Int32.toInt x2 ≤ 16) → (0 ≤ Int32.toInt bM ∧ Int32.toInt bM ≤ 1000000) → (0 ≤ Int32.toInt bO ∧ Int32.toInt bO ≤ 0) → (16 - Int32.toInt x2 < n57) → K57 x1 x2 bM bQ bO vK) (x1 x2 bM bQ bO : Int32) (vK : Nat → Int32) (aBK : 0 ≤ Int32.toInt x1 ∧ Int32.toInt x1 ≤ 255) (aBN : 0 ≤ Int32.toInt x2 ∧ Int32.toInt x2 ≤ 15) (aAv : 0 ≤ Int32.toInt bM ∧ Int32.toInt bM ≤ 1000000) (aOl : 0 ≤ Int32.toInt bO ∧ Int32.toInt bO ≤ 0) (hn57 : 16 - Int32.toInt x2 ≤ n57) : ws_X10_workOf_194 post K57 bT aG dO qG oO pJ sH uE oJ x1 x2 bM bQ bO vK := by
  have l0 := aEc
  intro v24 ev24
  have f25 : Int32.toInt (x2 + 1) = Int32.toInt x2 + Int32.toInt (1 : Int32) := aAD _ _ (by omega)
  rw [← ev24] at f25
  have f26 := aAT bQ
  exact hK57 x1 v24 bM bQ bO vK aBK (by omega) aAv aOl (by omega)
set_option maxHeartbeats 8000000 in
set_option maxRecDepth 200000 in
theorem ts_X10_workOf_150 {post : Int32 → Int32 → Int32 → Int32 → (Nat → Int32) → Prop} {SB : Int} {K57 : Int32 → Int32 → Int32 → Int32 → Int32 → (Nat → Int32) → Prop} {K84 : Int32 → Int32 → Int32 → Int32 → Int32 → Int32 → Int32 → (Nat → Int32) → Prop} {n57 n84 : Int} (bT aG dO : Int32) (qG oO pJ sH uE oJ : Nat → Int32) (xJ : 0 ≤ Int32.toInt bT ∧ Int32.toInt bT ≤ 16) (vZ : 0 ≤ Int32.toInt aG ∧ Int32.toInt aG ≤ 8) (aAH : 0 ≤ Int32.toInt dO ∧ Int32.toInt dO ≤ 65535) (xU : ∀ k : Nat, k = 17 → -1 ≤ Int32.toInt (qG k) ∧ Int32.toInt (qG k) ≤ SB) (xV : ∀ k : Nat, k = 19 → 0 ≤ Int32.toInt (qG k) ∧ Int32.toInt (qG k) ≤ 9) (yF : ∀ k : Nat, 0 ≤ Int32.toInt (oO k) ∧ Int32.toInt (oO k) ≤ 99) (yD : ∀ k : Nat, k = 4 → 1 ≤ Int32.toInt (pJ k) ∧ Int32.toInt (pJ k) ≤ 30) (xZ : ∀ k : Nat, k = 3 → 0 ≤ Int32.toInt (pJ k) ∧ Int32.toInt (pJ k) ≤ 9) (zY : ∀ k : Nat, 0 ≤ Int32.toInt (sH k) ∧ Int32.toInt (sH k) ≤ 65535) (aAw : ∀ k : Nat, 0 ≤ Int32.toInt (uE k) ∧ Int32.toInt (uE k) ≤ 1000000) (zL : ∀ k : Nat, 0 ≤ Int32.toInt (oJ k) ∧ Int32.toInt (oJ k) ≤ 99) (hc0 : -1 ≤ SB ∧ SB ≤ 7) (hc1 : (Int32.toInt aG ≤ 0 ∧ SB = 0) ∨ (1 ≤ Int32.toInt aG ∧ SB = Int32.toInt aG - 1)) (hpost : ∀ (r : Int32) (aB9 : Int32) (aEo : Int32) (aEn : Int32) (aGb : Nat → Int32), (0 ≤ Int32.toInt aB9 ∧ Int32.toInt aB9 ≤ 1000000) → post r aB9 aEo aEn aGb) (hK57 : ∀ (x1 : Int32) (x2 : Int32) (bM : Int32) (bQ : Int32) (bO : Int32) (vK : Nat → Int32), (0 ≤ Int32.toInt x1 ∧ Int32.toInt x1 ≤ 255) → (0 ≤ Int32.toInt x2 ∧ Int32.toInt x2 ≤ 16) → (0 ≤ Int32.toInt bM ∧ Int32.toInt bM ≤ 1000000) → (0 ≤ Int32.toInt bO ∧ Int32.toInt bO ≤ 0) → (16 - Int32.toInt x2 < n57) → K57 x1 x2 bM bQ bO vK) (hK84 : ∀ (x1 : Int32) (x2 : Int32) (x3 : Int32) (x4 : Int32) (bM : Int32) (bQ : Int32) (bO : Int32) (vK : Nat → Int32), (0 ≤ Int32.toInt x1 ∧ Int32.toInt x1 ≤ 255) → (0 ≤ Int32.toInt x2 ∧ Int32.toInt x2 ≤ 15) → (-1 ≤ Int32.toInt x3 ∧ Int32.toInt x3 ≤ 7) → (0 ≤ Int32.toInt x4 ∧ Int32.toInt x4 ≤ 8) → (0 ≤ Int32.toInt bM ∧ Int32.toInt bM ≤ 1000000) → (0 ≤ Int32.toInt bO ∧ Int32.toInt bO ≤ 0) → (16 - Int32.toInt x2 ≤ n57) → (8 - Int32.toInt x4 < n84) → K84 x1 x2 x3 x4 bM bQ bO vK) (x1 x2 x3 x4 bM bQ bO : Int32) (vK : Nat → Int32) (aBK : 0 ≤ Int32.toInt x1 ∧ Int32.toInt x1 ≤ 255) (aBN : 0 ≤ Int32.toInt x2 ∧ Int32.toInt x2 ≤ 15) (aCH : -1 ≤ Int32.toInt x3 ∧ Int32.toInt x3 ≤ 7) (aDO : 0 ≤ Int32.toInt x4 ∧ Int32.toInt x4 ≤ 7) (aAv : 0 ≤ Int32.toInt bM ∧ Int32.toInt bM ≤ 1000000) (aOl : 0 ≤ Int32.toInt bO ∧ Int32.toInt bO ≤ 0) (hn57 : 16 - Int32.toInt x2 ≤ n57) (hn84 : 8 - Int32.toInt x4 ≤ n84) : ws_X10_workOf_150 post K57 K84 bT aG dO qG oO pJ sH uE oJ x1 x2 x3 x4 bM bQ bO vK := by
  have l0 := aEc
  intro v27 ev27
  have f28 : Int32.toInt (x4 + 1) = Int32.toInt x4 + Int32.toInt (1 : Int32) := aAD _ _ (by omega)
  rw [← ev27] at f28
  have f29 := aAT bQ
  exact hK84 x1 x2 x3 v27 bM bQ bO vK aBK aBN aCH (by omega) aAv aOl hn57 (by omega)
set_option maxHeartbeats 8000000 in
set_option maxRecDepth 200000 in
theorem ts_X10_workOf_147 {post : Int32 → Int32 → Int32 → Int32 → (Nat → Int32) → Prop} {SB : Int} {K57 : Int32 → Int32 → Int32 → Int32 → Int32 → (Nat → Int32) → Prop} {K84 : Int32 → Int32 → Int32 → Int32 → Int32 → Int32 → Int32 → (Nat → Int32) → Prop} {n57 n84 : Int} (bT aG dO : Int32) (qG oO pJ sH uE oJ : Nat → Int32) (xJ : 0 ≤ Int32.toInt bT ∧ Int32.toInt bT ≤ 16) (vZ : 0 ≤ Int32.toInt aG ∧ Int32.toInt aG ≤ 8) (aAH : 0 ≤ Int32.toInt dO ∧ Int32.toInt dO ≤ 65535) (xU : ∀ k : Nat, k = 17 → -1 ≤ Int32.toInt (qG k) ∧ Int32.toInt (qG k) ≤ SB) (xV : ∀ k : Nat, k = 19 → 0 ≤ Int32.toInt (qG k) ∧ Int32.toInt (qG k) ≤ 9) (yF : ∀ k : Nat, 0 ≤ Int32.toInt (oO k) ∧ Int32.toInt (oO k) ≤ 99) (yD : ∀ k : Nat, k = 4 → 1 ≤ Int32.toInt (pJ k) ∧ Int32.toInt (pJ k) ≤ 30) (xZ : ∀ k : Nat, k = 3 → 0 ≤ Int32.toInt (pJ k) ∧ Int32.toInt (pJ k) ≤ 9) (zY : ∀ k : Nat, 0 ≤ Int32.toInt (sH k) ∧ Int32.toInt (sH k) ≤ 65535) (aAw : ∀ k : Nat, 0 ≤ Int32.toInt (uE k) ∧ Int32.toInt (uE k) ≤ 1000000) (zL : ∀ k : Nat, 0 ≤ Int32.toInt (oJ k) ∧ Int32.toInt (oJ k) ≤ 99) (hc0 : -1 ≤ SB ∧ SB ≤ 7) (hc1 : (Int32.toInt aG ≤ 0 ∧ SB = 0) ∨ (1 ≤ Int32.toInt aG ∧ SB = Int32.toInt aG - 1)) (hpost : ∀ (r : Int32) (aB9 : Int32) (aEo : Int32) (aEn : Int32) (aGb : Nat → Int32), (0 ≤ Int32.toInt aB9 ∧ Int32.toInt aB9 ≤ 1000000) → post r aB9 aEo aEn aGb) (hK57 : ∀ (x1 : Int32) (x2 : Int32) (bM : Int32) (bQ : Int32) (bO : Int32) (vK : Nat → Int32), (0 ≤ Int32.toInt x1 ∧ Int32.toInt x1 ≤ 255) → (0 ≤ Int32.toInt x2 ∧ Int32.toInt x2 ≤ 16) → (0 ≤ Int32.toInt bM ∧ Int32.toInt bM ≤ 1000000) → (0 ≤ Int32.toInt bO ∧ Int32.toInt bO ≤ 0) → (16 - Int32.toInt x2 < n57) → K57 x1 x2 bM bQ bO vK) (hK84 : ∀ (x1 : Int32) (x2 : Int32) (x3 : Int32) (x4 : Int32) (bM : Int32) (bQ : Int32) (bO : Int32) (vK : Nat → Int32), (0 ≤ Int32.toInt x1 ∧ Int32.toInt x1 ≤ 255) → (0 ≤ Int32.toInt x2 ∧ Int32.toInt x2 ≤ 15) → (-1 ≤ Int32.toInt x3 ∧ Int32.toInt x3 ≤ 7) → (0 ≤ Int32.toInt x4 ∧ Int32.toInt x4 ≤ 8) → (0 ≤ Int32.toInt bM ∧ Int32.toInt bM ≤ 1000000) → (0 ≤ Int32.toInt bO ∧ Int32.toInt bO ≤ 0) → (16 - Int32.toInt x2 ≤ n57) → (8 - Int32.toInt x4 < n84) → K84 x1 x2 x3 x4 bM bQ bO vK) (x1 x2 x4 bM bQ bO : Int32) (vK : Nat → Int32) (aBK : 0 ≤ Int32.toInt x1 ∧ Int32.toInt x1 ≤ 255) (aBN : 0 ≤ Int32.toInt x2 ∧ Int32.toInt x2 ≤ 15) (aDO : 0 ≤ Int32.toInt x4 ∧ Int32.toInt x4 ≤ 7) (aAv : 0 ≤ Int32.toInt bM ∧ Int32.toInt bM ≤ 1000000) (aOl : 0 ≤ Int32.toInt bO ∧ Int32.toInt bO ≤ 0) (hn57 : 16 - Int32.toInt x2 ≤ n57) (hn84 : 8 - Int32.toInt x4 ≤ n84) : ws_X10_workOf_147 post K57 K84 bT aG dO qG oO pJ sH uE oJ x1 x2 x4 bM bQ bO vK := by
  have f30 := aAT bQ
  exact ts_X10_workOf_150 bT aG dO qG oO pJ sH uE oJ xJ vZ aAH xU xV yF yD xZ zY aAw zL hc0 hc1 hpost hK57 hK84 x1 x2 x4 x4 bM bQ bO vK aBK aBN (by omega) aDO aAv aOl hn57 hn84
set_option maxHeartbeats 8000000 in
set_option maxRecDepth 200000 in
theorem ts_X10_workOf_84 {post : Int32 → Int32 → Int32 → Int32 → (Nat → Int32) → Prop} {SB : Int} {K57 : Int32 → Int32 → Int32 → Int32 → Int32 → (Nat → Int32) → Prop} {next : Int32 → Int32 → Int32 → Int32 → Int32 → Int32 → Int32 → (Nat → Int32) → Prop} {n84 n57 : Int} (bT aG dO : Int32) (qG oO pJ sH uE oJ : Nat → Int32) (xJ : 0 ≤ Int32.toInt bT ∧ Int32.toInt bT ≤ 16) (vZ : 0 ≤ Int32.toInt aG ∧ Int32.toInt aG ≤ 8) (aAH : 0 ≤ Int32.toInt dO ∧ Int32.toInt dO ≤ 65535) (xU : ∀ k : Nat, k = 17 → -1 ≤ Int32.toInt (qG k) ∧ Int32.toInt (qG k) ≤ SB) (xV : ∀ k : Nat, k = 19 → 0 ≤ Int32.toInt (qG k) ∧ Int32.toInt (qG k) ≤ 9) (yF : ∀ k : Nat, 0 ≤ Int32.toInt (oO k) ∧ Int32.toInt (oO k) ≤ 99) (yD : ∀ k : Nat, k = 4 → 1 ≤ Int32.toInt (pJ k) ∧ Int32.toInt (pJ k) ≤ 30) (xZ : ∀ k : Nat, k = 3 → 0 ≤ Int32.toInt (pJ k) ∧ Int32.toInt (pJ k) ≤ 9) (zY : ∀ k : Nat, 0 ≤ Int32.toInt (sH k) ∧ Int32.toInt (sH k) ≤ 65535) (aAw : ∀ k : Nat, 0 ≤ Int32.toInt (uE k) ∧ Int32.toInt (uE k) ≤ 1000000) (zL : ∀ k : Nat, 0 ≤ Int32.toInt (oJ k) ∧ Int32.toInt (oJ k) ≤ 99) (hc0 : -1 ≤ SB ∧ SB ≤ 7) (hc1 : (Int32.toInt aG ≤ 0 ∧ SB = 0) ∨ (1 ≤ Int32.toInt aG ∧ SB = Int32.toInt aG - 1)) (hpost : ∀ (r : Int32) (aB9 : Int32) (aEo : Int32) (aEn : Int32) (aGb : Nat → Int32), (0 ≤ Int32.toInt aB9 ∧ Int32.toInt aB9 ≤ 1000000) → post r aB9 aEo aEn aGb) (hK57 : ∀ (x1 : Int32) (x2 : Int32) (bM : Int32) (bQ : Int32) (bO : Int32) (vK : Nat → Int32), (0 ≤ Int32.toInt x1 ∧ Int32.toInt x1 ≤ 255) → (0 ≤ Int32.toInt x2 ∧ Int32.toInt x2 ≤ 16) → (0 ≤ Int32.toInt bM ∧ Int32.toInt bM ≤ 1000000) → (0 ≤ Int32.toInt bO ∧ Int32.toInt bO ≤ 0) → (16 - Int32.toInt x2 < n57) → K57 x1 x2 bM bQ bO vK) (hKn : ∀ (x1 : Int32) (x2 : Int32) (x3 : Int32) (x4 : Int32) (bM : Int32) (bQ : Int32) (bO : Int32) (vK : Nat → Int32), (0 ≤ Int32.toInt x1 ∧ Int32.toInt x1 ≤ 255) → (0 ≤ Int32.toInt x2 ∧ Int32.toInt x2 ≤ 15) → (-1 ≤ Int32.toInt x3 ∧ Int32.toInt x3 ≤ 7) → (0 ≤ Int32.toInt x4 ∧ Int32.toInt x4 ≤ 8) → (0 ≤ Int32.toInt bM ∧ Int32.toInt bM ≤ 1000000) → (0 ≤ Int32.toInt bO ∧ Int32.toInt bO ≤ 0) → (16 - Int32.toInt x2 ≤ n57) → (8 - Int32.toInt x4 < n84) → next x1 x2 x3 x4 bM bQ bO vK) (x1 x2 x3 x4 bM bQ bO : Int32) (vK : Nat → Int32) (aBK : 0 ≤ Int32.toInt x1 ∧ Int32.toInt x1 ≤ 255) (aBN : 0 ≤ Int32.toInt x2 ∧ Int32.toInt x2 ≤ 15) (aCH : -1 ≤ Int32.toInt x3 ∧ Int32.toInt x3 ≤ 7) (aDO : 0 ≤ Int32.toInt x4 ∧ Int32.toInt x4 ≤ 8) (aAv : 0 ≤ Int32.toInt bM ∧ Int32.toInt bM ≤ 1000000) (aOl : 0 ≤ Int32.toInt bO ∧ Int32.toInt bO ≤ 0) (hn57 : 16 - Int32.toInt x2 ≤ n57) (hn84 : 8 - Int32.toInt x4 ≤ n84) : ws_X10_workOf_84 post K57 next bT aG dO qG oO pJ sH uE oJ x1 x2 x3 x4 bM bQ bO vK := by
  have l0 := aI2
  have l1 := aEc
  have l2 := li_16
  refine And.intro (fun c31 => ?_) (fun c31 => ?_)
  · skip
    have c31 := (aAO _ _).mp c31
    refine And.intro (fun c32 => ?_) (fun c32 => ?_)
    · skip
      have c32 := mt (zJ _ _).mpr c32
      intro v33 ev33
      have f34 : Int32.toInt (16 * x3) = Int32.toInt x3 * 16 := ta_cmul _ _ (by decide) (by omega)
      rw [← ev33] at f34
      intro v35 ev35
      have f36 : Int32.toInt (v33 + x2) = Int32.toInt v33 + Int32.toInt x2 := aAD _ _ (by omega)
      rw [← ev35] at f36
      refine And.intro (aBZ (by omega)) ?_
      intro v37 ev37
      have hv37 := congrArg Int32.toInt ev37
      refine And.intro (aBZ (by omega)) ?_
      intro v39 ev39
      have hv39 := congrArg Int32.toInt ev39
      intro v41 ev41
      have hv41 := congrArg Int32.toInt ev41
      refine And.intro (aBZ (by omega)) ?_
      have f43 := aAT v37
      exact ts_X10_workOf_194 bT aG dO qG oO pJ sH uE oJ xJ vZ aAH xU xV yF yD xZ zY aAw zL hc0 hc1 hpost hK57 x1 x2 bM v37 bO (upd vK x3.toNatClampNeg v41) aBK aBN aAv aOl hn57
    · skip
      have c32 := (zJ _ _).mp c32
      have f44 := aAT bQ
      exact ts_X10_workOf_194 bT aG dO qG oO pJ sH uE oJ xJ vZ aAH xU xV yF yD xZ zY aAw zL hc0 hc1 hpost hK57 x1 x2 bM bQ bO vK aBK aBN aAv aOl hn57
  · skip
    have c31 := mt (aAO _ _).mpr c31
    intro v45 ev45
    have f46 := aRJ x1 x4 (by omega)
    have hv45 := congrArg Int32.toInt ev45
    intro v47 ev47
    have f48 := aAQ v45 1 (by omega)
    have f49 := aBx v45 1 (by omega)
    have hv47 := congrArg Int32.toInt ev47
    refine And.intro (fun c50 => ?_) (fun c50 => ?_)
    · skip
      have c50 := mt (zJ _ _).mpr c50
      refine And.intro (fun _ => ?_) (fun h9 => absurd h9 (by decide))
      have f51 := aAT bQ
      exact ts_X10_workOf_150 bT aG dO qG oO pJ sH uE oJ xJ vZ aAH xU xV yF yD xZ zY aAw zL hc0 hc1 hpost hK57 hKn x1 x2 x3 x4 bM bQ bO vK aBK aBN aCH (by omega) aAv aOl hn57 hn84
    · skip
      have c50 := (zJ _ _).mp c50
      refine And.intro (fun h9 => absurd h9 (by decide)) (fun _ => ?_)
      refine And.intro (aBZ (by omega)) ?_
      intro v52 ev52
      have f53 := zY x4.toNatClampNeg
      have hv52 := congrArg Int32.toInt ev52
      intro v54 ev54
      have f55 := aRJ v52 x2 (by omega)
      have hv54 := congrArg Int32.toInt ev54
      intro v56 ev56
      have f57 := aAQ v54 1 (by omega)
      have f58 := aBx v54 1 (by omega)
      have hv56 := congrArg Int32.toInt ev56
      refine And.intro (fun c59 => ?_) (fun c59 => ?_)
      · skip
        have c59 := mt (zJ _ _).mpr c59
        refine And.intro (fun _ => ?_) (fun h9 => absurd h9 (by decide))
        have f60 := aAT bQ
        exact ts_X10_workOf_150 bT aG dO qG oO pJ sH uE oJ xJ vZ aAH xU xV yF yD xZ zY aAw zL hc0 hc1 hpost hK57 hKn x1 x2 x3 x4 bM bQ bO vK aBK aBN aCH (by omega) aAv aOl hn57 hn84
      · skip
        have c59 := (zJ _ _).mp c59
        refine And.intro (fun h9 => absurd h9 (by decide)) (fun _ => ?_)
        refine And.intro (fun c61 => ?_) (fun c61 => ?_)
        · skip
          have c61 := (zJ _ _).mp c61
          have f62 := aAT bQ
          exact ts_X10_workOf_147 bT aG dO qG oO pJ sH uE oJ xJ vZ aAH xU xV yF yD xZ zY aAw zL hc0 hc1 hpost hK57 hKn x1 x2 x4 bM bQ bO vK aBK aBN (by omega) aAv aOl hn57 hn84
        · skip
          have c61 := mt (zJ _ _).mpr c61
          intro v63 ev63
          have f64 : Int32.toInt (16 * x4) = Int32.toInt x4 * 16 := ta_cmul _ _ (by decide) (by omega)
          rw [← ev63] at f64
          intro v65 ev65
          have f66 : Int32.toInt (v63 + x2) = Int32.toInt v63 + Int32.toInt x2 := aAD _ _ (by omega)
          rw [← ev65] at f66
          refine And.intro (aBZ (by omega)) ?_
          intro v67 ev67
          have f68 := zL v65.toNatClampNeg
          have hv67 := congrArg Int32.toInt ev67
          intro v69 ev69
          have f70 : Int32.toInt (16 * x3) = Int32.toInt x3 * 16 := ta_cmul _ _ (by decide) (by omega)
          rw [← ev69] at f70
          intro v71 ev71
          have f72 : Int32.toInt (v69 + x2) = Int32.toInt v69 + Int32.toInt x2 := aAD _ _ (by omega)
          rw [← ev71] at f72
          refine And.intro (aBZ (by omega)) ?_
          have f74 := zL v71.toNatClampNeg
          refine And.intro (fun c73 => ?_) (fun c73 => ?_)
          · skip
            have c73 := (aAO _ _).mp c73
            have f75 := aAT bQ
            exact ts_X10_workOf_150 bT aG dO qG oO pJ sH uE oJ xJ vZ aAH xU xV yF yD xZ zY aAw zL hc0 hc1 hpost hK57 hKn x1 x2 x3 x4 bM bQ bO vK aBK aBN aCH (by omega) aAv aOl hn57 hn84
          · skip
            have c73 := mt (aAO _ _).mpr c73
            have f76 := aAT bQ
            exact ts_X10_workOf_147 bT aG dO qG oO pJ sH uE oJ xJ vZ aAH xU xV yF yD xZ zY aAw zL hc0 hc1 hpost hK57 hKn x1 x2 x4 bM bQ bO vK aBK aBN (by omega) aAv aOl hn57 hn84
set_option maxHeartbeats 8000000 in
set_option maxRecDepth 200000 in
theorem tb_X10_workOf_84 {post : Int32 → Int32 → Int32 → Int32 → (Nat → Int32) → Prop} {SB : Int} {K57 : Int32 → Int32 → Int32 → Int32 → Int32 → (Nat → Int32) → Prop} {n57 : Int} (bT aG dO : Int32) (qG oO pJ sH uE oJ : Nat → Int32) (xJ : 0 ≤ Int32.toInt bT ∧ Int32.toInt bT ≤ 16) (vZ : 0 ≤ Int32.toInt aG ∧ Int32.toInt aG ≤ 8) (aAH : 0 ≤ Int32.toInt dO ∧ Int32.toInt dO ≤ 65535) (xU : ∀ k : Nat, k = 17 → -1 ≤ Int32.toInt (qG k) ∧ Int32.toInt (qG k) ≤ SB) (xV : ∀ k : Nat, k = 19 → 0 ≤ Int32.toInt (qG k) ∧ Int32.toInt (qG k) ≤ 9) (yF : ∀ k : Nat, 0 ≤ Int32.toInt (oO k) ∧ Int32.toInt (oO k) ≤ 99) (yD : ∀ k : Nat, k = 4 → 1 ≤ Int32.toInt (pJ k) ∧ Int32.toInt (pJ k) ≤ 30) (xZ : ∀ k : Nat, k = 3 → 0 ≤ Int32.toInt (pJ k) ∧ Int32.toInt (pJ k) ≤ 9) (zY : ∀ k : Nat, 0 ≤ Int32.toInt (sH k) ∧ Int32.toInt (sH k) ≤ 65535) (aAw : ∀ k : Nat, 0 ≤ Int32.toInt (uE k) ∧ Int32.toInt (uE k) ≤ 1000000) (zL : ∀ k : Nat, 0 ≤ Int32.toInt (oJ k) ∧ Int32.toInt (oJ k) ≤ 99) (hc0 : -1 ≤ SB ∧ SB ≤ 7) (hc1 : (Int32.toInt aG ≤ 0 ∧ SB = 0) ∨ (1 ≤ Int32.toInt aG ∧ SB = Int32.toInt aG - 1)) (hpost : ∀ (r : Int32) (aB9 : Int32) (aEo : Int32) (aEn : Int32) (aGb : Nat → Int32), (0 ≤ Int32.toInt aB9 ∧ Int32.toInt aB9 ≤ 1000000) → post r aB9 aEo aEn aGb) (hK57 : ∀ (x1 : Int32) (x2 : Int32) (bM : Int32) (bQ : Int32) (bO : Int32) (vK : Nat → Int32), (0 ≤ Int32.toInt x1 ∧ Int32.toInt x1 ≤ 255) → (0 ≤ Int32.toInt x2 ∧ Int32.toInt x2 ≤ 16) → (0 ≤ Int32.toInt bM ∧ Int32.toInt bM ≤ 1000000) → (0 ≤ Int32.toInt bO ∧ Int32.toInt bO ≤ 0) → (16 - Int32.toInt x2 < n57) → K57 x1 x2 bM bQ bO vK) : ∀ (n : Nat) (x1 x2 x3 x4 bM bQ bO : Int32) (vK : Nat → Int32), (0 ≤ Int32.toInt x1 ∧ Int32.toInt x1 ≤ 255) → (0 ≤ Int32.toInt x2 ∧ Int32.toInt x2 ≤ 15) → (-1 ≤ Int32.toInt x3 ∧ Int32.toInt x3 ≤ 7) → (0 ≤ Int32.toInt x4 ∧ Int32.toInt x4 ≤ 8) → (0 ≤ Int32.toInt bM ∧ Int32.toInt bM ≤ 1000000) → (0 ≤ Int32.toInt bO ∧ Int32.toInt bO ≤ 0) → (16 - Int32.toInt x2 ≤ n57) → (8 - Int32.toInt x4 < (n : Int)) → wb_X10_workOf_84 post K57 bT aG dO qG oO pJ sH uE oJ n x1 x2 x3 x4 bM bQ bO vK := by
  intro n
  induction n with
  | zero =>
    intro x1 x2 x3 x4 bM bQ bO vK aBK aBN aCH aDO aAv aOl hn57 hm
    exfalso; omega
  | succ n ih =>
    intro x1 x2 x3 x4 bM bQ bO vK aBK aBN aCH aDO aAv aOl hn57 hm
    exact ts_X10_workOf_84 bT aG dO qG oO pJ sH uE oJ xJ vZ aAH xU xV yF yD xZ zY aAw zL hc0 hc1 hpost hK57 ih x1 x2 x3 x4 bM bQ bO vK aBK aBN aCH aDO aAv aOl hn57 (by omega)
set_option maxHeartbeats 8000000 in
set_option maxRecDepth 200000 in
theorem ts_X10_workOf_57 {post : Int32 → Int32 → Int32 → Int32 → (Nat → Int32) → Prop} {SB : Int} {next : Int32 → Int32 → Int32 → Int32 → Int32 → (Nat → Int32) → Prop} {n57 : Int} (bT aG dO : Int32) (qG oO pJ sH uE oJ : Nat → Int32) (xJ : 0 ≤ Int32.toInt bT ∧ Int32.toInt bT ≤ 16) (vZ : 0 ≤ Int32.toInt aG ∧ Int32.toInt aG ≤ 8) (aAH : 0 ≤ Int32.toInt dO ∧ Int32.toInt dO ≤ 65535) (xU : ∀ k : Nat, k = 17 → -1 ≤ Int32.toInt (qG k) ∧ Int32.toInt (qG k) ≤ SB) (xV : ∀ k : Nat, k = 19 → 0 ≤ Int32.toInt (qG k) ∧ Int32.toInt (qG k) ≤ 9) (yF : ∀ k : Nat, 0 ≤ Int32.toInt (oO k) ∧ Int32.toInt (oO k) ≤ 99) (yD : ∀ k : Nat, k = 4 → 1 ≤ Int32.toInt (pJ k) ∧ Int32.toInt (pJ k) ≤ 30) (xZ : ∀ k : Nat, k = 3 → 0 ≤ Int32.toInt (pJ k) ∧ Int32.toInt (pJ k) ≤ 9) (zY : ∀ k : Nat, 0 ≤ Int32.toInt (sH k) ∧ Int32.toInt (sH k) ≤ 65535) (aAw : ∀ k : Nat, 0 ≤ Int32.toInt (uE k) ∧ Int32.toInt (uE k) ≤ 1000000) (zL : ∀ k : Nat, 0 ≤ Int32.toInt (oJ k) ∧ Int32.toInt (oJ k) ≤ 99) (hc0 : -1 ≤ SB ∧ SB ≤ 7) (hc1 : (Int32.toInt aG ≤ 0 ∧ SB = 0) ∨ (1 ≤ Int32.toInt aG ∧ SB = Int32.toInt aG - 1)) (hpost : ∀ (r : Int32) (aB9 : Int32) (aEo : Int32) (aEn : Int32) (aGb : Nat → Int32), (0 ≤ Int32.toInt aB9 ∧ Int32.toInt aB9 ≤ 1000000) → post r aB9 aEo aEn aGb) (hKn : ∀ (x1 : Int32) (x2 : Int32) (bM : Int32) (bQ : Int32) (bO : Int32) (vK : Nat → Int32), (0 ≤ Int32.toInt x1 ∧ Int32.toInt x1 ≤ 255) → (0 ≤ Int32.toInt x2 ∧ Int32.toInt x2 ≤ 16) → (0 ≤ Int32.toInt bM ∧ Int32.toInt bM ≤ 1000000) → (0 ≤ Int32.toInt bO ∧ Int32.toInt bO ≤ 0) → (16 - Int32.toInt x2 < n57) → next x1 x2 bM bQ bO vK) (x1 x2 bM bQ bO : Int32) (vK : Nat → Int32) (aBK : 0 ≤ Int32.toInt x1 ∧ Int32.toInt x1 ≤ 255) (aBN : 0 ≤ Int32.toInt x2 ∧ Int32.toInt x2 ≤ 16) (aAv : 0 ≤ Int32.toInt bM ∧ Int32.toInt bM ≤ 1000000) (aOl : 0 ≤ Int32.toInt bO ∧ Int32.toInt bO ≤ 0) (hn57 : 16 - Int32.toInt x2 ≤ n57) : ws_X10_workOf_57 post next bT aG dO qG oO pJ sH uE oJ x1 x2 bM bQ bO vK := by
  have l0 := aI2
  have l1 := aE0
  have l2 := aEc
  refine And.intro (fun c77 => ?_) (fun c77 => ?_)
  · skip
    have c77 := (aAO _ _).mp c77
    have f78 := aAT bQ
    exact ⟨10, tb_X10_workOf_202 bT aG dO qG oO pJ sH uE oJ xJ vZ aAH xU xV yF yD xZ zY aAw zL hc0 hc1 hpost _ 0 bM bQ bO vK (by omega) aAv (by omega)⟩
  · skip
    have c77 := mt (aAO _ _).mpr c77
    intro v79 ev79
    have f80 := aRJ dO x2 (by omega)
    have hv79 := congrArg Int32.toInt ev79
    intro v81 ev81
    have f82 := aAQ v79 1 (by omega)
    have f83 := aBx v79 1 (by omega)
    have hv81 := congrArg Int32.toInt ev81
    refine And.intro (fun c84 => ?_) (fun c84 => ?_)
    · skip
      have c84 := mt (zJ _ _).mpr c84
      refine And.intro (fun h9 => absurd h9 (by decide)) (fun _ => ?_)
      have f85 := aAT bQ
      exact ts_X10_workOf_194 bT aG dO qG oO pJ sH uE oJ xJ vZ aAH xU xV yF yD xZ zY aAw zL hc0 hc1 hpost hKn x1 x2 bM bQ bO vK aBK (by omega) aAv aOl hn57
    · skip
      have c84 := (zJ _ _).mp c84
      refine And.intro (fun _ => ?_) (fun h9 => absurd h9 (by decide))
      have f86 := aAT bQ
      exact ⟨10, tb_X10_workOf_84 bT aG dO qG oO pJ sH uE oJ xJ vZ aAH xU xV yF yD xZ zY aAw zL hc0 hc1 hpost hKn _ x1 x2 (-1) 0 bM bQ bO vK aBK (by omega) (by omega) (by omega) aAv aOl hn57 (by omega)⟩
set_option maxHeartbeats 8000000 in
set_option maxRecDepth 200000 in
theorem tb_X10_workOf_57 {post : Int32 → Int32 → Int32 → Int32 → (Nat → Int32) → Prop} {SB : Int} (bT aG dO : Int32) (qG oO pJ sH uE oJ : Nat → Int32) (xJ : 0 ≤ Int32.toInt bT ∧ Int32.toInt bT ≤ 16) (vZ : 0 ≤ Int32.toInt aG ∧ Int32.toInt aG ≤ 8) (aAH : 0 ≤ Int32.toInt dO ∧ Int32.toInt dO ≤ 65535) (xU : ∀ k : Nat, k = 17 → -1 ≤ Int32.toInt (qG k) ∧ Int32.toInt (qG k) ≤ SB) (xV : ∀ k : Nat, k = 19 → 0 ≤ Int32.toInt (qG k) ∧ Int32.toInt (qG k) ≤ 9) (yF : ∀ k : Nat, 0 ≤ Int32.toInt (oO k) ∧ Int32.toInt (oO k) ≤ 99) (yD : ∀ k : Nat, k = 4 → 1 ≤ Int32.toInt (pJ k) ∧ Int32.toInt (pJ k) ≤ 30) (xZ : ∀ k : Nat, k = 3 → 0 ≤ Int32.toInt (pJ k) ∧ Int32.toInt (pJ k) ≤ 9) (zY : ∀ k : Nat, 0 ≤ Int32.toInt (sH k) ∧ Int32.toInt (sH k) ≤ 65535) (aAw : ∀ k : Nat, 0 ≤ Int32.toInt (uE k) ∧ Int32.toInt (uE k) ≤ 1000000) (zL : ∀ k : Nat, 0 ≤ Int32.toInt (oJ k) ∧ Int32.toInt (oJ k) ≤ 99) (hc0 : -1 ≤ SB ∧ SB ≤ 7) (hc1 : (Int32.toInt aG ≤ 0 ∧ SB = 0) ∨ (1 ≤ Int32.toInt aG ∧ SB = Int32.toInt aG - 1)) (hpost : ∀ (r : Int32) (aB9 : Int32) (aEo : Int32) (aEn : Int32) (aGb : Nat → Int32), (0 ≤ Int32.toInt aB9 ∧ Int32.toInt aB9 ≤ 1000000) → post r aB9 aEo aEn aGb) : ∀ (n : Nat) (x1 x2 bM bQ bO : Int32) (vK : Nat → Int32), (0 ≤ Int32.toInt x1 ∧ Int32.toInt x1 ≤ 255) → (0 ≤ Int32.toInt x2 ∧ Int32.toInt x2 ≤ 16) → (0 ≤ Int32.toInt bM ∧ Int32.toInt bM ≤ 1000000) → (0 ≤ Int32.toInt bO ∧ Int32.toInt bO ≤ 0) → (16 - Int32.toInt x2 < (n : Int)) → wb_X10_workOf_57 post bT aG dO qG oO pJ sH uE oJ n x1 x2 bM bQ bO vK := by
  intro n
  induction n with
  | zero =>
    intro x1 x2 bM bQ bO vK aBK aBN aAv aOl hm
    exfalso; omega
  | succ n ih =>
    intro x1 x2 bM bQ bO vK aBK aBN aAv aOl hm
    exact ts_X10_workOf_57 bT aG dO qG oO pJ sH uE oJ xJ vZ aAH xU xV yF yD xZ zY aAw zL hc0 hc1 hpost ih x1 x2 bM bQ bO vK aBK aBN aAv aOl (by omega)
set_option maxHeartbeats 8000000 in
set_option maxRecDepth 200000 in
theorem ts_X10_workOf_36 {post : Int32 → Int32 → Int32 → Int32 → (Nat → Int32) → Prop} {SB : Int} {next : Int32 → Int32 → Int32 → Int32 → Int32 → (Nat → Int32) → Prop} {n36 : Int} (bT aG dO : Int32) (qG oO pJ sH uE oJ : Nat → Int32) (xJ : 0 ≤ Int32.toInt bT ∧ Int32.toInt bT ≤ 16) (vZ : 0 ≤ Int32.toInt aG ∧ Int32.toInt aG ≤ 8) (aAH : 0 ≤ Int32.toInt dO ∧ Int32.toInt dO ≤ 65535) (xU : ∀ k : Nat, k = 17 → -1 ≤ Int32.toInt (qG k) ∧ Int32.toInt (qG k) ≤ SB) (xV : ∀ k : Nat, k = 19 → 0 ≤ Int32.toInt (qG k) ∧ Int32.toInt (qG k) ≤ 9) (yF : ∀ k : Nat, 0 ≤ Int32.toInt (oO k) ∧ Int32.toInt (oO k) ≤ 99) (yD : ∀ k : Nat, k = 4 → 1 ≤ Int32.toInt (pJ k) ∧ Int32.toInt (pJ k) ≤ 30) (xZ : ∀ k : Nat, k = 3 → 0 ≤ Int32.toInt (pJ k) ∧ Int32.toInt (pJ k) ≤ 9) (zY : ∀ k : Nat, 0 ≤ Int32.toInt (sH k) ∧ Int32.toInt (sH k) ≤ 65535) (aAw : ∀ k : Nat, 0 ≤ Int32.toInt (uE k) ∧ Int32.toInt (uE k) ≤ 1000000) (zL : ∀ k : Nat, 0 ≤ Int32.toInt (oJ k) ∧ Int32.toInt (oJ k) ≤ 99) (hc0 : -1 ≤ SB ∧ SB ≤ 7) (hc1 : (Int32.toInt aG ≤ 0 ∧ SB = 0) ∨ (1 ≤ Int32.toInt aG ∧ SB = Int32.toInt aG - 1)) (hpost : ∀ (r : Int32) (aB9 : Int32) (aEo : Int32) (aEn : Int32) (aGb : Nat → Int32), (0 ≤ Int32.toInt aB9 ∧ Int32.toInt aB9 ≤ 1000000) → post r aB9 aEo aEn aGb) (hKn : ∀ (x1 : Int32) (x2 : Int32) (bM : Int32) (bQ : Int32) (bO : Int32) (vK : Nat → Int32), (0 ≤ Int32.toInt x1 ∧ Int32.toInt x1 ≤ 255) → (0 ≤ Int32.toInt x2 ∧ Int32.toInt x2 ≤ 8) → (0 ≤ Int32.toInt bM ∧ Int32.toInt bM ≤ 1000000) → (0 ≤ Int32.toInt bQ ∧ Int32.toInt bQ ≤ 0) → (0 ≤ Int32.toInt bO ∧ Int32.toInt bO ≤ 0) → (8 - Int32.toInt x2 < n36) → next x1 x2 bM bQ bO vK) (x1 x2 bM bQ bO : Int32) (vK : Nat → Int32) (aBK : 0 ≤ Int32.toInt x1 ∧ Int32.toInt x1 ≤ 255) (aBN : 0 ≤ Int32.toInt x2 ∧ Int32.toInt x2 ≤ 8) (aAv : 0 ≤ Int32.toInt bM ∧ Int32.toInt bM ≤ 1000000) (h_m_workPicks : 0 ≤ Int32.toInt bQ ∧ Int32.toInt bQ ≤ 0) (aOl : 0 ≤ Int32.toInt bO ∧ Int32.toInt bO ≤ 0) (hn36 : 8 - Int32.toInt x2 ≤ n36) : ws_X10_workOf_36 post next bT aG dO qG oO pJ sH uE oJ x1 x2 bM bQ bO vK := by
  have l0 := aE0
  have l1 := aEc
  have l2 := li_8
  refine And.intro (fun c87 => ?_) (fun c87 => ?_)
  · skip
    have c87 := (aAO _ _).mp c87
    exact ⟨18, tb_X10_workOf_57 bT aG dO qG oO pJ sH uE oJ xJ vZ aAH xU xV yF yD xZ zY aAw zL hc0 hc1 hpost _ x1 0 bM bQ bO vK aBK (by omega) aAv aOl (by omega)⟩
  · skip
    have c87 := mt (aAO _ _).mpr c87
    refine And.intro (aBZ (by omega)) ?_
    intro v88 ev88
    have f89 : Int32.toInt (x2 + 1) = Int32.toInt x2 + Int32.toInt (1 : Int32) := aAD _ _ (by omega)
    rw [← ev88] at f89
    exact hKn x1 v88 bM bQ bO (upd vK x2.toNatClampNeg 0) aBK (by omega) aAv h_m_workPicks aOl (by omega)
set_option maxHeartbeats 8000000 in
set_option maxRecDepth 200000 in
theorem tb_X10_workOf_36 {post : Int32 → Int32 → Int32 → Int32 → (Nat → Int32) → Prop} {SB : Int} (bT aG dO : Int32) (qG oO pJ sH uE oJ : Nat → Int32) (xJ : 0 ≤ Int32.toInt bT ∧ Int32.toInt bT ≤ 16) (vZ : 0 ≤ Int32.toInt aG ∧ Int32.toInt aG ≤ 8) (aAH : 0 ≤ Int32.toInt dO ∧ Int32.toInt dO ≤ 65535) (xU : ∀ k : Nat, k = 17 → -1 ≤ Int32.toInt (qG k) ∧ Int32.toInt (qG k) ≤ SB) (xV : ∀ k : Nat, k = 19 → 0 ≤ Int32.toInt (qG k) ∧ Int32.toInt (qG k) ≤ 9) (yF : ∀ k : Nat, 0 ≤ Int32.toInt (oO k) ∧ Int32.toInt (oO k) ≤ 99) (yD : ∀ k : Nat, k = 4 → 1 ≤ Int32.toInt (pJ k) ∧ Int32.toInt (pJ k) ≤ 30) (xZ : ∀ k : Nat, k = 3 → 0 ≤ Int32.toInt (pJ k) ∧ Int32.toInt (pJ k) ≤ 9) (zY : ∀ k : Nat, 0 ≤ Int32.toInt (sH k) ∧ Int32.toInt (sH k) ≤ 65535) (aAw : ∀ k : Nat, 0 ≤ Int32.toInt (uE k) ∧ Int32.toInt (uE k) ≤ 1000000) (zL : ∀ k : Nat, 0 ≤ Int32.toInt (oJ k) ∧ Int32.toInt (oJ k) ≤ 99) (hc0 : -1 ≤ SB ∧ SB ≤ 7) (hc1 : (Int32.toInt aG ≤ 0 ∧ SB = 0) ∨ (1 ≤ Int32.toInt aG ∧ SB = Int32.toInt aG - 1)) (hpost : ∀ (r : Int32) (aB9 : Int32) (aEo : Int32) (aEn : Int32) (aGb : Nat → Int32), (0 ≤ Int32.toInt aB9 ∧ Int32.toInt aB9 ≤ 1000000) → post r aB9 aEo aEn aGb) : ∀ (n : Nat) (x1 x2 bM bQ bO : Int32) (vK : Nat → Int32), (0 ≤ Int32.toInt x1 ∧ Int32.toInt x1 ≤ 255) → (0 ≤ Int32.toInt x2 ∧ Int32.toInt x2 ≤ 8) → (0 ≤ Int32.toInt bM ∧ Int32.toInt bM ≤ 1000000) → (0 ≤ Int32.toInt bQ ∧ Int32.toInt bQ ≤ 0) → (0 ≤ Int32.toInt bO ∧ Int32.toInt bO ≤ 0) → (8 - Int32.toInt x2 < (n : Int)) → wb_X10_workOf_36 post bT aG dO qG oO pJ sH uE oJ n x1 x2 bM bQ bO vK := by
  intro n
  induction n with
  | zero =>
    intro x1 x2 bM bQ bO vK aBK aBN aAv h_m_workPicks aOl hm
    exfalso; omega
  | succ n ih =>
    intro x1 x2 bM bQ bO vK aBK aBN aAv h_m_workPicks aOl hm
    exact ts_X10_workOf_36 bT aG dO qG oO pJ sH uE oJ xJ vZ aAH xU xV yF yD xZ zY aAw zL hc0 hc1 hpost ih x1 x2 bM bQ bO vK aBK aBN aAv h_m_workPicks aOl (by omega)
set_option maxHeartbeats 8000000 in
set_option maxRecDepth 200000 in
theorem t_X10_workOf {post : Int32 → Int32 → Int32 → Int32 → (Nat → Int32) → Prop} {SB : Int} {p0 bT aG dO bM bQ bO : Int32} {qG oO pJ sH uE oJ vK : Nat → Int32} (h_p0 : 0 ≤ Int32.toInt p0 ∧ Int32.toInt p0 ≤ 255) (xJ : 0 ≤ Int32.toInt bT ∧ Int32.toInt bT ≤ 16) (vZ : 0 ≤ Int32.toInt aG ∧ Int32.toInt aG ≤ 8) (aAH : 0 ≤ Int32.toInt dO ∧ Int32.toInt dO ≤ 65535) (aAv : 0 ≤ Int32.toInt bM ∧ Int32.toInt bM ≤ 1000000) (xU : ∀ k : Nat, k = 17 → -1 ≤ Int32.toInt (qG k) ∧ Int32.toInt (qG k) ≤ SB) (xV : ∀ k : Nat, k = 19 → 0 ≤ Int32.toInt (qG k) ∧ Int32.toInt (qG k) ≤ 9) (yF : ∀ k : Nat, 0 ≤ Int32.toInt (oO k) ∧ Int32.toInt (oO k) ≤ 99) (yD : ∀ k : Nat, k = 4 → 1 ≤ Int32.toInt (pJ k) ∧ Int32.toInt (pJ k) ≤ 30) (xZ : ∀ k : Nat, k = 3 → 0 ≤ Int32.toInt (pJ k) ∧ Int32.toInt (pJ k) ≤ 9) (zY : ∀ k : Nat, 0 ≤ Int32.toInt (sH k) ∧ Int32.toInt (sH k) ≤ 65535) (aAw : ∀ k : Nat, 0 ≤ Int32.toInt (uE k) ∧ Int32.toInt (uE k) ≤ 1000000) (zL : ∀ k : Nat, 0 ≤ Int32.toInt (oJ k) ∧ Int32.toInt (oJ k) ≤ 99) (hc0 : -1 ≤ SB ∧ SB ≤ 7) (hc1 : (Int32.toInt aG ≤ 0 ∧ SB = 0) ∨ (1 ≤ Int32.toInt aG ∧ SB = Int32.toInt aG - 1)) (hpost : ∀ (r : Int32) (aB9 : Int32) (aEo : Int32) (aEn : Int32) (aGb : Nat → Int32), (0 ≤ Int32.toInt aB9 ∧ Int32.toInt aB9 ≤ 1000000) → post r aB9 aEo aEn aGb) : wp_X10_workOf post p0 bT aG dO bM bQ bO qG oO pJ sH uE oJ vK := by
  have l0 := aI2
  have l1 := aE0
  have l2 := li_17
  have l3 := li_8
  have q90 := xU (17 : Int32).toNatClampNeg (by have e9 : (17 : Int32).toNatClampNeg = (Int32.toInt (17 : Int32)).toNat := rfl; omega)
  intro v91 ev91
  have hv91 := congrArg Int32.toInt ev91
  refine And.intro (fun c93 => ?_) (fun c93 => ?_)
  · skip
    have c93 := mt (zJ _ _).mpr c93
    have q94 := xU (17 : Int32).toNatClampNeg (by have e9 : (17 : Int32).toNatClampNeg = (Int32.toInt (17 : Int32)).toNat := rfl; omega)
    intro v95 ev95
    have hv95 := congrArg Int32.toInt ev95
    refine And.intro (fun c96 => ?_) (fun c96 => ?_)
    · skip
      have c96 := mt (zJ _ _).mpr c96
      have q97 := xU (17 : Int32).toNatClampNeg (by have e9 : (17 : Int32).toNatClampNeg = (Int32.toInt (17 : Int32)).toNat := rfl; omega)
      intro v98 ev98
      have f99 := aDv 7 128 (qG (17 : Int32).toNatClampNeg) (by decide) (by omega)
      have hv98 := congrArg Int32.toInt ev98
      intro v100 ev100
      have f101 := ti_shl8 v91 (by omega)
      have hv100 := congrArg Int32.toInt ev100
      intro v102 ev102
      have f105 := aBx p0 (v98 ^^^ (-1)) (by omega)
      have f103 : Int32.toInt (v100 + (p0 &&& (v98 ^^^ (-1)))) = Int32.toInt v100 + Int32.toInt (p0 &&& (v98 ^^^ (-1))) := aAD _ _ (by omega)
      rw [← ev102] at f103
      refine And.intro (aBZ (by omega)) ?_
      have f106 := aAw v102.toNatClampNeg
      exact ⟨10, tb_X10_workOf_36 bT aG dO qG oO pJ sH uE oJ xJ vZ aAH xU xV yF yD xZ zY aAw zL hc0 hc1 hpost _ p0 0 (uE v102.toNatClampNeg) 0 0 vK h_p0 (by omega) (by omega) (by omega) (by omega) (by omega)⟩
    · skip
      have c96 := (zJ _ _).mp c96
      exfalso; omega
  · skip
    have c93 := (zJ _ _).mp c93
    have q107 := xU (17 : Int32).toNatClampNeg (by have e9 : (17 : Int32).toNatClampNeg = (Int32.toInt (17 : Int32)).toNat := rfl; omega)
    intro v108 ev108
    have hv108 := congrArg Int32.toInt ev108
    refine And.intro (fun c109 => ?_) (fun c109 => ?_)
    · skip
      have c109 := mt (zJ _ _).mpr c109
      exfalso; omega
    · skip
      have c109 := (zJ _ _).mp c109
      intro v110 ev110
      have f111 := ti_shl8 8 (by omega)
      have hv110 := congrArg Int32.toInt ev110
      intro v112 ev112
      have f113 : Int32.toInt (v110 + p0) = Int32.toInt v110 + Int32.toInt p0 := aAD _ _ (by omega)
      rw [← ev112] at f113
      refine And.intro (aBZ (by omega)) ?_
      have f114 := aAw v112.toNatClampNeg
      exact ⟨10, tb_X10_workOf_36 bT aG dO qG oO pJ sH uE oJ xJ vZ aAH xU xV yF yD xZ zY aAw zL hc0 hc1 hpost _ p0 0 (uE v112.toNatClampNeg) 0 0 vK h_p0 (by omega) (by omega) (by omega) (by omega) (by omega)⟩
