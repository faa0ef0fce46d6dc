set_option maxHeartbeats 8000000 in
set_option maxRecDepth 200000 in
theorem t_X10_foot {post : Int32 → Int32 → Int32 → (Nat → Int32) → (Nat → Int32) → Prop} {SB : Int} {p0 bY bU : Int32} {qG uL : Nat → Int32} (yG : 0 ≤ Int32.toInt bY ∧ Int32.toInt bY ≤ 1) (aAZ : 0 ≤ Int32.toInt bU ∧ Int32.toInt bU ≤ 12) (xU : ∀ k : Nat, k = 17 → -1 ≤ Int32.toInt (qG k) ∧ Int32.toInt (qG k) ≤ SB) (xV : ∀ k : Nat, k = 19 → 0 ≤ Int32.toInt (qG k) ∧ Int32.toInt (qG k) ≤ 9) (aAo : ∀ k : Nat, k % 21 = 17 → -1 ≤ Int32.toInt (uL k) ∧ Int32.toInt (uL k) ≤ SB) (aAp : ∀ k : Nat, k % 21 = 19 → 0 ≤ Int32.toInt (uL k) ∧ Int32.toInt (uL k) ≤ 9) (hc0 : -1 ≤ SB ∧ SB ≤ 7) (hpost : ∀ (r : Int32) (xG : Int32) (aBI : Int32) (aBf : Nat → Int32) (aBl : Nat → Int32), (0 ≤ Int32.toInt xG ∧ Int32.toInt xG ≤ 0) → (0 ≤ Int32.toInt aBI ∧ Int32.toInt aBI ≤ 12) → (∀ k : Nat, k = 17 → -1 ≤ Int32.toInt (aBf k) ∧ Int32.toInt (aBf k) ≤ SB) → (∀ k : Nat, k = 19 → 0 ≤ Int32.toInt (aBf k) ∧ Int32.toInt (aBf k) ≤ 9) → (∀ k : Nat, k % 21 = 17 → -1 ≤ Int32.toInt (aBl k) ∧ Int32.toInt (aBl k) ≤ SB) → (∀ k : Nat, k % 21 = 19 → 0 ≤ Int32.toInt (aBl k) ∧ Int32.toInt (aBl k) ≤ 9) → post r xG aBI aBf aBl) : wp_X10_foot post p0 bY bU qG uL := by
  have l0 := aE0
  have l1 := aEc
  have l2 := li_18
  have f2 := aAT p0
  refine And.intro (fun c1 => ?_) (fun c1 => ?_)
  · skip
    have c1 := (aAd _ _).mp c1
    refine And.intro (fun h9 => absurd h9 (by decide)) (fun _ => ?_)
    exact hpost _ _ _ _ _ (by omega) aAZ xU xV aAo aAp
  · skip
    have c1 := mt (aAd _ _).mpr c1
    refine And.intro (fun c3 => ?_) (fun c3 => ?_)
    · skip
      have c3 := (aAd _ _).mp c3
      refine And.intro (fun h9 => absurd h9 (by decide)) (fun _ => ?_)
      exact hpost _ _ _ _ _ (by omega) aAZ xU xV aAo aAp
    · skip
      have c3 := mt (aAd _ _).mpr c3
      refine And.intro (fun _ => ?_) (fun h9 => absurd h9 (by decide))
      refine t_X10_remember aAZ xU xV aAo aAp (by omega) (fun m_undoMany_4 m_undos_5 h_m_undoMany_4 e0_m_undos_5 e1_m_undos_5 => ?_)
      intro v6 ev6
      have hv6 := congrArg Int32.toInt ev6
      have e8 : ∀ k : Nat, k = 17 → -1 ≤ Int32.toInt ((upd qG (18 : Int32).toNatClampNeg p0) k) ∧ Int32.toInt ((upd qG (18 : Int32).toNatClampNeg p0) k) ≤ SB := aCJ (C := fun k => k = 17) xU (fun hk => by have e9 : (18 : Int32).toNatClampNeg = (Int32.toInt (18 : Int32)).toNat := rfl; have hk : (18 : Int32).toNatClampNeg = 17 := hk; omega)
      have e9 : ∀ k : Nat, k = 19 → 0 ≤ Int32.toInt ((upd qG (18 : Int32).toNatClampNeg p0) k) ∧ Int32.toInt ((upd qG (18 : Int32).toNatClampNeg p0) k) ≤ 9 := aCJ (C := fun k => k = 19) xV (fun hk => by have e9 : (18 : Int32).toNatClampNeg = (Int32.toInt (18 : Int32)).toNat := rfl; have hk : (18 : Int32).toNatClampNeg = 19 := hk; omega)
      exact hpost _ _ _ _ _ (by omega) (by omega) e8 e9 e0_m_undos_5 e1_m_undos_5
set_option maxHeartbeats 8000000 in
set_option maxRecDepth 200000 in
theorem ts_X10_secondsOf_80 {post : Int32 → Nat → Int32 → Int32 → Int32 → Int32 → Int32 → Int32 → Int32 → Int32 → Int32 → Prop} (bW : Int32) (m_x gR pW nG oO qO qQ : Nat → Int32) (zQ : 0 ≤ Int32.toInt bW ∧ Int32.toInt bW ≤ 40) (aAW : ∀ k : Nat, 0 ≤ Int32.toInt (m_x k) ∧ Int32.toInt (m_x k) ≤ 99) (xK : ∀ k : Nat, 0 ≤ Int32.toInt (gR k) ∧ Int32.toInt (gR k) ≤ 99) (yR : ∀ k : Nat, 0 ≤ Int32.toInt (pW k) ∧ Int32.toInt (pW k) ≤ 9) (xT : ∀ k : Nat, 0 ≤ Int32.toInt (nG k) ∧ Int32.toInt (nG k) ≤ 99) (yF : ∀ k : Nat, 0 ≤ Int32.toInt (oO k) ∧ Int32.toInt (oO k) ≤ 99) (zG : ∀ k : Nat, -128 ≤ Int32.toInt (qO k) ∧ Int32.toInt (qO k) ≤ 127) (zI : ∀ k : Nat, -128 ≤ Int32.toInt (qQ k) ∧ Int32.toInt (qQ k) ≤ 127) (hpost : ∀ (r : Int32) (aAP : Nat) (zS : Int32) (aAz : Int32) (aAm : Int32) (zH : Int32) (aAM : Int32) (zP : Int32) (yO : Int32) (zZ : Int32) (zO : Int32), (1 ≤ Int32.toInt r ∧ Int32.toInt r ≤ 99) → (aAP = 0 ∨ aAP = 1 ∨ aAP = 2) → (0 ≤ Int32.toInt zS ∧ Int32.toInt zS ≤ 80) → (0 ≤ Int32.toInt aAz ∧ Int32.toInt aAz ≤ 80) → (0 ≤ Int32.toInt aAm ∧ Int32.toInt aAm ≤ 80) → (-1 ≤ Int32.toInt zH ∧ Int32.toInt zH ≤ 80) → (0 ≤ Int32.toInt aAM ∧ Int32.toInt aAM ≤ 0) → (0 ≤ Int32.toInt zP ∧ Int32.toInt zP ≤ 15) → (0 ≤ Int32.toInt yO ∧ Int32.toInt yO ≤ 7) → (0 ≤ Int32.toInt zZ ∧ Int32.toInt zZ ≤ 1) → (0 ≤ Int32.toInt zO ∧ Int32.toInt zO ≤ 63) → post r aAP zS aAz aAm zH aAM zP yO zZ zO) (x5 : Int32) (jD : Nat) (m_length oF rP dQ bZ aR aE bI aW : Int32) (yM : jD = 0 ∨ jD = 1 ∨ jD = 2) (zE : 0 ≤ Int32.toInt m_length ∧ Int32.toInt m_length ≤ 80) (aAR : 0 ≤ Int32.toInt oF ∧ Int32.toInt oF ≤ 80) (aA1 : 0 ≤ Int32.toInt rP ∧ Int32.toInt rP ≤ 80) (aAA : -1 ≤ Int32.toInt dQ ∧ Int32.toInt dQ ≤ 80) (zT : 0 ≤ Int32.toInt bZ ∧ Int32.toInt bZ ≤ 0) (yL : 0 ≤ Int32.toInt aR ∧ Int32.toInt aR ≤ 15) (xQ : 0 ≤ Int32.toInt aE ∧ Int32.toInt aE ≤ 7) (yY : 0 ≤ Int32.toInt bI ∧ Int32.toInt bI ≤ 1) (yK : 0 ≤ Int32.toInt aW ∧ Int32.toInt aW ≤ 63) : ws_X10_secondsOf_80 post bW m_x gR pW nG oO qO qQ x5 jD m_length oF rP dQ bZ aR aE bI aW := by
  have l0 := aEc
  have l1 := li_99
  intro v1 ev1
  have f2 := aAT (if x5 < 99 then x5 else 99)
  have f4 := aAT x5
  have f3 := ti_min (99 : Int32) x5
  have hv1 := congrArg Int32.toInt ev1
  intro v5 ev5
  have f7 := aAT v1
  have f6 := ti_max (1 : Int32) v1
  have hv5 := congrArg Int32.toInt ev5
  exact hpost _ _ _ _ _ _ _ _ _ _ _ (by omega) yM zE aAR aA1 aAA zT yL xQ yY yK
set_option maxHeartbeats 8000000 in
set_option maxRecDepth 200000 in
theorem t_X10_secondsOf {post : Int32 → Nat → Int32 → Int32 → Int32 → Int32 → Int32 → Int32 → Int32 → Int32 → Int32 → Prop} {p0 p1 p2 p3 : Int32} {jD : Nat} {m_length oF rP dQ bW bZ aR aE bI aW : Int32} {m_x gR pW nG oO qO qQ : Nat → Int32} (h_p0 : 0 ≤ Int32.toInt p0 ∧ Int32.toInt p0 ≤ 15) (h_p1 : 0 ≤ Int32.toInt p1 ∧ Int32.toInt p1 ≤ 7) (h_p2 : 0 ≤ Int32.toInt p2 ∧ Int32.toInt p2 ≤ 1) (h_p3 : 0 ≤ Int32.toInt p3 ∧ Int32.toInt p3 ≤ 63) (yM : jD = 0 ∨ jD = 1 ∨ jD = 2) (zE : 0 ≤ Int32.toInt m_length ∧ Int32.toInt m_length ≤ 80) (aAR : 0 ≤ Int32.toInt oF ∧ Int32.toInt oF ≤ 80) (aA1 : 0 ≤ Int32.toInt rP ∧ Int32.toInt rP ≤ 80) (aAA : -1 ≤ Int32.toInt dQ ∧ Int32.toInt dQ ≤ 80) (zQ : 0 ≤ Int32.toInt bW ∧ Int32.toInt bW ≤ 40) (zT : 0 ≤ Int32.toInt bZ ∧ Int32.toInt bZ ≤ 0) (yL : 0 ≤ Int32.toInt aR ∧ Int32.toInt aR ≤ 15) (xQ : 0 ≤ Int32.toInt aE ∧ Int32.toInt aE ≤ 7) (yY : 0 ≤ Int32.toInt bI ∧ Int32.toInt bI ≤ 1) (yK : 0 ≤ Int32.toInt aW ∧ Int32.toInt aW ≤ 63) (aAW : ∀ k : Nat, 0 ≤ Int32.toInt (m_x k) ∧ Int32.toInt (m_x k) ≤ 99) (xK : ∀ k : Nat, 0 ≤ Int32.toInt (gR k) ∧ Int32.toInt (gR k) ≤ 99) (yR : ∀ k : Nat, 0 ≤ Int32.toInt (pW k) ∧ Int32.toInt (pW k) ≤ 9) (xT : ∀ k : Nat, 0 ≤ Int32.toInt (nG k) ∧ Int32.toInt (nG k) ≤ 99) (yF : ∀ k : Nat, 0 ≤ Int32.toInt (oO k) ∧ Int32.toInt (oO k) ≤ 99) (zG : ∀ k : Nat, -128 ≤ Int32.toInt (qO k) ∧ Int32.toInt (qO k) ≤ 127) (zI : ∀ k : Nat, -128 ≤ Int32.toInt (qQ k) ∧ Int32.toInt (qQ k) ≤ 127) (hpost : ∀ (r : Int32) (aAP : Nat) (zS : Int32) (aAz : Int32) (aAm : Int32) (zH : Int32) (aAM : Int32) (zP : Int32) (yO : Int32) (zZ : Int32) (zO : Int32), (1 ≤ Int32.toInt r ∧ Int32.toInt r ≤ 99) → (aAP = 0 ∨ aAP = 1 ∨ aAP = 2) → (0 ≤ Int32.toInt zS ∧ Int32.toInt zS ≤ 80) → (0 ≤ Int32.toInt aAz ∧ Int32.toInt aAz ≤ 80) → (0 ≤ Int32.toInt aAm ∧ Int32.toInt aAm ≤ 80) → (-1 ≤ Int32.toInt zH ∧ Int32.toInt zH ≤ 80) → (0 ≤ Int32.toInt aAM ∧ Int32.toInt aAM ≤ 0) → (0 ≤ Int32.toInt zP ∧ Int32.toInt zP ≤ 15) → (0 ≤ Int32.toInt yO ∧ Int32.toInt yO ≤ 7) → (0 ≤ Int32.toInt zZ ∧ Int32.toInt zZ ≤ 1) → (0 ≤ Int32.toInt zO ∧ Int32.toInt zO ≤ 63) → post r aAP zS aAz aAm zH aAM zP yO zZ zO) : aXm post p0 p1 p2 p3 jD m_length oF rP dQ bW bZ aR aE bI aW m_x gR pW nG oO qO qQ := by
  have l0 := aI2
  have l1 := aE0
  have l2 := aEc
  have l3 := li_2
  have l4 := li_4
  have l5 := li_40
  refine And.intro (aBZ (by omega)) ?_
  intro v8 ev8
  have f9 := aAW p0.toNatClampNeg
  have hv8 := congrArg Int32.toInt ev8
  refine And.intro (aBZ (by omega)) ?_
  intro v10 ev10
  have f12 := xT p1.toNatClampNeg
  have f11 : Int32.toInt (v8 - (nG p1.toNatClampNeg)) = Int32.toInt v8 - Int32.toInt (nG p1.toNatClampNeg) := aCA _ _ (by omega)
  rw [← ev10] at f11
  intro v13 ev13
  have f14 := ti_abs v10 (by omega)
  have hv13 := congrArg Int32.toInt ev13
  intro v15 ev15
  have f17 : Int32.toInt (v13 / 4) = Int32.toInt v13 / 4 := ti_div _ _ (by decide) (by omega) (by decide)
  have f16 : Int32.toInt (2 + (v13 / 4)) = Int32.toInt (2 : Int32) + Int32.toInt (v13 / 4) := aAD _ _ (by omega)
  rw [← ev15] at f16
  refine And.intro (aBZ (by omega)) ?_
  intro v18 ev18
  have f19 := xK p0.toNatClampNeg
  have hv18 := congrArg Int32.toInt ev18
  refine And.intro (aBZ (by omega)) ?_
  intro v20 ev20
  have f22 := yF p1.toNatClampNeg
  have f21 : Int32.toInt (v18 - (oO p1.toNatClampNeg)) = Int32.toInt v18 - Int32.toInt (oO p1.toNatClampNeg) := aCA _ _ (by omega)
  rw [← ev20] at f21
  intro v23 ev23
  have f24 := ti_max (0 : Int32) v20
  have hv23 := congrArg Int32.toInt ev23
  intro v25 ev25
  have f27 : Int32.toInt (v23 / 2) = Int32.toInt v23 / 2 := ti_div _ _ (by decide) (by omega) (by decide)
  have f26 : Int32.toInt (v15 + (v23 / 2)) = Int32.toInt v15 + Int32.toInt (v23 / 2) := aAD _ _ (by omega)
  rw [← ev25] at f26
  refine And.intro (fun c28 => ?_) (fun c28 => ?_)
  · skip
    have c28 := (aAO _ _).mp c28
    exact ts_X10_secondsOf_80 bW m_x gR pW nG oO qO qQ zQ aAW xK yR xT yF zG zI hpost v25 jD m_length oF rP dQ bZ aR aE bI aW yM zE aAR aA1 aAA zT yL xQ yY yK
  · skip
    have c28 := mt (aAO _ _).mpr c28
    refine t_X10_heldR (by omega) (by first | exact Or.inl rfl | exact Or.inr rfl | rfl) (by omega) (by omega) (by omega) (by omega) (by omega) h_p0 h_p1 h_p2 h_p3 aAW xK yR xT yF zG zI (by omega) (by omega) (by omega) (fun r31 m_at_29 m_wrong_30 h_m_at_29 h_m_wrong_30 ox32 ox33 => ?_)
    have f34 := aAT r31
    exact ts_X10_secondsOf_80 bW m_x gR pW nG oO qO qQ zQ aAW xK yR xT yF zG zI hpost r31 2 bW 40 m_at_29 m_wrong_30 0 p0 p1 p2 p3 (by first | exact yM | exact Or.inl rfl | exact Or.inr rfl | omega) (by omega) (by omega) h_m_at_29 h_m_wrong_30 (by omega) h_p0 h_p1 h_p2 h_p3
set_option maxHeartbeats 8000000 in
set_option maxRecDepth 200000 in
theorem t_X10_pick {post : Int32 → Int32 → Nat → Int32 → Int32 → Int32 → Int32 → Int32 → Int32 → Int32 → Int32 → Int32 → Int32 → (Nat → Int32) → (Nat → Int32) → Prop} {SB : Int} {p0 p1 bT bY : Int32} {jD : Nat} {m_length oF rP dQ bW bZ aR aE bI aW bU : Int32} {qG m_x gR pW qR nG oO pJ qO qQ uL : Nat → Int32} (xJ : 0 ≤ Int32.toInt bT ∧ Int32.toInt bT ≤ 16) (yG : 0 ≤ Int32.toInt bY ∧ Int32.toInt bY ≤ 1) (yM : jD = 0 ∨ jD = 1 ∨ jD = 2) (zE : 0 ≤ Int32.toInt m_length ∧ Int32.toInt m_length ≤ 80) (aAR : 0 ≤ Int32.toInt oF ∧ Int32.toInt oF ≤ 80) (aA1 : 0 ≤ Int32.toInt rP ∧ Int32.toInt rP ≤ 80) (aAA : -1 ≤ Int32.toInt dQ ∧ Int32.toInt dQ ≤ 80) (zQ : 0 ≤ Int32.toInt bW ∧ Int32.toInt bW ≤ 40) (zT : 0 ≤ Int32.toInt bZ ∧ Int32.toInt bZ ≤ 0) (yL : 0 ≤ Int32.toInt aR ∧ Int32.toInt aR ≤ 15) (xQ : 0 ≤ Int32.toInt aE ∧ Int32.toInt aE ≤ 7) (yY : 0 ≤ Int32.toInt bI ∧ Int32.toInt bI ≤ 1) (yK : 0 ≤ Int32.toInt aW ∧ Int32.toInt aW ≤ 63) (aAZ : 0 ≤ Int32.toInt bU ∧ Int32.toInt bU ≤ 12) (xU : ∀ k : Nat, k = 17 → -1 ≤ Int32.toInt (qG k) ∧ Int32.toInt (qG k) ≤ SB) (xV : ∀ k : Nat, k = 19 → 0 ≤ Int32.toInt (qG k) ∧ Int32.toInt (qG k) ≤ 9) (aAW : ∀ k : Nat, 0 ≤ Int32.toInt (m_x k) ∧ Int32.toInt (m_x k) ≤ 99) (xK : ∀ k : Nat, 0 ≤ Int32.toInt (gR k) ∧ Int32.toInt (gR k) ≤ 99) (yR : ∀ k : Nat, 0 ≤ Int32.toInt (pW k) ∧ Int32.toInt (pW k) ≤ 9) (zM : ∀ k : Nat, 0 ≤ Int32.toInt (qR k) ∧ Int32.toInt (qR k) ≤ 9) (xT : ∀ k : Nat, 0 ≤ Int32.toInt (nG k) ∧ Int32.toInt (nG k) ≤ 99) (yF : ∀ k : Nat, 0 ≤ Int32.toInt (oO k) ∧ Int32.toInt (oO k) ≤ 99) (yD : ∀ k : Nat, k = 4 → 1 ≤ Int32.toInt (pJ k) ∧ Int32.toInt (pJ k) ≤ 30) (xZ : ∀ k : Nat, k = 3 → 0 ≤ Int32.toInt (pJ k) ∧ Int32.toInt (pJ k) ≤ 9) (zG : ∀ k : Nat, -128 ≤ Int32.toInt (qO k) ∧ Int32.toInt (qO k) ≤ 127) (zI : ∀ k : Nat, -128 ≤ Int32.toInt (qQ k) ∧ Int32.toInt (qQ k) ≤ 127) (aAo : ∀ k : Nat, k % 21 = 17 → -1 ≤ Int32.toInt (uL k) ∧ Int32.toInt (uL k) ≤ SB) (aAp : ∀ k : Nat, k % 21 = 19 → 0 ≤ Int32.toInt (uL k) ∧ Int32.toInt (uL k) ≤ 9) (hc0 : -1 ≤ SB ∧ SB ≤ 7) (hpost : ∀ (r : Int32) (xG : Int32) (aAP : Nat) (zS : Int32) (aAz : Int32) (aAm : Int32) (zH : Int32) (aAM : Int32) (zP : Int32) (yO : Int32) (zZ : Int32) (zO : Int32) (aBI : Int32) (aBf : Nat → Int32) (aBl : Nat → Int32), (-5 ≤ Int32.toInt r ∧ Int32.toInt r ≤ 99) → (0 ≤ Int32.toInt xG ∧ Int32.toInt xG ≤ 0) → (aAP = 0 ∨ aAP = 1 ∨ aAP = 2) → (0 ≤ Int32.toInt zS ∧ Int32.toInt zS ≤ 80) → (0 ≤ Int32.toInt aAz ∧ Int32.toInt aAz ≤ 80) → (0 ≤ Int32.toInt aAm ∧ Int32.toInt aAm ≤ 80) → (-1 ≤ Int32.toInt zH ∧ Int32.toInt zH ≤ 80) → (0 ≤ Int32.toInt aAM ∧ Int32.toInt aAM ≤ 0) → (0 ≤ Int32.toInt zP ∧ Int32.toInt zP ≤ 15) → (0 ≤ Int32.toInt yO ∧ Int32.toInt yO ≤ 7) → (0 ≤ Int32.toInt zZ ∧ Int32.toInt zZ ≤ 1) → (0 ≤ Int32.toInt zO ∧ Int32.toInt zO ≤ 63) → (0 ≤ Int32.toInt aBI ∧ Int32.toInt aBI ≤ 12) → (∀ k : Nat, k = 17 → -1 ≤ Int32.toInt (aBf k) ∧ Int32.toInt (aBf k) ≤ SB) → (∀ k : Nat, k = 19 → 0 ≤ Int32.toInt (aBf k) ∧ Int32.toInt (aBf k) ≤ 9) → (∀ k : Nat, k % 21 = 17 → -1 ≤ Int32.toInt (aBl k) ∧ Int32.toInt (aBl k) ≤ SB) → (∀ k : Nat, k % 21 = 19 → 0 ≤ Int32.toInt (aBl k) ∧ Int32.toInt (aBl k) ≤ 9) → post r xG aAP zS aAz aAm zH aAM zP yO zZ zO aBI aBf aBl) : wp_X10_pick post p0 p1 bT bY jD m_length oF rP dQ bW bZ aR aE bI aW bU qG m_x gR pW qR nG oO pJ qO qQ uL := by
  have l0 := aI2
  have l1 := li_m2
  have l2 := li_m3
  have l3 := li_m4
  have l4 := li_m5
  have l5 := aE0
  have l6 := aEc
  have l7 := aKH
  have l8 := li_16
  have l9 := li_17
  have l10 := li_18
  have l11 := li_19
  have l12 := li_2
  have l13 := li_20
  have l14 := aJ8
  have l15 := li_4
  have l16 := li_63
  have l17 := aJ9
  have l18 := li_9999
  intro v1 ev1
  have f2 : Int32.toInt (bT - 1) = Int32.toInt bT - Int32.toInt (1 : Int32) := aCA _ _ (by omega)
  rw [← ev1] at f2
  have f4 := aAT p0
  refine And.intro (fun c3 => ?_) (fun c3 => ?_)
  · skip
    have c3 := (aAd _ _).mp c3
    refine And.intro (aHE (by omega)) ?_
    refine And.intro (fun _ => ?_) (fun h9 => absurd h9 (by decide))
    refine And.intro (fun h9 => absurd h9 (by decide)) (fun _ => ?_)
    exact hpost _ _ _ _ _ _ _ _ _ _ _ _ _ _ _ (by omega) (by omega) yM zE aAR aA1 aAA zT yL xQ yY yK aAZ xU xV aAo aAp
  · skip
    have c3 := mt (aAd _ _).mpr c3
    refine And.intro (fun c5 => ?_) (fun c5 => ?_)
    · skip
      have c5 := (aAd _ _).mp c5
      refine And.intro (aHE (by omega)) ?_
      refine And.intro (fun _ => ?_) (fun h9 => absurd h9 (by decide))
      refine And.intro (fun h9 => absurd h9 (by decide)) (fun _ => ?_)
      exact hpost _ _ _ _ _ _ _ _ _ _ _ _ _ _ _ (by omega) (by omega) yM zE aAR aA1 aAA zT yL xQ yY yK aAZ xU xV aAo aAp
    · skip
      have c5 := mt (aAd _ _).mpr c5
      refine And.intro (aHE (by omega)) ?_
      refine And.intro (fun h9 => absurd h9 (by decide)) (fun _ => ?_)
      have f7 := aAT p1
      refine And.intro (fun c6 => ?_) (fun c6 => ?_)
      · skip
        have c6 := (aAd _ _).mp c6
        refine And.intro (fun h9 => absurd h9 (by decide)) (fun _ => ?_)
        refine And.intro (fun h9 => absurd h9 (by decide)) (fun _ => ?_)
        exact hpost _ _ _ _ _ _ _ _ _ _ _ _ _ _ _ (by omega) (by omega) yM zE aAR aA1 aAA zT yL xQ yY yK aAZ xU xV aAo aAp
      · skip
        have c6 := mt (aAd _ _).mpr c6
        refine And.intro (fun c8 => ?_) (fun c8 => ?_)
        · skip
          have c8 := (aAd _ _).mp c8
          refine And.intro (fun h9 => absurd h9 (by decide)) (fun _ => ?_)
          refine And.intro (fun h9 => absurd h9 (by decide)) (fun _ => ?_)
          exact hpost _ _ _ _ _ _ _ _ _ _ _ _ _ _ _ (by omega) (by omega) yM zE aAR aA1 aAA zT yL xQ yY yK aAZ xU xV aAo aAp
        · skip
          have c8 := mt (aAd _ _).mpr c8
          refine And.intro (fun _ => ?_) (fun h9 => absurd h9 (by decide))
          refine And.intro (aBZ (by omega)) ?_
          refine And.intro (fun c9 => ?_) (fun c9 => ?_)
          · skip
            have c9 := (zJ _ _).mp c9
            refine And.intro (aBZ (by omega)) ?_
            intro v11 ev11
            have f12 := zM p0.toNatClampNeg
            have hv11 := congrArg Int32.toInt ev11
            have q13 := xV (19 : Int32).toNatClampNeg (by have e9 : (19 : Int32).toNatClampNeg = (Int32.toInt (19 : Int32)).toNat := rfl; omega)
            refine And.intro (fun c14 => ?_) (fun c14 => ?_)
            · skip
              have c14 := (aAO _ _).mp c14
              have q16 := xU (17 : Int32).toNatClampNeg (by have e9 : (17 : Int32).toNatClampNeg = (Int32.toInt (17 : Int32)).toNat := rfl; omega)
              intro v17 ev17
              have hv17 := congrArg Int32.toInt ev17
              refine And.intro (fun c19 => ?_) (fun c19 => ?_)
              · skip
                have c19 := (zJ _ _).mp c19
                refine And.intro (fun h9 => absurd h9 (by decide)) (fun _ => ?_)
                exact hpost _ _ _ _ _ _ _ _ _ _ _ _ _ _ _ (by omega) (by omega) yM zE aAR aA1 aAA zT yL xQ yY yK aAZ xU xV aAo aAp
              · skip
                have c19 := mt (zJ _ _).mpr c19
                have q20 := xU (17 : Int32).toNatClampNeg (by have e9 : (17 : Int32).toNatClampNeg = (Int32.toInt (17 : Int32)).toNat := rfl; omega)
                intro v21 ev21
                have hv21 := congrArg Int32.toInt ev21
                intro v22 ev22
                have hv22 := congrArg Int32.toInt ev22
                intro v24 ev24
                have hv24 := congrArg Int32.toInt ev24
                intro v26 ev26
                have hv26 := congrArg Int32.toInt ev26
                refine And.intro (aBZ (by omega)) ?_
                intro v28 ev28
                have f29 := aAW p0.toNatClampNeg
                have hv28 := congrArg Int32.toInt ev28
                refine And.intro (aBZ (by omega)) ?_
                intro v30 ev30
                have f32 := xT v21.toNatClampNeg
                have f31 : Int32.toInt (v28 - (nG v21.toNatClampNeg)) = Int32.toInt v28 - Int32.toInt (nG v21.toNatClampNeg) := aCA _ _ (by omega)
                rw [← ev30] at f31
                intro v33 ev33
                have f34 := ti_abs v30 (by omega)
                have hv33 := congrArg Int32.toInt ev33
                refine And.intro (aBZ (by omega)) ?_
                intro v35 ev35
                have hv35 := congrArg Int32.toInt ev35
                refine And.intro (aBZ (by omega)) ?_
                intro v36 ev36
                have f37 : Int32.toInt (v35 - (nG v21.toNatClampNeg)) = Int32.toInt v35 - Int32.toInt (nG v21.toNatClampNeg) := aCA _ _ (by omega)
                rw [← ev36] at f37
                intro v38 ev38
                have f39 := ti_abs v36 (by omega)
                have hv38 := congrArg Int32.toInt ev38
                intro v40 ev40
                have hv40 := congrArg Int32.toInt ev40
                refine And.intro (aBZ (by omega)) ?_
                intro v42 ev42
                have f43 := xK p0.toNatClampNeg
                have hv42 := congrArg Int32.toInt ev42
                refine And.intro (aBZ (by omega)) ?_
                intro v44 ev44
                have f46 := yF v21.toNatClampNeg
                have f45 : Int32.toInt (v42 - (oO v21.toNatClampNeg)) = Int32.toInt v42 - Int32.toInt (oO v21.toNatClampNeg) := aCA _ _ (by omega)
                rw [← ev44] at f45
                intro v47 ev47
                have f48 := ti_max (0 : Int32) v44
                have hv47 := congrArg Int32.toInt ev47
                refine And.intro (aBZ (by omega)) ?_
                intro v49 ev49
                have hv49 := congrArg Int32.toInt ev49
                refine And.intro (aBZ (by omega)) ?_
                intro v50 ev50
                have f51 : Int32.toInt (v49 - (oO v21.toNatClampNeg)) = Int32.toInt v49 - Int32.toInt (oO v21.toNatClampNeg) := aCA _ _ (by omega)
                rw [← ev50] at f51
                intro v52 ev52
                have f53 := ti_max (0 : Int32) v50
                have hv52 := congrArg Int32.toInt ev52
                intro v54 ev54
                have hv54 := congrArg Int32.toInt ev54
                have f57 := aAT v54
                refine And.intro (fun c56 => ?_) (fun c56 => ?_)
                · skip
                  have c56 := (aAd _ _).mp c56
                  refine And.intro (fun h9 => absurd h9 (by decide)) (fun _ => ?_)
                  refine And.intro (fun h9 => absurd h9 (by decide)) (fun _ => ?_)
                  exact hpost _ _ _ _ _ _ _ _ _ _ _ _ _ _ _ (by omega) (by omega) yM zE aAR aA1 aAA zT yL xQ yY yK aAZ xU xV aAo aAp
                · skip
                  have c56 := mt (aAd _ _).mpr c56
                  refine And.intro (fun _ => ?_) (fun h9 => absurd h9 (by decide))
                  refine aKO (by omega) xJ xU xV (by omega) (fun r59 h_r59 ox60 => ?_)
                  intro v61 ev61
                  intro v62 ev62
                  have f64 := aAQ v61 1431655765 (by omega)
                  have f63 : Int32.toInt (r59 - (v61 &&& 1431655765)) = Int32.toInt r59 - Int32.toInt (v61 &&& 1431655765) := aCA _ _ (by omega)
                  rw [← ev62] at f63
                  intro v65 ev65
                  have f66 := aAQ v62 858993459 (by omega)
                  have hv65 := congrArg Int32.toInt ev65
                  intro v67 ev67
                  intro v68 ev68
                  have f70 := aAQ v67 858993459 (by omega)
                  have f69 : Int32.toInt (v65 + (v67 &&& 858993459)) = Int32.toInt v65 + Int32.toInt (v67 &&& 858993459) := aAD _ _ (by omega)
                  rw [← ev68] at f69
                  intro v71 ev71
                  have hv71 := congrArg Int32.toInt ev71
                  intro v73 ev73
                  have f74 := aAQ v71 252645135 (by omega)
                  have hv73 := congrArg Int32.toInt ev73
                  intro v75 ev75
                  have hv75 := congrArg Int32.toInt ev75
                  intro v77 ev77
                  have hv77 := congrArg Int32.toInt ev77
                  have q79 := yD (4 : Int32).toNatClampNeg (by have e9 : (4 : Int32).toNatClampNeg = (Int32.toInt (4 : Int32)).toNat := rfl; omega)
                  have f81 := aAQ v77 63 (by omega)
                  refine And.intro (fun c80 => ?_) (fun c80 => ?_)
                  · skip
                    have c80 := (aAd _ _).mp c80
                    refine And.intro (fun _ => ?_) (fun h9 => absurd h9 (by decide))
                    refine t_X10_remember aAZ xU xV aAo aAp (by omega) (fun m_undoMany_83 m_undos_84 h_m_undoMany_83 e0_m_undos_84 e1_m_undos_84 => ?_)
                    have q85 := xU (17 : Int32).toNatClampNeg (by have e9 : (17 : Int32).toNatClampNeg = (Int32.toInt (17 : Int32)).toNat := rfl; omega)
                    intro v86 ev86
                    have hv86 := congrArg Int32.toInt ev86
                    refine aKO (by omega) xJ xU xV (by omega) (fun r87 h_r87 ox88 => ?_)
                    intro v89 ev89
                    intro v90 ev90
                    have f92 := aAQ v89 1431655765 (by omega)
                    have f91 : Int32.toInt (r87 - (v89 &&& 1431655765)) = Int32.toInt r87 - Int32.toInt (v89 &&& 1431655765) := aCA _ _ (by omega)
                    rw [← ev90] at f91
                    intro v93 ev93
                    have f94 := aAQ v90 858993459 (by omega)
                    have hv93 := congrArg Int32.toInt ev93
                    intro v95 ev95
                    intro v96 ev96
                    have f98 := aAQ v95 858993459 (by omega)
                    have f97 : Int32.toInt (v93 + (v95 &&& 858993459)) = Int32.toInt v93 + Int32.toInt (v95 &&& 858993459) := aAD _ _ (by omega)
                    rw [← ev96] at f97
                    intro v99 ev99
                    have hv99 := congrArg Int32.toInt ev99
                    intro v101 ev101
                    have f102 := aAQ v99 252645135 (by omega)
                    have hv101 := congrArg Int32.toInt ev101
                    intro v103 ev103
                    have hv103 := congrArg Int32.toInt ev103
                    intro v105 ev105
                    have hv105 := congrArg Int32.toInt ev105
                    have f118 := aAQ v105 63 (by omega)
                    refine t_X10_secondsOf (by omega) (by omega) (by omega) (by omega) yM zE aAR aA1 aAA zQ zT yL xQ yY yK aAW xK yR xT yF zG zI (fun r117 m_read_107 m_length_108 m_top_109 m_at_110 m_wrong_111 m_isAsked_112 m_askedFruit_113 m_askedStanding_114 m_askedHook_115 m_askedApron_116 h_r117 h_m_read_107 h_m_length_108 h_m_top_109 h_m_at_110 h_m_wrong_111 h_m_isAsked_112 h_m_askedFruit_113 h_m_askedStanding_114 h_m_askedHook_115 h_m_askedApron_116 => ?_)
                    intro v119 ev119
                    have hv119 := congrArg Int32.toInt ev119
                    refine aKO (by omega) xJ xU xV (by omega) (fun r121 h_r121 ox122 => ?_)
                    refine t_X10_below (by omega) h_r121 xJ aAW xK (fun r123 h_r123 => ?_)
                    intro v124 ev124
                    have f126 := aAT v124
                    have e125 : ∀ k : Nat, k = 17 → -1 ≤ Int32.toInt ((upd qG (16 : Int32).toNatClampNeg v124) k) ∧ Int32.toInt ((upd qG (16 : Int32).toNatClampNeg v124) k) ≤ SB := aCJ (C := fun k => k = 17) xU (fun hk => by have e9 : (16 : Int32).toNatClampNeg = (Int32.toInt (16 : Int32)).toNat := rfl; have hk : (16 : Int32).toNatClampNeg = 17 := hk; omega)
                    have e127 : ∀ k : Nat, k = 19 → 0 ≤ Int32.toInt ((upd qG (16 : Int32).toNatClampNeg v124) k) ∧ Int32.toInt ((upd qG (16 : Int32).toNatClampNeg v124) k) ≤ 9 := aCJ (C := fun k => k = 19) xV (fun hk => by have e9 : (16 : Int32).toNatClampNeg = (Int32.toInt (16 : Int32)).toNat := rfl; have hk : (16 : Int32).toNatClampNeg = 19 := hk; omega)
                    refine And.intro (aBZ (by omega)) ?_
                    have e128 : ∀ k : Nat, k = 17 → -1 ≤ Int32.toInt ((upd (upd qG (16 : Int32).toNatClampNeg v124) p0.toNatClampNeg 1) k) ∧ Int32.toInt ((upd (upd qG (16 : Int32).toNatClampNeg v124) p0.toNatClampNeg 1) k) ≤ SB := aCJ (C := fun k => k = 17) e125 (fun hk => by have e9 : p0.toNatClampNeg = (Int32.toInt p0).toNat := rfl; have hk : p0.toNatClampNeg = 17 := hk; omega)
                    have e129 : ∀ k : Nat, k = 19 → 0 ≤ Int32.toInt ((upd (upd qG (16 : Int32).toNatClampNeg v124) p0.toNatClampNeg 1) k) ∧ Int32.toInt ((upd (upd qG (16 : Int32).toNatClampNeg v124) p0.toNatClampNeg 1) k) ≤ 9 := aCJ (C := fun k => k = 19) e127 (fun hk => by have e9 : p0.toNatClampNeg = (Int32.toInt p0).toNat := rfl; have hk : p0.toNatClampNeg = 19 := hk; omega)
                    intro v130 ev130
                    have hv130 := congrArg Int32.toInt ev130
                    intro v132 ev132
                    have hv132 := congrArg Int32.toInt ev132
                    intro v134 ev134
                    have f135 := aAT (if v132 < 9999 then v132 else 9999)
                    have f137 := aAT v132
                    have f136 := ti_min (9999 : Int32) v132
                    have hv134 := congrArg Int32.toInt ev134
                    have f139 := aAT v134
                    have e138 : ∀ k : Nat, k = 17 → -1 ≤ Int32.toInt ((upd (upd (upd qG (16 : Int32).toNatClampNeg v124) p0.toNatClampNeg 1) (20 : Int32).toNatClampNeg v134) k) ∧ Int32.toInt ((upd (upd (upd qG (16 : Int32).toNatClampNeg v124) p0.toNatClampNeg 1) (20 : Int32).toNatClampNeg v134) k) ≤ SB := aCJ (C := fun k => k = 17) e128 (fun hk => by have e9 : (20 : Int32).toNatClampNeg = (Int32.toInt (20 : Int32)).toNat := rfl; have hk : (20 : Int32).toNatClampNeg = 17 := hk; omega)
                    have e140 : ∀ k : Nat, k = 19 → 0 ≤ Int32.toInt ((upd (upd (upd qG (16 : Int32).toNatClampNeg v124) p0.toNatClampNeg 1) (20 : Int32).toNatClampNeg v134) k) ∧ Int32.toInt ((upd (upd (upd qG (16 : Int32).toNatClampNeg v124) p0.toNatClampNeg 1) (20 : Int32).toNatClampNeg v134) k) ≤ 9 := aCJ (C := fun k => k = 19) e129 (fun hk => by have e9 : (20 : Int32).toNatClampNeg = (Int32.toInt (20 : Int32)).toNat := rfl; have hk : (20 : Int32).toNatClampNeg = 19 := hk; omega)
                    exact hpost _ _ _ _ _ _ _ _ _ _ _ _ _ _ _ (by omega) (by omega) h_m_read_107 h_m_length_108 h_m_top_109 h_m_at_110 h_m_wrong_111 h_m_isAsked_112 h_m_askedFruit_113 h_m_askedStanding_114 h_m_askedHook_115 h_m_askedApron_116 (by omega) e138 e140 e0_m_undos_84 e1_m_undos_84
                  · skip
                    have c80 := mt (aAd _ _).mpr c80
                    refine And.intro (fun h9 => absurd h9 (by decide)) (fun _ => ?_)
                    exact hpost _ _ _ _ _ _ _ _ _ _ _ _ _ _ _ (by omega) (by omega) yM zE aAR aA1 aAA zT yL xQ yY yK aAZ xU xV aAo aAp
            · skip
              have c14 := mt (aAO _ _).mpr c14
              refine And.intro (fun h9 => absurd h9 (by decide)) (fun _ => ?_)
              exact hpost _ _ _ _ _ _ _ _ _ _ _ _ _ _ _ (by omega) (by omega) yM zE aAR aA1 aAA zT yL xQ yY yK aAZ xU xV aAo aAp
          · skip
            have c9 := mt (zJ _ _).mpr c9
            refine And.intro (fun h9 => absurd h9 (by decide)) (fun _ => ?_)
            exact hpost _ _ _ _ _ _ _ _ _ _ _ _ _ _ _ (by omega) (by omega) yM zE aAR aA1 aAA zT yL xQ yY yK aAZ xU xV aAo aAp
