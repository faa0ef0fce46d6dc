set_option maxHeartbeats 8000000 in
set_option maxRecDepth 200000 in
theorem ts_X10_pays_68 {post : Int32 → Int32 → Int32 → Nat → Int32 → Int32 → Int32 → Int32 → Int32 → Int32 → Int32 → Int32 → Int32 → Int32 → (Nat → Int32) → (Nat → Int32) → Prop} {SB : Int} {K36 : Int32 → Int32 → Int32 → Int32 → Int32 → Int32 → Nat → Int32 → Int32 → Int32 → Int32 → Int32 → Int32 → Int32 → Int32 → Int32 → Int32 → (Nat → Int32) → (Nat → Int32) → Prop} {n36 : Int} (bT aG bW : Int32) (qG m_x gR pW qR nG oO pJ qO qQ : Nat → Int32) (xJ : 0 ≤ Int32.toInt bT ∧ Int32.toInt bT ≤ 16) (vZ : 0 ≤ Int32.toInt aG ∧ Int32.toInt aG ≤ 8) (zQ : 0 ≤ Int32.toInt bW ∧ Int32.toInt bW ≤ 40) (xU : ∀ k : Nat, k = 17 → -1 ≤ Int32.toInt (qG k) ∧ Int32.toInt (qG k) ≤ SB) (xV : ∀ k : Nat, k = 19 → 0 ≤ Int32.toInt (qG k) ∧ Int32.toInt (qG k) ≤ 9) (aAW : ∀ k : Nat, 0 ≤ Int32.toInt (m_x k) ∧ Int32.toInt (m_x k) ≤ 99) (xK : ∀ k : Nat, 0 ≤ Int32.toInt (gR k) ∧ Int32.toInt (gR k) ≤ 99) (yR : ∀ k : Nat, 0 ≤ Int32.toInt (pW k) ∧ Int32.toInt (pW k) ≤ 9) (zM : ∀ k : Nat, 0 ≤ Int32.toInt (qR k) ∧ Int32.toInt (qR k) ≤ 9) (xT : ∀ k : Nat, 0 ≤ Int32.toInt (nG k) ∧ Int32.toInt (nG k) ≤ 99) (yF : ∀ k : Nat, 0 ≤ Int32.toInt (oO k) ∧ Int32.toInt (oO k) ≤ 99) (yD : ∀ k : Nat, k = 4 → 1 ≤ Int32.toInt (pJ k) ∧ Int32.toInt (pJ k) ≤ 30) (xZ : ∀ k : Nat, k = 3 → 0 ≤ Int32.toInt (pJ k) ∧ Int32.toInt (pJ k) ≤ 9) (zG : ∀ k : Nat, -128 ≤ Int32.toInt (qO k) ∧ Int32.toInt (qO k) ≤ 127) (zI : ∀ k : Nat, -128 ≤ Int32.toInt (qQ k) ∧ Int32.toInt (qQ k) ≤ 127) (hc0 : -1 ≤ SB ∧ SB ≤ 7) (hc1 : (Int32.toInt aG ≤ 0 ∧ SB = 0) ∨ (1 ≤ Int32.toInt aG ∧ SB = Int32.toInt aG - 1)) (hpost : ∀ (r : Int32) (xM : Int32) (xG : Int32) (aAP : Nat) (zS : Int32) (aAz : Int32) (aAm : Int32) (zH : Int32) (aAM : Int32) (zP : Int32) (yO : Int32) (zZ : Int32) (zO : Int32) (aAS : Int32) (aBX : Nat → Int32) (aA5 : Nat → Int32), (0 ≤ Int32.toInt xM ∧ Int32.toInt xM ≤ 16) → (0 ≤ Int32.toInt xG ∧ Int32.toInt xG ≤ 0) → (aAP = 0 ∨ aAP = 1 ∨ aAP = 2) → (0 ≤ Int32.toInt zS ∧ Int32.toInt zS ≤ 80) → (0 ≤ Int32.toInt aAz ∧ Int32.toInt aAz ≤ 80) → (0 ≤ Int32.toInt aAm ∧ Int32.toInt aAm ≤ 80) → (-1 ≤ Int32.toInt zH ∧ Int32.toInt zH ≤ 80) → (0 ≤ Int32.toInt aAM ∧ Int32.toInt aAM ≤ 0) → (0 ≤ Int32.toInt zP ∧ Int32.toInt zP ≤ 15) → (0 ≤ Int32.toInt yO ∧ Int32.toInt yO ≤ 7) → (0 ≤ Int32.toInt zZ ∧ Int32.toInt zZ ≤ 1) → (0 ≤ Int32.toInt zO ∧ Int32.toInt zO ≤ 63) → (0 ≤ Int32.toInt aAS ∧ Int32.toInt aAS ≤ 65535) → (∀ k : Nat, 0 ≤ Int32.toInt (aA5 k) ∧ Int32.toInt (aA5 k) ≤ 65535) → post r xM xG aAP zS aAz aAm zH aAM zP yO zZ zO aAS aBX aA5) (hK36 : ∀ (x1 : Int32) (x2 : Int32) (x3 : Int32) (x4 : Int32) (bL : Int32) (bY : Int32) (jD : Nat) (m_length : Int32) (oF : Int32) (rP : Int32) (dQ : Int32) (bZ : Int32) (aR : Int32) (aE : Int32) (bI : Int32) (aW : Int32) (dO : Int32) (sW : Nat → Int32) (sH : Nat → Int32), (0 ≤ Int32.toInt x1 ∧ Int32.toInt x1 ≤ 7) → (0 ≤ Int32.toInt x2 ∧ Int32.toInt x2 ≤ 65535) → (0 ≤ Int32.toInt x4 ∧ Int32.toInt x4 ≤ 16) → (0 ≤ Int32.toInt bL ∧ Int32.toInt bL ≤ 16) → (0 ≤ Int32.toInt bY ∧ Int32.toInt bY ≤ 0) → (jD = 0 ∨ jD = 1 ∨ jD = 2) → (0 ≤ Int32.toInt m_length ∧ Int32.toInt m_length ≤ 80) → (0 ≤ Int32.toInt oF ∧ Int32.toInt oF ≤ 80) → (0 ≤ Int32.toInt rP ∧ Int32.toInt rP ≤ 80) → (-1 ≤ Int32.toInt dQ ∧ Int32.toInt dQ ≤ 80) → (0 ≤ Int32.toInt bZ ∧ Int32.toInt bZ ≤ 0) → (0 ≤ Int32.toInt aR ∧ Int32.toInt aR ≤ 15) → (0 ≤ Int32.toInt aE ∧ Int32.toInt aE ≤ 7) → (0 ≤ Int32.toInt bI ∧ Int32.toInt bI ≤ 1) → (0 ≤ Int32.toInt aW ∧ Int32.toInt aW ≤ 63) → (0 ≤ Int32.toInt dO ∧ Int32.toInt dO ≤ 65535) → (∀ k : Nat, 0 ≤ Int32.toInt (sH k) ∧ Int32.toInt (sH k) ≤ 65535) → (16 - Int32.toInt x4 < n36) → K36 x1 x2 x3 x4 bL bY jD m_length oF rP dQ bZ aR aE bI aW dO sW sH) (x1 x2 x4 k0 k1 bL bY : Int32) (jD : Nat) (m_length oF rP dQ bZ aR aE bI aW dO : Int32) (sW sH : Nat → Int32) (aBK : 0 ≤ Int32.toInt x1 ∧ Int32.toInt x1 ≤ 7) (aBN : 0 ≤ Int32.toInt x2 ∧ Int32.toInt x2 ≤ 65535) (aDO : 0 ≤ Int32.toInt x4 ∧ Int32.toInt x4 ≤ 15) (h_k1 : 0 ≤ Int32.toInt k1 ∧ Int32.toInt k1 ≤ 99) (yJ : 0 ≤ Int32.toInt bL ∧ Int32.toInt bL ≤ 16) (yG : 0 ≤ Int32.toInt bY ∧ Int32.toInt bY ≤ 0) (yM : jD = 0 ∨ jD = 1 ∨ jD = 2) (zE : 0 ≤ Int32.toInt m_length ∧ Int32.toInt m_length ≤ 80) (aAR : 0 ≤ Int32.toInt oF ∧ Int32.toInt oF ≤ 80) (aA1 : 0 ≤ Int32.toInt rP ∧ Int32.toInt rP ≤ 80) (aAA : -1 ≤ Int32.toInt dQ ∧ Int32.toInt dQ ≤ 80) (zT : 0 ≤ Int32.toInt bZ ∧ Int32.toInt bZ ≤ 0) (yL : 0 ≤ Int32.toInt aR ∧ Int32.toInt aR ≤ 15) (xQ : 0 ≤ Int32.toInt aE ∧ Int32.toInt aE ≤ 7) (yY : 0 ≤ Int32.toInt bI ∧ Int32.toInt bI ≤ 1) (yK : 0 ≤ Int32.toInt aW ∧ Int32.toInt aW ≤ 63) (aAH : 0 ≤ Int32.toInt dO ∧ Int32.toInt dO ≤ 65535) (zY : ∀ k : Nat, 0 ≤ Int32.toInt (sH k) ∧ Int32.toInt (sH k) ≤ 65535) (hn36 : 16 - Int32.toInt x4 ≤ n36) : ws_X10_pays_68 post K36 bT aG bW qG m_x gR pW qR nG oO pJ qO qQ x1 x2 x4 k0 k1 bL bY jD m_length oF rP dQ bZ aR aE bI aW dO sW sH := by
  have l0 := aEc
  intro v1 ev1
  have hv1 := congrArg Int32.toInt ev1
  intro v3 ev3
  have f4 : Int32.toInt (x4 + 1) = Int32.toInt x4 + Int32.toInt (1 : Int32) := aAD _ _ (by omega)
  rw [← ev3] at f4
  have f5 := aAT v1
  exact hK36 x1 x2 v1 v3 bL bY jD m_length oF rP dQ bZ aR aE bI aW dO sW sH aBK aBN (by omega) yJ yG yM zE aAR aA1 aAA zT yL xQ yY yK aAH zY (by omega)
set_option maxHeartbeats 8000000 in
set_option maxRecDepth 200000 in
theorem ts_X10_pays_109 {post : Int32 → Int32 → Int32 → Nat → Int32 → Int32 → Int32 → Int32 → Int32 → Int32 → Int32 → Int32 → Int32 → Int32 → (Nat → Int32) → (Nat → Int32) → Prop} {SB : Int} (bT aG bW : Int32) (qG m_x gR pW qR nG oO pJ qO qQ : Nat → Int32) (xJ : 0 ≤ Int32.toInt bT ∧ Int32.toInt bT ≤ 16) (vZ : 0 ≤ Int32.toInt aG ∧ Int32.toInt aG ≤ 8) (zQ : 0 ≤ Int32.toInt bW ∧ Int32.toInt bW ≤ 40) (xU : ∀ k : Nat, k = 17 → -1 ≤ Int32.toInt (qG k) ∧ Int32.toInt (qG k) ≤ SB) (xV : ∀ k : Nat, k = 19 → 0 ≤ Int32.toInt (qG k) ∧ Int32.toInt (qG k) ≤ 9) (aAW : ∀ k : Nat, 0 ≤ Int32.toInt (m_x k) ∧ Int32.toInt (m_x k) ≤ 99) (xK : ∀ k : Nat, 0 ≤ Int32.toInt (gR k) ∧ Int32.toInt (gR k) ≤ 99) (yR : ∀ k : Nat, 0 ≤ Int32.toInt (pW k) ∧ Int32.toInt (pW k) ≤ 9) (zM : ∀ k : Nat, 0 ≤ Int32.toInt (qR k) ∧ Int32.toInt (qR k) ≤ 9) (xT : ∀ k : Nat, 0 ≤ Int32.toInt (nG k) ∧ Int32.toInt (nG k) ≤ 99) (yF : ∀ k : Nat, 0 ≤ Int32.toInt (oO k) ∧ Int32.toInt (oO k) ≤ 99) (yD : ∀ k : Nat, k = 4 → 1 ≤ Int32.toInt (pJ k) ∧ Int32.toInt (pJ k) ≤ 30) (xZ : ∀ k : Nat, k = 3 → 0 ≤ Int32.toInt (pJ k) ∧ Int32.toInt (pJ k) ≤ 9) (zG : ∀ k : Nat, -128 ≤ Int32.toInt (qO k) ∧ Int32.toInt (qO k) ≤ 127) (zI : ∀ k : Nat, -128 ≤ Int32.toInt (qQ k) ∧ Int32.toInt (qQ k) ≤ 127) (hc0 : -1 ≤ SB ∧ SB ≤ 7) (hc1 : (Int32.toInt aG ≤ 0 ∧ SB = 0) ∨ (1 ≤ Int32.toInt aG ∧ SB = Int32.toInt aG - 1)) (hpost : ∀ (r : Int32) (xM : Int32) (xG : Int32) (aAP : Nat) (zS : Int32) (aAz : Int32) (aAm : Int32) (zH : Int32) (aAM : Int32) (zP : Int32) (yO : Int32) (zZ : Int32) (zO : Int32) (aAS : Int32) (aBX : Nat → Int32) (aA5 : Nat → Int32), (0 ≤ Int32.toInt xM ∧ Int32.toInt xM ≤ 16) → (0 ≤ Int32.toInt xG ∧ Int32.toInt xG ≤ 0) → (aAP = 0 ∨ aAP = 1 ∨ aAP = 2) → (0 ≤ Int32.toInt zS ∧ Int32.toInt zS ≤ 80) → (0 ≤ Int32.toInt aAz ∧ Int32.toInt aAz ≤ 80) → (0 ≤ Int32.toInt aAm ∧ Int32.toInt aAm ≤ 80) → (-1 ≤ Int32.toInt zH ∧ Int32.toInt zH ≤ 80) → (0 ≤ Int32.toInt aAM ∧ Int32.toInt aAM ≤ 0) → (0 ≤ Int32.toInt zP ∧ Int32.toInt zP ≤ 15) → (0 ≤ Int32.toInt yO ∧ Int32.toInt yO ≤ 7) → (0 ≤ Int32.toInt zZ ∧ Int32.toInt zZ ≤ 1) → (0 ≤ Int32.toInt zO ∧ Int32.toInt zO ≤ 63) → (0 ≤ Int32.toInt aAS ∧ Int32.toInt aAS ≤ 65535) → (∀ k : Nat, 0 ≤ Int32.toInt (aA5 k) ∧ Int32.toInt (aA5 k) ≤ 65535) → post r xM xG aAP zS aAz aAm zH aAM zP yO zZ zO aAS aBX aA5) (x1 x2 x3 k1 bL bY : Int32) (jD : Nat) (m_length oF rP dQ bZ aR aE bI aW dO : Int32) (sW sH : Nat → Int32) (aBK : 0 ≤ Int32.toInt x1 ∧ Int32.toInt x1 ≤ 7) (aBN : 0 ≤ Int32.toInt x2 ∧ Int32.toInt x2 ≤ 65535) (h_k1 : 0 ≤ Int32.toInt k1 ∧ Int32.toInt k1 ≤ 900) (yJ : 0 ≤ Int32.toInt bL ∧ Int32.toInt bL ≤ 0) (yG : 0 ≤ Int32.toInt bY ∧ Int32.toInt bY ≤ 0) (yM : jD = 0 ∨ jD = 1 ∨ jD = 2) (zE : 0 ≤ Int32.toInt m_length ∧ Int32.toInt m_length ≤ 80) (aAR : 0 ≤ Int32.toInt oF ∧ Int32.toInt oF ≤ 80) (aA1 : 0 ≤ Int32.toInt rP ∧ Int32.toInt rP ≤ 80) (aAA : -1 ≤ Int32.toInt dQ ∧ Int32.toInt dQ ≤ 80) (zT : 0 ≤ Int32.toInt bZ ∧ Int32.toInt bZ ≤ 0) (yL : 0 ≤ Int32.toInt aR ∧ Int32.toInt aR ≤ 15) (xQ : 0 ≤ Int32.toInt aE ∧ Int32.toInt aE ≤ 7) (yY : 0 ≤ Int32.toInt bI ∧ Int32.toInt bI ≤ 1) (yK : 0 ≤ Int32.toInt aW ∧ Int32.toInt aW ≤ 63) (aAH : 0 ≤ Int32.toInt dO ∧ Int32.toInt dO ≤ 65535) (zY : ∀ k : Nat, 0 ≤ Int32.toInt (sH k) ∧ Int32.toInt (sH k) ≤ 65535) : ws_X10_pays_109 post bT aG bW qG m_x gR pW qR nG oO pJ qO qQ x1 x2 x3 k1 bL bY jD m_length oF rP dQ bZ aR aE bI aW dO sW sH := by
  have l0 := aE0
  have l1 := aEc
  have l2 := aKH
  have l3 := li_16
  have l4 := aJ8
  have l5 := li_4
  have l6 := li_63
  have l7 := aJ9
  have l8 := li_9
  refine And.intro (aBZ (by omega)) ?_
  intro v6 ev6
  have f7 : Int32.toInt (bL + 1) = Int32.toInt bL + Int32.toInt (1 : Int32) := aAD _ _ (by omega)
  rw [← ev6] at f7
  refine And.intro (aBZ (by omega)) ?_
  intro v8 ev8
  have f9 : Int32.toInt (v6 + 1) = Int32.toInt v6 + Int32.toInt (1 : Int32) := aAD _ _ (by omega)
  rw [← ev8] at f9
  intro v10 ev10
  intro v11 ev11
  have f13 := aAQ v10 1431655765 (by omega)
  have f12 : Int32.toInt (x2 - (v10 &&& 1431655765)) = Int32.toInt x2 - Int32.toInt (v10 &&& 1431655765) := aCA _ _ (by omega)
  rw [← ev11] at f12
  intro v14 ev14
  have f15 := aAQ v11 858993459 (by omega)
  have hv14 := congrArg Int32.toInt ev14
  intro v16 ev16
  intro v17 ev17
  have f19 := aAQ v16 858993459 (by omega)
  have f18 : Int32.toInt (v14 + (v16 &&& 858993459)) = Int32.toInt v14 + Int32.toInt (v16 &&& 858993459) := aAD _ _ (by omega)
  rw [← ev17] at f18
  intro v20 ev20
  have hv20 := congrArg Int32.toInt ev20
  intro v22 ev22
  have f23 := aAQ v20 252645135 (by omega)
  have hv22 := congrArg Int32.toInt ev22
  intro v24 ev24
  have hv24 := congrArg Int32.toInt ev24
  intro v26 ev26
  have hv26 := congrArg Int32.toInt ev26
  have q28 := yD (4 : Int32).toNatClampNeg (by have e9 : (4 : Int32).toNatClampNeg = (Int32.toInt (4 : Int32)).toNat := rfl; omega)
  intro v29 ev29
  have f31 := aAQ v26 63 (by omega)
  have f30 : Int32.toInt ((v26 &&& 63) + (pJ (4 : Int32).toNatClampNeg)) = Int32.toInt (v26 &&& 63) + Int32.toInt (pJ (4 : Int32).toNatClampNeg) := aAD _ _ (by omega)
  rw [← ev29] at f30
  intro v33 ev33
  have f34 : Int32.toInt (v29 - 1) = Int32.toInt v29 - Int32.toInt (1 : Int32) := aCA _ _ (by omega)
  rw [← ev33] at f34
  have q35 := yD (4 : Int32).toNatClampNeg (by have e9 : (4 : Int32).toNatClampNeg = (Int32.toInt (4 : Int32)).toNat := rfl; omega)
  refine And.intro (mt (zJ _ _).mp (by omega)) ?_
  intro v36 ev36
  refine And.intro (aBZ (by omega)) ?_
  intro v37 ev37
  have f38 := yF x1.toNatClampNeg
  have hv37 := congrArg Int32.toInt ev37
  intro v39 ev39
  have f40 : Int32.toInt (v37 + 9) = Int32.toInt v37 + Int32.toInt (9 : Int32) := aAD _ _ (by omega)
  rw [← ev39] at f40
  intro v41 ev41
  have hv41 := congrArg Int32.toInt ev41
  refine And.intro (aBZ (by omega)) ?_
  intro v43 ev43
  have f44 : Int32.toInt (v8 + 1) = Int32.toInt v8 + Int32.toInt (1 : Int32) := aAD _ _ (by omega)
  rw [← ev43] at f44
  intro v45 ev45
  have hv45 := congrArg Int32.toInt ev45
  refine aNU aBN xJ yR (fun r47 => ?_)
  exact hpost _ _ _ _ _ _ _ _ _ _ _ _ _ _ _ _ (by omega) yG yM zE aAR aA1 aAA zT yL xQ yY yK aAH zY
set_option maxHeartbeats 8000000 in
set_option maxRecDepth 200000 in
theorem ts_X10_pays_36 {post : Int32 → Int32 → Int32 → Nat → Int32 → Int32 → Int32 → Int32 → Int32 → Int32 → Int32 → Int32 → Int32 → Int32 → (Nat → Int32) → (Nat → Int32) → Prop} {SB : Int} {next : Int32 → Int32 → Int32 → Int32 → Int32 → Int32 → Nat → Int32 → Int32 → Int32 → Int32 → Int32 → Int32 → Int32 → Int32 → Int32 → Int32 → (Nat → Int32) → (Nat → Int32) → Prop} {n36 : Int} (bT aG bW : Int32) (qG m_x gR pW qR nG oO pJ qO qQ : Nat → Int32) (xJ : 0 ≤ Int32.toInt bT ∧ Int32.toInt bT ≤ 16) (vZ : 0 ≤ Int32.toInt aG ∧ Int32.toInt aG ≤ 8) (zQ : 0 ≤ Int32.toInt bW ∧ Int32.toInt bW ≤ 40) (xU : ∀ k : Nat, k = 17 → -1 ≤ Int32.toInt (qG k) ∧ Int32.toInt (qG k) ≤ SB) (xV : ∀ k : Nat, k = 19 → 0 ≤ Int32.toInt (qG k) ∧ Int32.toInt (qG k) ≤ 9) (aAW : ∀ k : Nat, 0 ≤ Int32.toInt (m_x k) ∧ Int32.toInt (m_x k) ≤ 99) (xK : ∀ k : Nat, 0 ≤ Int32.toInt (gR k) ∧ Int32.toInt (gR k) ≤ 99) (yR : ∀ k : Nat, 0 ≤ Int32.toInt (pW k) ∧ Int32.toInt (pW k) ≤ 9) (zM : ∀ k : Nat, 0 ≤ Int32.toInt (qR k) ∧ Int32.toInt (qR k) ≤ 9) (xT : ∀ k : Nat, 0 ≤ Int32.toInt (nG k) ∧ Int32.toInt (nG k) ≤ 99) (yF : ∀ k : Nat, 0 ≤ Int32.toInt (oO k) ∧ Int32.toInt (oO k) ≤ 99) (yD : ∀ k : Nat, k = 4 → 1 ≤ Int32.toInt (pJ k) ∧ Int32.toInt (pJ k) ≤ 30) (xZ : ∀ k : Nat, k = 3 → 0 ≤ Int32.toInt (pJ k) ∧ Int32.toInt (pJ k) ≤ 9) (zG : ∀ k : Nat, -128 ≤ Int32.toInt (qO k) ∧ Int32.toInt (qO k) ≤ 127) (zI : ∀ k : Nat, -128 ≤ Int32.toInt (qQ k) ∧ Int32.toInt (qQ k) ≤ 127) (hc0 : -1 ≤ SB ∧ SB ≤ 7) (hc1 : (Int32.toInt aG ≤ 0 ∧ SB = 0) ∨ (1 ≤ Int32.toInt aG ∧ SB = Int32.toInt aG - 1)) (hpost : ∀ (r : Int32) (xM : Int32) (xG : Int32) (aAP : Nat) (zS : Int32) (aAz : Int32) (aAm : Int32) (zH : Int32) (aAM : Int32) (zP : Int32) (yO : Int32) (zZ : Int32) (zO : Int32) (aAS : Int32) (aBX : Nat → Int32) (aA5 : Nat → Int32), (0 ≤ Int32.toInt xM ∧ Int32.toInt xM ≤ 16) → (0 ≤ Int32.toInt xG ∧ Int32.toInt xG ≤ 0) → (aAP = 0 ∨ aAP = 1 ∨ aAP = 2) → (0 ≤ Int32.toInt zS ∧ Int32.toInt zS ≤ 80) → (0 ≤ Int32.toInt aAz ∧ Int32.toInt aAz ≤ 80) → (0 ≤ Int32.toInt aAm ∧ Int32.toInt aAm ≤ 80) → (-1 ≤ Int32.toInt zH ∧ Int32.toInt zH ≤ 80) → (0 ≤ Int32.toInt aAM ∧ Int32.toInt aAM ≤ 0) → (0 ≤ Int32.toInt zP ∧ Int32.toInt zP ≤ 15) → (0 ≤ Int32.toInt yO ∧ Int32.toInt yO ≤ 7) → (0 ≤ Int32.toInt zZ ∧ Int32.toInt zZ ≤ 1) → (0 ≤ Int32.toInt zO ∧ Int32.toInt zO ≤ 63) → (0 ≤ Int32.toInt aAS ∧ Int32.toInt aAS ≤ 65535) → (∀ k : Nat, 0 ≤ Int32.toInt (aA5 k) ∧ Int32.toInt (aA5 k) ≤ 65535) → post r xM xG aAP zS aAz aAm zH aAM zP yO zZ zO aAS aBX aA5) (hKn : ∀ (x1 : Int32) (x2 : Int32) (x3 : Int32) (x4 : Int32) (bL : Int32) (bY : Int32) (jD : Nat) (m_length : Int32) (oF : Int32) (rP : Int32) (dQ : Int32) (bZ : Int32) (aR : Int32) (aE : Int32) (bI : Int32) (aW : Int32) (dO : Int32) (sW : Nat → Int32) (sH : Nat → Int32), (0 ≤ Int32.toInt x1 ∧ Int32.toInt x1 ≤ 7) → (0 ≤ Int32.toInt x2 ∧ Int32.toInt x2 ≤ 65535) → (0 ≤ Int32.toInt x4 ∧ Int32.toInt x4 ≤ 16) → (0 ≤ Int32.toInt bL ∧ Int32.toInt bL ≤ 16) → (0 ≤ Int32.toInt bY ∧ Int32.toInt bY ≤ 0) → (jD = 0 ∨ jD = 1 ∨ jD = 2) → (0 ≤ Int32.toInt m_length ∧ Int32.toInt m_length ≤ 80) → (0 ≤ Int32.toInt oF ∧ Int32.toInt oF ≤ 80) → (0 ≤ Int32.toInt rP ∧ Int32.toInt rP ≤ 80) → (-1 ≤ Int32.toInt dQ ∧ Int32.toInt dQ ≤ 80) → (0 ≤ Int32.toInt bZ ∧ Int32.toInt bZ ≤ 0) → (0 ≤ Int32.toInt aR ∧ Int32.toInt aR ≤ 15) → (0 ≤ Int32.toInt aE ∧ Int32.toInt aE ≤ 7) → (0 ≤ Int32.toInt bI ∧ Int32.toInt bI ≤ 1) → (0 ≤ Int32.toInt aW ∧ Int32.toInt aW ≤ 63) → (0 ≤ Int32.toInt dO ∧ Int32.toInt dO ≤ 65535) → (∀ k : Nat, 0 ≤ Int32.toInt (sH k) ∧ Int32.toInt (sH k) ≤ 65535) → (16 - Int32.toInt x4 < n36) → next x1 x2 x3 x4 bL bY jD m_length oF rP dQ bZ aR aE bI aW dO sW sH) (x1 x2 x3 x4 bL bY : Int32) (jD : Nat) (m_length oF rP dQ bZ aR aE bI aW dO : Int32) (sW sH : Nat → Int32) (aBK : 0 ≤ Int32.toInt x1 ∧ Int32.toInt x1 ≤ 7) (aBN : 0 ≤ Int32.toInt x2 ∧ Int32.toInt x2 ≤ 65535) (aDO : 0 ≤ Int32.toInt x4 ∧ Int32.toInt x4 ≤ 16) (yJ : 0 ≤ Int32.toInt bL ∧ Int32.toInt bL ≤ 16) (yG : 0 ≤ Int32.toInt bY ∧ Int32.toInt bY ≤ 0) (yM : jD = 0 ∨ jD = 1 ∨ jD = 2) (zE : 0 ≤ Int32.toInt m_length ∧ Int32.toInt m_length ≤ 80) (aAR : 0 ≤ Int32.toInt oF ∧ Int32.toInt oF ≤ 80) (aA1 : 0 ≤ Int32.toInt rP ∧ Int32.toInt rP ≤ 80) (aAA : -1 ≤ Int32.toInt dQ ∧ Int32.toInt dQ ≤ 80) (zT : 0 ≤ Int32.toInt bZ ∧ Int32.toInt bZ ≤ 0) (yL : 0 ≤ Int32.toInt aR ∧ Int32.toInt aR ≤ 15) (xQ : 0 ≤ Int32.toInt aE ∧ Int32.toInt aE ≤ 7) (yY : 0 ≤ Int32.toInt bI ∧ Int32.toInt bI ≤ 1) (yK : 0 ≤ Int32.toInt aW ∧ Int32.toInt aW ≤ 63) (aAH : 0 ≤ Int32.toInt dO ∧ Int32.toInt dO ≤ 65535) (zY : ∀ k : Nat, 0 ≤ Int32.toInt (sH k) ∧ Int32.toInt (sH k) ≤ 65535) (hn36 : 16 - Int32.toInt x4 ≤ n36) : ws_X10_pays_36 post next bT aG bW qG m_x gR pW qR nG oO pJ qO qQ x1 x2 x3 x4 bL bY jD m_length oF rP dQ bZ aR aE bI aW dO sW sH := by
  have l0 := aE0
  have l1 := aEc
  have l2 := li_17
  refine And.intro (fun c48 => ?_) (fun c48 => ?_)
  · skip
    have c48 := (aAO _ _).mp c48
    have q49 := xU (17 : Int32).toNatClampNeg (by have e9 : (17 : Int32).toNatClampNeg = (Int32.toInt (17 : Int32)).toNat := rfl; omega)
    intro v50 ev50
    have hv50 := congrArg Int32.toInt ev50
    refine And.intro (fun c52 => ?_) (fun c52 => ?_)
    · skip
      have c52 := mt (zJ _ _).mpr c52
      have q53 := xU (17 : Int32).toNatClampNeg (by have e9 : (17 : Int32).toNatClampNeg = (Int32.toInt (17 : Int32)).toNat := rfl; omega)
      intro v54 ev54
      have hv54 := congrArg Int32.toInt ev54
      refine t_X10_moveOf (by omega) aBK xT yD xZ (by omega) (by omega) (fun r55 h_r55 ox56 => ?_)
      have f57 := aAT x3
      exact ts_X10_pays_109 bT aG bW qG m_x gR pW qR nG oO pJ qO qQ xJ vZ zQ xU xV aAW xK yR zM xT yF yD xZ zG zI hc0 hc1 hpost x1 x2 x3 r55 0 bY jD m_length oF rP dQ bZ aR aE bI aW dO sW sH aBK aBN (by omega) (by omega) yG yM zE aAR aA1 aAA zT yL xQ yY yK aAH zY
    · skip
      have c52 := (zJ _ _).mp c52
      have f58 := aAT x3
      exact ts_X10_pays_109 bT aG bW qG m_x gR pW qR nG oO pJ qO qQ xJ vZ zQ xU xV aAW xK yR zM xT yF yD xZ zG zI hc0 hc1 hpost x1 x2 x3 0 0 bY jD m_length oF rP dQ bZ aR aE bI aW dO sW sH aBK aBN (by omega) (by omega) yG yM zE aAR aA1 aAA zT yL xQ yY yK aAH zY
  · skip
    have c48 := mt (aAO _ _).mpr c48
    intro v59 ev59
    have f60 := aRJ x2 x4 (by omega)
    have hv59 := congrArg Int32.toInt ev59
    intro v61 ev61
    have f62 := aAQ v59 1 (by omega)
    have f63 := aBx v59 1 (by omega)
    have hv61 := congrArg Int32.toInt ev61
    refine And.intro (fun c64 => ?_) (fun c64 => ?_)
    · skip
      have c64 := mt (zJ _ _).mpr c64
      refine And.intro (fun _ => ?_) (fun h9 => absurd h9 (by decide))
      have f65 := aAT x3
      exact ts_X10_pays_68 bT aG bW qG m_x gR pW qR nG oO pJ qO qQ xJ vZ zQ xU xV aAW xK yR zM xT yF yD xZ zG zI hc0 hc1 hpost hKn x1 x2 x4 x3 0 bL bY jD m_length oF rP dQ bZ aR aE bI aW dO sW sH aBK aBN (by omega) (by omega) yJ yG yM zE aAR aA1 aAA zT yL xQ yY yK aAH zY hn36
    · skip
      have c64 := (zJ _ _).mp c64
      refine And.intro (fun h9 => absurd h9 (by decide)) (fun _ => ?_)
      refine t_X10_secondsOf (by omega) aBK (by omega) (by omega) yM zE aAR aA1 aAA zQ zT yL xQ yY yK aAW xK yR xT yF zG zI (fun r76 m_read_66 m_length_67 m_top_68 m_at_69 m_wrong_70 m_isAsked_71 m_askedFruit_72 m_askedStanding_73 m_askedHook_74 m_askedApron_75 h_r76 h_m_read_66 h_m_length_67 h_m_top_68 h_m_at_69 h_m_wrong_70 h_m_isAsked_71 h_m_askedFruit_72 h_m_askedStanding_73 h_m_askedHook_74 h_m_askedApron_75 => ?_)
      have f77 := aAT x3
      exact ts_X10_pays_68 bT aG bW qG m_x gR pW qR nG oO pJ qO qQ xJ vZ zQ xU xV aAW xK yR zM xT yF yD xZ zG zI hc0 hc1 hpost hKn x1 x2 x4 x3 r76 bL bY m_read_66 m_length_67 m_top_68 m_at_69 m_wrong_70 m_isAsked_71 m_askedFruit_72 m_askedStanding_73 m_askedHook_74 m_askedApron_75 dO sW sH aBK aBN (by omega) (by omega) yJ yG h_m_read_66 h_m_length_67 h_m_top_68 h_m_at_69 h_m_wrong_70 h_m_isAsked_71 h_m_askedFruit_72 h_m_askedStanding_73 h_m_askedHook_74 h_m_askedApron_75 aAH zY hn36
set_option maxHeartbeats 8000000 in
set_option maxRecDepth 200000 in
theorem tb_X10_pays_36 {post : Int32 → Int32 → Int32 → Nat → Int32 → Int32 → Int32 → Int32 → Int32 → Int32 → Int32 → Int32 → Int32 → Int32 → (Nat → Int32) → (Nat → Int32) → Prop} {SB : Int} (bT aG bW : Int32) (qG m_x gR pW qR nG oO pJ qO qQ : Nat → Int32) (xJ : 0 ≤ Int32.toInt bT ∧ Int32.toInt bT ≤ 16) (vZ : 0 ≤ Int32.toInt aG ∧ Int32.toInt aG ≤ 8) (zQ : 0 ≤ Int32.toInt bW ∧ Int32.toInt bW ≤ 40) (xU : ∀ k : Nat, k = 17 → -1 ≤ Int32.toInt (qG k) ∧ Int32.toInt (qG k) ≤ SB) (xV : ∀ k : Nat, k = 19 → 0 ≤ Int32.toInt (qG k) ∧ Int32.toInt (qG k) ≤ 9) (aAW : ∀ k : Nat, 0 ≤ Int32.toInt (m_x k) ∧ Int32.toInt (m_x k) ≤ 99) (xK : ∀ k : Nat, 0 ≤ Int32.toInt (gR k) ∧ Int32.toInt (gR k) ≤ 99) (yR : ∀ k : Nat, 0 ≤ Int32.toInt (pW k) ∧ Int32.toInt (pW k) ≤ 9) (zM : ∀ k : Nat, 0 ≤ Int32.toInt (qR k) ∧ Int32.toInt (qR k) ≤ 9) (xT : ∀ k : Nat, 0 ≤ Int32.toInt (nG k) ∧ Int32.toInt (nG k) ≤ 99) (yF : ∀ k : Nat, 0 ≤ Int32.toInt (oO k) ∧ Int32.toInt (oO k) ≤ 99) (yD : ∀ k : Nat, k = 4 → 1 ≤ Int32.toInt (pJ k) ∧ Int32.toInt (pJ k) ≤ 30) (xZ : ∀ k : Nat, k = 3 → 0 ≤ Int32.toInt (pJ k) ∧ Int32.toInt (pJ k) ≤ 9) (zG : ∀ k : Nat, -128 ≤ Int32.toInt (qO k) ∧ Int32.toInt (qO k) ≤ 127) (zI : ∀ k : Nat, -128 ≤ Int32.toInt (qQ k) ∧ Int32.toInt (qQ k) ≤ 127) (hc0 : -1 ≤ SB ∧ SB ≤ 7) (hc1 : (Int32.toInt aG ≤ 0 ∧ SB = 0) ∨ (1 ≤ Int32.toInt aG ∧ SB = Int32.toInt aG - 1)) (hpost : ∀ (r : Int32) (xM : Int32) (xG : Int32) (aAP : Nat) (zS : Int32) (aAz : Int32) (aAm : Int32) (zH : Int32) (aAM : Int32) (zP : Int32) (yO : Int32) (zZ : Int32) (zO : Int32) (aAS : Int32) (aBX : Nat → Int32) (aA5 : Nat → Int32), (0 ≤ Int32.toInt xM ∧ Int32.toInt xM ≤ 16) → (0 ≤ Int32.toInt xG ∧ Int32.toInt xG ≤ 0) → (aAP = 0 ∨ aAP = 1 ∨ aAP = 2) → (0 ≤ Int32.toInt zS ∧ Int32.toInt zS ≤ 80) → (0 ≤ Int32.toInt aAz ∧ Int32.toInt aAz ≤ 80) → (0 ≤ Int32.toInt aAm ∧ Int32.toInt aAm ≤ 80) → (-1 ≤ Int32.toInt zH ∧ Int32.toInt zH ≤ 80) → (0 ≤ Int32.toInt aAM ∧ Int32.toInt aAM ≤ 0) → (0 ≤ Int32.toInt zP ∧ Int32.toInt zP ≤ 15) → (0 ≤ Int32.toInt yO ∧ Int32.toInt yO ≤ 7) → (0 ≤ Int32.toInt zZ ∧ Int32.toInt zZ ≤ 1) → (0 ≤ Int32.toInt zO ∧ Int32.toInt zO ≤ 63) → (0 ≤ Int32.toInt aAS ∧ Int32.toInt aAS ≤ 65535) → (∀ k : Nat, 0 ≤ Int32.toInt (aA5 k) ∧ Int32.toInt (aA5 k) ≤ 65535) → post r xM xG aAP zS aAz aAm zH aAM zP yO zZ zO aAS aBX aA5) : ∀ (n : Nat) (x1 x2 x3 x4 bL bY : Int32) (jD : Nat) (m_length oF rP dQ bZ aR aE bI aW dO : Int32) (sW sH : Nat → Int32), (0 ≤ Int32.toInt x1 ∧ Int32.toInt x1 ≤ 7) → (0 ≤ Int32.toInt x2 ∧ Int32.toInt x2 ≤ 65535) → (0 ≤ Int32.toInt x4 ∧ Int32.toInt x4 ≤ 16) → (0 ≤ Int32.toInt bL ∧ Int32.toInt bL ≤ 16) → (0 ≤ Int32.toInt bY ∧ Int32.toInt bY ≤ 0) → (jD = 0 ∨ jD = 1 ∨ jD = 2) → (0 ≤ Int32.toInt m_length ∧ Int32.toInt m_length ≤ 80) → (0 ≤ Int32.toInt oF ∧ Int32.toInt oF ≤ 80) → (0 ≤ Int32.toInt rP ∧ Int32.toInt rP ≤ 80) → (-1 ≤ Int32.toInt dQ ∧ Int32.toInt dQ ≤ 80) → (0 ≤ Int32.toInt bZ ∧ Int32.toInt bZ ≤ 0) → (0 ≤ Int32.toInt aR ∧ Int32.toInt aR ≤ 15) → (0 ≤ Int32.toInt aE ∧ Int32.toInt aE ≤ 7) → (0 ≤ Int32.toInt bI ∧ Int32.toInt bI ≤ 1) → (0 ≤ Int32.toInt aW ∧ Int32.toInt aW ≤ 63) → (0 ≤ Int32.toInt dO ∧ Int32.toInt dO ≤ 65535) → (∀ k : Nat, 0 ≤ Int32.toInt (sH k) ∧ Int32.toInt (sH k) ≤ 65535) → (16 - Int32.toInt x4 < (n : Int)) → wb_X10_pays_36 post bT aG bW qG m_x gR pW qR nG oO pJ qO qQ n x1 x2 x3 x4 bL bY jD m_length oF rP dQ bZ aR aE bI aW dO sW sH := by
  intro n
  induction n with
  | zero =>
    intro x1 x2 x3 x4 bL bY jD m_length oF rP dQ bZ aR aE bI aW dO sW sH aBK aBN aDO yJ yG yM zE aAR aA1 aAA zT yL xQ yY yK aAH zY hm
    exfalso; omega
  | succ n ih =>
    intro x1 x2 x3 x4 bL bY jD m_length oF rP dQ bZ aR aE bI aW dO sW sH aBK aBN aDO yJ yG yM zE aAR aA1 aAA zT yL xQ yY yK aAH zY hm
    exact ts_X10_pays_36 bT aG bW qG m_x gR pW qR nG oO pJ qO qQ xJ vZ zQ xU xV aAW xK yR zM xT yF yD xZ zG zI hc0 hc1 hpost ih x1 x2 x3 x4 bL bY jD m_length oF rP dQ bZ aR aE bI aW dO sW sH aBK aBN aDO yJ yG yM zE aAR aA1 aAA zT yL xQ yY yK aAH zY (by omega)
set_option maxHeartbeats 8000000 in
set_option maxRecDepth 200000 in
theorem t_X10_pays {post : Int32 → Int32 → Int32 → Nat → Int32 → Int32 → Int32 → Int32 → Int32 → Int32 → Int32 → Int32 → Int32 → Int32 → (Nat → Int32) → (Nat → Int32) → Prop} {SB : Int} {p0 bT aG bL bY : Int32} {jD : Nat} {m_length oF rP dQ bW bZ aR aE bI aW dO : Int32} {qG m_x gR pW qR nG oO pJ qO sW qQ sH : Nat → Int32} (xJ : 0 ≤ Int32.toInt bT ∧ Int32.toInt bT ≤ 16) (vZ : 0 ≤ Int32.toInt aG ∧ Int32.toInt aG ≤ 8) (yJ : 0 ≤ Int32.toInt bL ∧ Int32.toInt bL ≤ 16) (yG : 0 ≤ Int32.toInt bY ∧ Int32.toInt bY ≤ 1) (yM : jD = 0 ∨ jD = 1 ∨ jD = 2) (zE : 0 ≤ Int32.toInt m_length ∧ Int32.toInt m_length ≤ 80) (aAR : 0 ≤ Int32.toInt oF ∧ Int32.toInt oF ≤ 80) (aA1 : 0 ≤ Int32.toInt rP ∧ Int32.toInt rP ≤ 80) (aAA : -1 ≤ Int32.toInt dQ ∧ Int32.toInt dQ ≤ 80) (zQ : 0 ≤ Int32.toInt bW ∧ Int32.toInt bW ≤ 40) (zT : 0 ≤ Int32.toInt bZ ∧ Int32.toInt bZ ≤ 0) (yL : 0 ≤ Int32.toInt aR ∧ Int32.toInt aR ≤ 15) (xQ : 0 ≤ Int32.toInt aE ∧ Int32.toInt aE ≤ 7) (yY : 0 ≤ Int32.toInt bI ∧ Int32.toInt bI ≤ 1) (yK : 0 ≤ Int32.toInt aW ∧ Int32.toInt aW ≤ 63) (aAH : 0 ≤ Int32.toInt dO ∧ Int32.toInt dO ≤ 65535) (xU : ∀ k : Nat, k = 17 → -1 ≤ Int32.toInt (qG k) ∧ Int32.toInt (qG k) ≤ SB) (xV : ∀ k : Nat, k = 19 → 0 ≤ Int32.toInt (qG k) ∧ Int32.toInt (qG k) ≤ 9) (aAW : ∀ k : Nat, 0 ≤ Int32.toInt (m_x k) ∧ Int32.toInt (m_x k) ≤ 99) (xK : ∀ k : Nat, 0 ≤ Int32.toInt (gR k) ∧ Int32.toInt (gR k) ≤ 99) (yR : ∀ k : Nat, 0 ≤ Int32.toInt (pW k) ∧ Int32.toInt (pW k) ≤ 9) (zM : ∀ k : Nat, 0 ≤ Int32.toInt (qR k) ∧ Int32.toInt (qR k) ≤ 9) (xT : ∀ k : Nat, 0 ≤ Int32.toInt (nG k) ∧ Int32.toInt (nG k) ≤ 99) (yF : ∀ k : Nat, 0 ≤ Int32.toInt (oO k) ∧ Int32.toInt (oO k) ≤ 99) (yD : ∀ k : Nat, k = 4 → 1 ≤ Int32.toInt (pJ k) ∧ Int32.toInt (pJ k) ≤ 30) (xZ : ∀ k : Nat, k = 3 → 0 ≤ Int32.toInt (pJ k) ∧ Int32.toInt (pJ k) ≤ 9) (zG : ∀ k : Nat, -128 ≤ Int32.toInt (qO k) ∧ Int32.toInt (qO k) ≤ 127) (zI : ∀ k : Nat, -128 ≤ Int32.toInt (qQ k) ∧ Int32.toInt (qQ k) ≤ 127) (zY : ∀ k : Nat, 0 ≤ Int32.toInt (sH k) ∧ Int32.toInt (sH k) ≤ 65535) (hc0 : -1 ≤ SB ∧ SB ≤ 7) (hc1 : (Int32.toInt aG ≤ 0 ∧ SB = 0) ∨ (1 ≤ Int32.toInt aG ∧ SB = Int32.toInt aG - 1)) (hpost : ∀ (r : Int32) (xM : Int32) (xG : Int32) (aAP : Nat) (zS : Int32) (aAz : Int32) (aAm : Int32) (zH : Int32) (aAM : Int32) (zP : Int32) (yO : Int32) (zZ : Int32) (zO : Int32) (aAS : Int32) (aBX : Nat → Int32) (aA5 : Nat → Int32), (0 ≤ Int32.toInt xM ∧ Int32.toInt xM ≤ 16) → (0 ≤ Int32.toInt xG ∧ Int32.toInt xG ≤ 0) → (aAP = 0 ∨ aAP = 1 ∨ aAP = 2) → (0 ≤ Int32.toInt zS ∧ Int32.toInt zS ≤ 80) → (0 ≤ Int32.toInt aAz ∧ Int32.toInt aAz ≤ 80) → (0 ≤ Int32.toInt aAm ∧ Int32.toInt aAm ≤ 80) → (-1 ≤ Int32.toInt zH ∧ Int32.toInt zH ≤ 80) → (0 ≤ Int32.toInt aAM ∧ Int32.toInt aAM ≤ 0) → (0 ≤ Int32.toInt zP ∧ Int32.toInt zP ≤ 15) → (0 ≤ Int32.toInt yO ∧ Int32.toInt yO ≤ 7) → (0 ≤ Int32.toInt zZ ∧ Int32.toInt zZ ≤ 1) → (0 ≤ Int32.toInt zO ∧ Int32.toInt zO ≤ 63) → (0 ≤ Int32.toInt aAS ∧ Int32.toInt aAS ≤ 65535) → (∀ k : Nat, 0 ≤ Int32.toInt (aA5 k) ∧ Int32.toInt (aA5 k) ≤ 65535) → post r xM xG aAP zS aAz aAm zH aAM zP yO zZ zO aAS aBX aA5) : wp_X10_pays post p0 bT aG bL bY jD m_length oF rP dQ bW bZ aR aE bI aW dO qG m_x gR pW qR nG oO pJ qO sW qQ sH := by
  have l0 := aE0
  have l1 := aEc
  have l2 := li_18
  intro v78 ev78
  have f79 : Int32.toInt (aG - 1) = Int32.toInt aG - Int32.toInt (1 : Int32) := aCA _ _ (by omega)
  rw [← ev78] at f79
  have f81 := aAT p0
  refine And.intro (fun c80 => ?_) (fun c80 => ?_)
  · skip
    have c80 := (aAd _ _).mp c80
    refine And.intro (aHE (by omega)) ?_
    refine And.intro (fun h9 => absurd h9 (by decide)) (fun _ => ?_)
    exact hpost _ _ _ _ _ _ _ _ _ _ _ _ _ _ _ _ yJ (by omega) yM zE aAR aA1 aAA zT yL xQ yY yK aAH zY
  · skip
    have c80 := mt (aAd _ _).mpr c80
    refine And.intro (fun c82 => ?_) (fun c82 => ?_)
    · skip
      have c82 := (aAd _ _).mp c82
      refine And.intro (aHE (by omega)) ?_
      refine And.intro (fun h9 => absurd h9 (by decide)) (fun _ => ?_)
      exact hpost _ _ _ _ _ _ _ _ _ _ _ _ _ _ _ _ yJ (by omega) yM zE aAR aA1 aAA zT yL xQ yY yK aAH zY
    · skip
      have c82 := mt (aAd _ _).mpr c82
      refine And.intro (aHE (by omega)) ?_
      refine And.intro (fun _ => ?_) (fun h9 => absurd h9 (by decide))
      intro v83 ev83
      have hv83 := congrArg Int32.toInt ev83
      refine aLb xJ vZ aAH xU xV aAW xK zM xT yF yD xZ zY (by omega) (by omega) (fun m_wanted_85 m_hand_86 h_m_wanted_85 h_m_hand_86 => ?_)
      refine And.intro (aBZ (by omega)) ?_
      intro v87 ev87
      have f89 := h_m_hand_86 p0.toNatClampNeg
      have f88 := aAQ m_wanted_85 (m_hand_86 p0.toNatClampNeg) (by omega)
      have f90 := aBx m_wanted_85 (m_hand_86 p0.toNatClampNeg) (by omega)
      have hv87 := congrArg Int32.toInt ev87
      exact ⟨18, tb_X10_pays_36 bT aG bW qG m_x gR pW qR nG oO pJ qO qQ xJ vZ zQ xU xV aAW xK yR zM xT yF yD xZ zG zI hc0 hc1 hpost _ p0 v87 0 0 bL 0 jD m_length oF rP dQ bZ aR aE bI aW m_wanted_85 sW m_hand_86 (by omega) (by omega) (by omega) yJ (by omega) yM zE aAR aA1 aAA zT yL xQ yY yK h_m_wanted_85 h_m_hand_86 (by omega)⟩
