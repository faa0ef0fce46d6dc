set_option maxHeartbeats 8000000 in
set_option maxRecDepth 200000 in
theorem t_X10_shake {post : Int32 → Int32 → Int32 → (Nat → Int32) → (Nat → Int32) → Prop} {SB : Int} {bT bY bU : Int32} {qG m_x gR qR nG oO pJ uL : Nat → Int32} (xJ : 0 ≤ Int32.toInt bT ∧ Int32.toInt bT ≤ 16) (yG : 0 ≤ Int32.toInt bY ∧ Int32.toInt bY ≤ 1) (aAZ : 0 ≤ Int32.toInt bU ∧ Int32.toInt bU ≤ 12) (xU : ∀ k : Nat, k = 17 → -1 ≤ Int32.toInt (qG k) ∧ Int32.toInt (qG k) ≤ SB) (xV : ∀ k : Nat, k = 19 → 0 ≤ Int32.toInt (qG k) ∧ Int32.toInt (qG k) ≤ 9) (aAW : ∀ k : Nat, 0 ≤ Int32.toInt (m_x k) ∧ Int32.toInt (m_x k) ≤ 99) (xK : ∀ k : Nat, 0 ≤ Int32.toInt (gR k) ∧ Int32.toInt (gR k) ≤ 99) (zM : ∀ k : Nat, 0 ≤ Int32.toInt (qR k) ∧ Int32.toInt (qR k) ≤ 9) (xT : ∀ k : Nat, 0 ≤ Int32.toInt (nG k) ∧ Int32.toInt (nG k) ≤ 99) (yF : ∀ k : Nat, 0 ≤ Int32.toInt (oO k) ∧ Int32.toInt (oO k) ≤ 99) (yD : ∀ k : Nat, k = 4 → 1 ≤ Int32.toInt (pJ k) ∧ Int32.toInt (pJ k) ≤ 30) (xZ : ∀ k : Nat, k = 3 → 0 ≤ Int32.toInt (pJ k) ∧ Int32.toInt (pJ k) ≤ 9) (aAo : ∀ k : Nat, k % 21 = 17 → -1 ≤ Int32.toInt (uL k) ∧ Int32.toInt (uL k) ≤ SB) (aAp : ∀ k : Nat, k % 21 = 19 → 0 ≤ Int32.toInt (uL k) ∧ Int32.toInt (uL k) ≤ 9) (hc0 : -1 ≤ SB ∧ SB ≤ 7) (hpost : ∀ (r : Int32) (xG : Int32) (aBI : Int32) (aBf : Nat → Int32) (aBl : Nat → Int32), (-2 ≤ Int32.toInt r ∧ Int32.toInt r ≤ 63) → (0 ≤ Int32.toInt xG ∧ Int32.toInt xG ≤ 0) → (0 ≤ Int32.toInt aBI ∧ Int32.toInt aBI ≤ 12) → (∀ k : Nat, k = 17 → -1 ≤ Int32.toInt (aBf k) ∧ Int32.toInt (aBf k) ≤ SB) → (∀ k : Nat, k = 19 → 0 ≤ Int32.toInt (aBf k) ∧ Int32.toInt (aBf k) ≤ 9) → (∀ k : Nat, k % 21 = 17 → -1 ≤ Int32.toInt (aBl k) ∧ Int32.toInt (aBl k) ≤ SB) → (∀ k : Nat, k % 21 = 19 → 0 ≤ Int32.toInt (aBl k) ∧ Int32.toInt (aBl k) ≤ 9) → post r xG aBI aBf aBl) : wp_X10_shake post bT bY bU qG m_x gR qR nG oO pJ uL := by
  have l0 := aI2
  have l1 := li_m2
  have l2 := aE0
  have l3 := li_17
  have q1 := xU (17 : Int32).toNatClampNeg (by have e9 : (17 : Int32).toNatClampNeg = (Int32.toInt (17 : Int32)).toNat := rfl; omega)
  intro v2 ev2
  have hv2 := congrArg Int32.toInt ev2
  refine And.intro (fun c4 => ?_) (fun c4 => ?_)
  · skip
    have c4 := mt (zJ _ _).mpr c4
    refine t_X10_remember aAZ xU xV aAo aAp (by omega) (fun m_undoMany_5 m_undos_6 h_m_undoMany_5 e0_m_undos_6 e1_m_undos_6 => ?_)
    refine t_X10_goShake xJ xU xV aAW xK zM xT yF yD xZ (by omega) (by omega) (fun r8 m_now_7 h_r8 e0_m_now_7 e1_m_now_7 => ?_)
    exact hpost _ _ _ _ _ (by omega) (by omega) (by omega) e0_m_now_7 e1_m_now_7 e0_m_undos_6 e1_m_undos_6
  · skip
    have c4 := (zJ _ _).mp c4
    exact hpost _ _ _ _ _ (by omega) (by omega) aAZ xU xV aAo aAp
set_option maxHeartbeats 8000000 in
set_option maxRecDepth 200000 in
theorem t_X10_sleep {post : Int32 → Int32 → Int32 → (Nat → Int32) → (Nat → Int32) → Prop} {SB : Int} {bT bY bU : Int32} {qG uL : Nat → Int32} (xJ : 0 ≤ Int32.toInt bT ∧ Int32.toInt bT ≤ 16) (yG : 0 ≤ Int32.toInt bY ∧ Int32.toInt bY ≤ 1) (aAZ : 0 ≤ Int32.toInt bU ∧ Int32.toInt bU ≤ 12) (xU : ∀ k : Nat, k = 17 → -1 ≤ Int32.toInt (qG k) ∧ Int32.toInt (qG k) ≤ SB) (xV : ∀ k : Nat, k = 19 → 0 ≤ Int32.toInt (qG k) ∧ Int32.toInt (qG k) ≤ 9) (aAo : ∀ k : Nat, k % 21 = 17 → -1 ≤ Int32.toInt (uL k) ∧ Int32.toInt (uL k) ≤ SB) (aAp : ∀ k : Nat, k % 21 = 19 → 0 ≤ Int32.toInt (uL k) ∧ Int32.toInt (uL k) ≤ 9) (hc0 : -1 ≤ SB ∧ SB ≤ 7) (hpost : ∀ (r : Int32) (xG : Int32) (aBI : Int32) (aBf : Nat → Int32) (aBl : Nat → Int32), (-1 ≤ Int32.toInt r ∧ Int32.toInt r ≤ 9) → (0 ≤ Int32.toInt xG ∧ Int32.toInt xG ≤ 0) → (0 ≤ Int32.toInt aBI ∧ Int32.toInt aBI ≤ 12) → (∀ k : Nat, k = 17 → -1 ≤ Int32.toInt (aBf k) ∧ Int32.toInt (aBf k) ≤ SB) → (∀ k : Nat, k = 19 → 0 ≤ Int32.toInt (aBf k) ∧ Int32.toInt (aBf k) ≤ 9) → (∀ k : Nat, k % 21 = 17 → -1 ≤ Int32.toInt (aBl k) ∧ Int32.toInt (aBl k) ≤ SB) → (∀ k : Nat, k % 21 = 19 → 0 ≤ Int32.toInt (aBl k) ∧ Int32.toInt (aBl k) ≤ 9) → post r xG aBI aBf aBl) : wp_X10_sleep post bT bY bU qG uL := by
  have l0 := aI2
  have l1 := aE0
  have l2 := aEc
  have l3 := li_17
  have l4 := li_19
  have l5 := li_20
  have l6 := li_9
  have q1 := xV (19 : Int32).toNatClampNeg (by have e9 : (19 : Int32).toNatClampNeg = (Int32.toInt (19 : Int32)).toNat := rfl; omega)
  intro v2 ev2
  have hv2 := congrArg Int32.toInt ev2
  refine And.intro (fun c4 => ?_) (fun c4 => ?_)
  · skip
    have c4 := mt (zJ _ _).mpr c4
    refine t_X10_remember aAZ xU xV aAo aAp (by omega) (fun m_undoMany_5 m_undos_6 h_m_undoMany_5 e0_m_undos_6 e1_m_undos_6 => ?_)
    refine t_X10_empty xJ xU xV (by omega) (fun r8 m_now_7 e0_m_now_7 e1_m_now_7 ox9 => ?_)
    have e10 : ∀ k : Nat, k = 17 → -1 ≤ Int32.toInt ((upd m_now_7 (17 : Int32).toNatClampNeg (-1)) k) ∧ Int32.toInt ((upd m_now_7 (17 : Int32).toNatClampNeg (-1)) k) ≤ SB := aCJ (C := fun k => k = 17) e0_m_now_7 (fun hk => by have e9 : (17 : Int32).toNatClampNeg = (Int32.toInt (17 : Int32)).toNat := rfl; have hk : (17 : Int32).toNatClampNeg = 17 := hk; omega)
    have e11 : ∀ k : Nat, k = 19 → 0 ≤ Int32.toInt ((upd m_now_7 (17 : Int32).toNatClampNeg (-1)) k) ∧ Int32.toInt ((upd m_now_7 (17 : Int32).toNatClampNeg (-1)) k) ≤ 9 := aCJ (C := fun k => k = 19) e1_m_now_7 (fun hk => by have e9 : (17 : Int32).toNatClampNeg = (Int32.toInt (17 : Int32)).toNat := rfl; have hk : (17 : Int32).toNatClampNeg = 19 := hk; omega)
    have e12 : ∀ k : Nat, k = 17 → -1 ≤ Int32.toInt ((upd (upd m_now_7 (17 : Int32).toNatClampNeg (-1)) (20 : Int32).toNatClampNeg 0) k) ∧ Int32.toInt ((upd (upd m_now_7 (17 : Int32).toNatClampNeg (-1)) (20 : Int32).toNatClampNeg 0) k) ≤ SB := aCJ (C := fun k => k = 17) e10 (fun hk => by have e9 : (20 : Int32).toNatClampNeg = (Int32.toInt (20 : Int32)).toNat := rfl; have hk : (20 : Int32).toNatClampNeg = 17 := hk; omega)
    have e13 : ∀ k : Nat, k = 19 → 0 ≤ Int32.toInt ((upd (upd m_now_7 (17 : Int32).toNatClampNeg (-1)) (20 : Int32).toNatClampNeg 0) k) ∧ Int32.toInt ((upd (upd m_now_7 (17 : Int32).toNatClampNeg (-1)) (20 : Int32).toNatClampNeg 0) k) ≤ 9 := aCJ (C := fun k => k = 19) e11 (fun hk => by have e9 : (20 : Int32).toNatClampNeg = (Int32.toInt (20 : Int32)).toNat := rfl; have hk : (20 : Int32).toNatClampNeg = 19 := hk; omega)
    have q14 := e13 (19 : Int32).toNatClampNeg (by have e9 : (19 : Int32).toNatClampNeg = (Int32.toInt (19 : Int32)).toNat := rfl; omega)
    intro v15 ev15
    have hv15 := congrArg Int32.toInt ev15
    have j17 : Int32.toInt v15 = Int32.toInt (qG (19 : Int32).toNatClampNeg) := by rw [ev15]; exact congrArg Int32.toInt (gs_19 (by assumption))
    intro v18 ev18
    have f19 : Int32.toInt (v15 + 1) = Int32.toInt v15 + Int32.toInt (1 : Int32) := aAD _ _ (by omega)
    rw [← ev18] at f19
    have e20 : ∀ k : Nat, k = 17 → -1 ≤ Int32.toInt ((upd (upd (upd m_now_7 (17 : Int32).toNatClampNeg (-1)) (20 : Int32).toNatClampNeg 0) (19 : Int32).toNatClampNeg v18) k) ∧ Int32.toInt ((upd (upd (upd m_now_7 (17 : Int32).toNatClampNeg (-1)) (20 : Int32).toNatClampNeg 0) (19 : Int32).toNatClampNeg v18) k) ≤ SB := aCJ (C := fun k => k = 17) e12 (fun hk => by have e9 : (19 : Int32).toNatClampNeg = (Int32.toInt (19 : Int32)).toNat := rfl; have hk : (19 : Int32).toNatClampNeg = 17 := hk; omega)
    have e21 : ∀ k : Nat, k = 19 → 0 ≤ Int32.toInt ((upd (upd (upd m_now_7 (17 : Int32).toNatClampNeg (-1)) (20 : Int32).toNatClampNeg 0) (19 : Int32).toNatClampNeg v18) k) ∧ Int32.toInt ((upd (upd (upd m_now_7 (17 : Int32).toNatClampNeg (-1)) (20 : Int32).toNatClampNeg 0) (19 : Int32).toNatClampNeg v18) k) ≤ 9 := aCJ (C := fun k => k = 19) e13 (fun hk => by have e9 : (19 : Int32).toNatClampNeg = (Int32.toInt (19 : Int32)).toNat := rfl; have hk : (19 : Int32).toNatClampNeg = 19 := hk; omega)
    have q22 := e21 (19 : Int32).toNatClampNeg (by have e9 : (19 : Int32).toNatClampNeg = (Int32.toInt (19 : Int32)).toNat := rfl; omega)
    intro v23 ev23
    have hv23 := congrArg Int32.toInt ev23
    exact hpost _ _ _ _ _ (by omega) (by omega) (by omega) e20 e21 e0_m_undos_6 e1_m_undos_6
  · skip
    have c4 := (zJ _ _).mp c4
    exact hpost _ _ _ _ _ (by omega) (by omega) aAZ xU xV aAo aAp
set_option maxHeartbeats 8000000 in
set_option maxRecDepth 200000 in
theorem ts_X10_readAct_109 {post : Int32 → Int32 → (Nat → Int32) → Prop} {aLe : Int32} (jD : Nat) (m_length oF : Int32) (qO qQ : Nat → Int32) (yM : jD = 1) (zE : 0 ≤ Int32.toInt m_length ∧ Int32.toInt m_length ≤ 80) (aAR : 60 ≤ Int32.toInt oF ∧ Int32.toInt oF ≤ 60) (zG : ∀ k : Nat, -128 ≤ Int32.toInt (qO k) ∧ Int32.toInt (qO k) ≤ 127) (zI : ∀ k : Nat, -128 ≤ Int32.toInt (qQ k) ∧ Int32.toInt (qQ k) ≤ 127) (hpost : ∀ (aAm : Int32) (zH : Int32) (aIY : Nat → Int32), (0 ≤ Int32.toInt aAm ∧ Int32.toInt aAm ≤ 80) → (-1 ≤ Int32.toInt zH ∧ Int32.toInt zH ≤ 80) → (∀ k : Nat, -1 ≤ Int32.toInt (aIY k) ∧ Int32.toInt (aIY k) ≤ 255) → (Int32.toInt aLe + 1 ≤ Int32.toInt aAm) → (Int32.toInt aAm ≤ 61) → post aAm zH aIY) (x1 rP dQ : Int32) (wJ : Nat → Int32) (aBK : 0 ≤ Int32.toInt x1 ∧ Int32.toInt x1 ≤ 125) (aA1 : 0 ≤ Int32.toInt rP ∧ Int32.toInt rP ≤ 80) (aAA : -1 ≤ Int32.toInt dQ ∧ Int32.toInt dQ ≤ 80) (aB1 : ∀ k : Nat, -1 ≤ Int32.toInt (wJ k) ∧ Int32.toInt (wJ k) ≤ 255) (hx0 : Int32.toInt rP ≤ 61) (hx1 : Int32.toInt aLe + 1 ≤ Int32.toInt rP) : aEP post jD m_length oF qO qQ x1 rP dQ wJ := by
  have l0 := aEc
  have l1 := li_2
  intro v1 ev1
  have f2 : Int32.toInt (x1 + 1) = Int32.toInt x1 + Int32.toInt (1 : Int32) := aAD _ _ (by omega)
  rw [← ev1] at f2
  refine aXA (by omega) (by first | exact yM | exact Or.inl rfl | exact Or.inr rfl | omega) zE (by omega) aA1 aAA zG zI (by omega) (fun r5 m_at_3 m_wrong_4 h_r5 h_m_at_3 h_m_wrong_4 ox6 ox7 ox8 ox9 => ?_)
  refine And.intro (aBZ (by omega)) ?_
  have a10 : ∀ k : Nat, -1 ≤ Int32.toInt ((upd wJ v1.toNatClampNeg r5) k) ∧ Int32.toInt ((upd wJ v1.toNatClampNeg r5) k) ≤ 255 := t_upd (fun k => by have q9 := aB1 k; omega) (by omega)
  exact hpost _ _ _ h_m_at_3 h_m_wrong_4 (fun k => by have q9 := a10 k; omega) (by omega) (by omega)
set_option maxHeartbeats 8000000 in
set_option maxRecDepth 200000 in
theorem ts_X10_readAct_97 {post : Int32 → Int32 → (Nat → Int32) → Prop} {aLe : Int32} (jD : Nat) (m_length oF : Int32) (qO qQ : Nat → Int32) (yM : jD = 1) (zE : 0 ≤ Int32.toInt m_length ∧ Int32.toInt m_length ≤ 80) (aAR : 60 ≤ Int32.toInt oF ∧ Int32.toInt oF ≤ 60) (zG : ∀ k : Nat, -128 ≤ Int32.toInt (qO k) ∧ Int32.toInt (qO k) ≤ 127) (zI : ∀ k : Nat, -128 ≤ Int32.toInt (qQ k) ∧ Int32.toInt (qQ k) ≤ 127) (hpost : ∀ (aAm : Int32) (zH : Int32) (aIY : Nat → Int32), (0 ≤ Int32.toInt aAm ∧ Int32.toInt aAm ≤ 80) → (-1 ≤ Int32.toInt zH ∧ Int32.toInt zH ≤ 80) → (∀ k : Nat, -1 ≤ Int32.toInt (aIY k) ∧ Int32.toInt (aIY k) ≤ 255) → (Int32.toInt aLe + 1 ≤ Int32.toInt aAm) → (Int32.toInt aAm ≤ 61) → post aAm zH aIY) (x1 x2 rP dQ : Int32) (wJ : Nat → Int32) (aBK : 0 ≤ Int32.toInt x1 ∧ Int32.toInt x1 ≤ 125) (aBN : -1 ≤ Int32.toInt x2 ∧ Int32.toInt x2 ≤ 255) (aA1 : 0 ≤ Int32.toInt rP ∧ Int32.toInt rP ≤ 80) (aAA : -1 ≤ Int32.toInt dQ ∧ Int32.toInt dQ ≤ 80) (aB1 : ∀ k : Nat, -1 ≤ Int32.toInt (wJ k) ∧ Int32.toInt (wJ k) ≤ 255) (hx0 : Int32.toInt rP ≤ 61) (hx1 : Int32.toInt aLe + 1 ≤ Int32.toInt rP) : aJ6 post jD m_length oF qO qQ x1 x2 rP dQ wJ := by
  have l0 := li_104
  have l1 := li_112
  refine And.intro (fun c11 => ?_) (fun c11 => ?_)
  · skip
    have c11 := (zJ _ _).mp c11
    exact ts_X10_readAct_109 jD m_length oF qO qQ yM zE aAR zG zI hpost x1 rP dQ wJ aBK aA1 aAA aB1 hx0 hx1
  · skip
    have c11 := mt (zJ _ _).mpr c11
    refine And.intro (fun c12 => ?_) (fun c12 => ?_)
    · skip
      have c12 := mt (zJ _ _).mpr c12
      exact hpost _ _ _ aA1 aAA aB1 (by omega) (by omega)
    · skip
      have c12 := (zJ _ _).mp c12
      exact ts_X10_readAct_109 jD m_length oF qO qQ yM zE aAR zG zI hpost x1 rP dQ wJ aBK aA1 aAA aB1 hx0 hx1
set_option maxHeartbeats 8000000 in
set_option maxRecDepth 200000 in
theorem bBN {post : Int32 → Int32 → (Nat → Int32) → Prop} {aLe : Int32} (jD : Nat) (m_length oF : Int32) (qO qQ : Nat → Int32) (yM : jD = 1) (zE : 0 ≤ Int32.toInt m_length ∧ Int32.toInt m_length ≤ 80) (aAR : 60 ≤ Int32.toInt oF ∧ Int32.toInt oF ≤ 60) (zG : ∀ k : Nat, -128 ≤ Int32.toInt (qO k) ∧ Int32.toInt (qO k) ≤ 127) (zI : ∀ k : Nat, -128 ≤ Int32.toInt (qQ k) ∧ Int32.toInt (qQ k) ≤ 127) (hpost : ∀ (aAm : Int32) (zH : Int32) (aIY : Nat → Int32), (0 ≤ Int32.toInt aAm ∧ Int32.toInt aAm ≤ 80) → (-1 ≤ Int32.toInt zH ∧ Int32.toInt zH ≤ 80) → (∀ k : Nat, -1 ≤ Int32.toInt (aIY k) ∧ Int32.toInt (aIY k) ≤ 255) → (Int32.toInt aLe + 1 ≤ Int32.toInt aAm) → (Int32.toInt aAm ≤ 61) → post aAm zH aIY) (x1 x2 rP dQ : Int32) (wJ : Nat → Int32) (aBK : 0 ≤ Int32.toInt x1 ∧ Int32.toInt x1 ≤ 125) (aBN : -1 ≤ Int32.toInt x2 ∧ Int32.toInt x2 ≤ 255) (aA1 : 0 ≤ Int32.toInt rP ∧ Int32.toInt rP ≤ 80) (aAA : -1 ≤ Int32.toInt dQ ∧ Int32.toInt dQ ≤ 80) (aB1 : ∀ k : Nat, -1 ≤ Int32.toInt (wJ k) ∧ Int32.toInt (wJ k) ≤ 255) (hx0 : Int32.toInt rP ≤ 60) (hx1 : Int32.toInt aLe ≤ Int32.toInt rP) : aJJ post jD m_length oF qO qQ x1 x2 rP dQ wJ := by
  have l0 := aEc
  have l1 := li_109
  intro v13 ev13
  have f14 : Int32.toInt (rP + 1) = Int32.toInt rP + Int32.toInt (1 : Int32) := aAD _ _ (by omega)
  rw [← ev13] at f14
  refine And.intro (aBZ (by omega)) ?_
  have a15 : ∀ k : Nat, -1 ≤ Int32.toInt ((upd wJ x1.toNatClampNeg x2) k) ∧ Int32.toInt ((upd wJ x1.toNatClampNeg x2) k) ≤ 255 := t_upd (fun k => by have q9 := aB1 k; omega) (by omega)
  refine And.intro (fun c16 => ?_) (fun c16 => ?_)
  · skip
    have c16 := mt (zJ _ _).mpr c16
    exact ts_X10_readAct_97 jD m_length oF qO qQ yM zE aAR zG zI hpost x1 x2 v13 dQ (upd wJ x1.toNatClampNeg x2) aBK aBN (by omega) aAA (fun k => by have q9 := a15 k; omega) (by omega) (by omega)
  · skip
    have c16 := (zJ _ _).mp c16
    intro v17 ev17
    have f18 : Int32.toInt (x1 + 1) = Int32.toInt x1 + Int32.toInt (1 : Int32) := aAD _ _ (by omega)
    rw [← ev17] at f18
    refine aXA (by omega) (by first | exact yM | exact Or.inl rfl | exact Or.inr rfl | omega) zE (by omega) (by omega) aAA zG zI (by omega) (fun r21 m_at_19 m_wrong_20 h_r21 h_m_at_19 h_m_wrong_20 ox22 ox23 ox24 ox25 => ?_)
    refine And.intro (aBZ (by omega)) ?_
    have a26 : ∀ k : Nat, -1 ≤ Int32.toInt ((upd (upd wJ x1.toNatClampNeg x2) v17.toNatClampNeg r21) k) ∧ Int32.toInt ((upd (upd wJ x1.toNatClampNeg x2) v17.toNatClampNeg r21) k) ≤ 255 := t_upd (fun k => by have q9 := a15 k; omega) (by omega)
    exact ts_X10_readAct_97 jD m_length oF qO qQ yM zE aAR zG zI hpost x1 x2 m_at_19 m_wrong_20 (upd (upd wJ x1.toNatClampNeg x2) v17.toNatClampNeg r21) aBK aBN h_m_at_19 h_m_wrong_20 (fun k => by have q9 := a26 k; omega) (by omega) (by omega)
set_option maxHeartbeats 8000000 in
set_option maxRecDepth 200000 in
theorem t_X10_readAct {post : Int32 → Int32 → (Nat → Int32) → Prop} {p0 : Int32} {jD : Nat} {m_length oF rP dQ : Int32} {qO qQ wJ : Nat → Int32} (h_p0 : 0 ≤ Int32.toInt p0 ∧ Int32.toInt p0 ≤ 125) (yM : jD = 1) (zE : 0 ≤ Int32.toInt m_length ∧ Int32.toInt m_length ≤ 80) (aAR : 60 ≤ Int32.toInt oF ∧ Int32.toInt oF ≤ 60) (aA1 : 0 ≤ Int32.toInt rP ∧ Int32.toInt rP ≤ 80) (aAA : -1 ≤ Int32.toInt dQ ∧ Int32.toInt dQ ≤ -1) (zG : ∀ k : Nat, -128 ≤ Int32.toInt (qO k) ∧ Int32.toInt (qO k) ≤ 127) (zI : ∀ k : Nat, -128 ≤ Int32.toInt (qQ k) ∧ Int32.toInt (qQ k) ≤ 127) (aB1 : ∀ k : Nat, -1 ≤ Int32.toInt (wJ k) ∧ Int32.toInt (wJ k) ≤ 255) (hx0 : Int32.toInt rP ≤ 60) (hpost : ∀ (aAm : Int32) (zH : Int32) (aIY : Nat → Int32), (0 ≤ Int32.toInt aAm ∧ Int32.toInt aAm ≤ 80) → (-1 ≤ Int32.toInt zH ∧ Int32.toInt zH ≤ 80) → (∀ k : Nat, -1 ≤ Int32.toInt (aIY k) ∧ Int32.toInt (aIY k) ≤ 255) → (Int32.toInt rP + 1 ≤ Int32.toInt aAm) → (Int32.toInt aAm ≤ 61) → post aAm zH aIY) : wp_X10_readAct post p0 jD m_length oF rP dQ qO qQ wJ := by
  have l0 := aI2
  have l1 := li_100
  have l2 := li_104
  have l3 := li_107
  have l4 := li_109
  have l5 := li_111
  have l6 := li_112
  have l7 := li_122
  have l8 := li_97
  refine aOq (by first | exact yM | exact Or.inl rfl | exact Or.inr rfl | omega) zE (by omega) aA1 zG zI (by omega) (fun r27 h_r27 ox28 ox29 => ?_)
  refine And.intro (fun c30 => ?_) (fun c30 => ?_)
  · skip
    have c30 := (zJ _ _).mp c30
    exact bBN jD m_length oF qO qQ yM zE aAR zG zI hpost p0 r27 rP dQ wJ h_p0 h_r27 aA1 (by omega) aB1 (by omega) (by omega)
  · skip
    have c30 := mt (zJ _ _).mpr c30
    refine And.intro (fun c31 => ?_) (fun c31 => ?_)
    · skip
      have c31 := (zJ _ _).mp c31
      exact bBN jD m_length oF qO qQ yM zE aAR zG zI hpost p0 r27 rP dQ wJ h_p0 h_r27 aA1 (by omega) aB1 (by omega) (by omega)
    · skip
      have c31 := mt (zJ _ _).mpr c31
      refine And.intro (fun c32 => ?_) (fun c32 => ?_)
      · skip
        have c32 := (zJ _ _).mp c32
        exact bBN jD m_length oF qO qQ yM zE aAR zG zI hpost p0 r27 rP dQ wJ h_p0 h_r27 aA1 (by omega) aB1 (by omega) (by omega)
      · skip
        have c32 := mt (zJ _ _).mpr c32
        refine And.intro (fun c33 => ?_) (fun c33 => ?_)
        · skip
          have c33 := (zJ _ _).mp c33
          exact bBN jD m_length oF qO qQ yM zE aAR zG zI hpost p0 r27 rP dQ wJ h_p0 h_r27 aA1 (by omega) aB1 (by omega) (by omega)
        · skip
          have c33 := mt (zJ _ _).mpr c33
          refine And.intro (fun c34 => ?_) (fun c34 => ?_)
          · skip
            have c34 := (zJ _ _).mp c34
            exact bBN jD m_length oF qO qQ yM zE aAR zG zI hpost p0 r27 rP dQ wJ h_p0 h_r27 aA1 (by omega) aB1 (by omega) (by omega)
          · skip
            have c34 := mt (zJ _ _).mpr c34
            refine And.intro (fun c35 => ?_) (fun c35 => ?_)
            · skip
              have c35 := (zJ _ _).mp c35
              exact bBN jD m_length oF qO qQ yM zE aAR zG zI hpost p0 r27 rP dQ wJ h_p0 h_r27 aA1 (by omega) aB1 (by omega) (by omega)
            · skip
              have c35 := mt (zJ _ _).mpr c35
              refine And.intro (fun c36 => ?_) (fun c36 => ?_)
              · skip
                have c36 := (zJ _ _).mp c36
                exact bBN jD m_length oF qO qQ yM zE aAR zG zI hpost p0 r27 rP dQ wJ h_p0 h_r27 aA1 (by omega) aB1 (by omega) (by omega)
              · skip
                have c36 := mt (zJ _ _).mpr c36
                refine And.intro (fun c37 => ?_) (fun c37 => ?_)
                · skip
                  have c37 := (zJ _ _).mp c37
                  exact bBN jD m_length oF qO qQ yM zE aAR zG zI hpost p0 r27 rP dQ wJ h_p0 h_r27 aA1 (by omega) aB1 (by omega) (by omega)
                · skip
                  have c37 := mt (zJ _ _).mpr c37
                  refine And.intro (fun c38 => ?_) (fun c38 => ?_)
                  · skip
                    have c38 := mt (zJ _ _).mpr c38
                    exfalso; omega
                  · skip
                    have c38 := (zJ _ _).mp c38
                    refine And.intro (fun h9 => absurd h9 (by decide)) (fun _ => ?_)
                    exact bBN jD m_length oF qO qQ yM zE aAR zG zI hpost p0 r27 rP rP wJ h_p0 h_r27 aA1 (by omega) aB1 (by omega) (by omega)
set_option maxHeartbeats 8000000 in
set_option maxRecDepth 200000 in
theorem ts_X10_lay_b2_2 {post : (Nat → Int32) → Prop} {SB : Int} {next : Int32 → Int32 → (Nat → Int32) → Prop} {n2 : Int} (qG : Nat → Int32) (xU : ∀ k : Nat, k = 17 → -1 ≤ Int32.toInt (qG k) ∧ Int32.toInt (qG k) ≤ SB) (xV : ∀ k : Nat, k = 19 → 0 ≤ Int32.toInt (qG k) ∧ Int32.toInt (qG k) ≤ 9) (hc0 : -1 ≤ SB ∧ SB ≤ 7) (hpost : ∀ (aDy : Nat → Int32), (∀ k : Nat, k = 17 → -1 ≤ Int32.toInt (aDy k) ∧ Int32.toInt (aDy k) ≤ SB) → (∀ k : Nat, k = 19 → 0 ≤ Int32.toInt (aDy k) ∧ Int32.toInt (aDy k) ≤ 9) → post aDy) (hKn : ∀ (x2 : Int32) (x3 : Int32) (vF : Nat → Int32), (0 ≤ Int32.toInt x2 ∧ Int32.toInt x2 ≤ 0) → (0 ≤ Int32.toInt x3 ∧ Int32.toInt x3 ≤ 21) → (∀ k : Nat, k = 17 → -1 ≤ Int32.toInt (vF k) ∧ Int32.toInt (vF k) ≤ SB) → (∀ k : Nat, k = 19 → 0 ≤ Int32.toInt (vF k) ∧ Int32.toInt (vF k) ≤ 9) → (Int32.toInt x2 % 21 = 0) → (21 - Int32.toInt x3 < n2) → next x2 x3 vF) (x2 x3 : Int32) (vF : Nat → Int32) (aBN : 0 ≤ Int32.toInt x2 ∧ Int32.toInt x2 ≤ 0) (aCH : 0 ≤ Int32.toInt x3 ∧ Int32.toInt x3 ≤ 21) (aBP : ∀ k : Nat, k = 17 → -1 ≤ Int32.toInt (vF k) ∧ Int32.toInt (vF k) ≤ SB) (aBQ : ∀ k : Nat, k = 19 → 0 ≤ Int32.toInt (vF k) ∧ Int32.toInt (vF k) ≤ 9) (hx0 : Int32.toInt x2 % 21 = 0) (hn2 : 21 - Int32.toInt x3 ≤ n2) : ws_X10_lay_b2_2 post next qG x2 x3 vF := by
  have l0 := aEc
  have l1 := li_21
  refine And.intro (fun c1 => ?_) (fun c1 => ?_)
  · skip
    have c1 := (aAO _ _).mp c1
    exact hpost _ aBP aBQ
  · skip
    have c1 := mt (aAO _ _).mpr c1
    intro v2 ev2
    have f3 : Int32.toInt (x2 + x3) = Int32.toInt x2 + Int32.toInt x3 := aAD _ _ (by omega)
    rw [← ev2] at f3
    refine And.intro (aBZ (by omega)) ?_
    have q4 := xU x3.toNatClampNeg
    have q5 := xV x3.toNatClampNeg
    have q6 : x3.toNatClampNeg = (Int32.toInt x3).toNat := rfl
    intro v7 ev7
    have hv7 := congrArg Int32.toInt ev7
    refine And.intro (aBZ (by omega)) ?_
    have f10 := aAT v7
    have e9 : ∀ k : Nat, k = 17 → -1 ≤ Int32.toInt ((upd vF v2.toNatClampNeg v7) k) ∧ Int32.toInt ((upd vF v2.toNatClampNeg v7) k) ≤ SB := aCJ (C := fun k => k = 17) aBP (fun hk => by have e9 : v2.toNatClampNeg = (Int32.toInt v2).toNat := rfl; have hk : v2.toNatClampNeg = 17 := hk; omega)
    have e11 : ∀ k : Nat, k = 19 → 0 ≤ Int32.toInt ((upd vF v2.toNatClampNeg v7) k) ∧ Int32.toInt ((upd vF v2.toNatClampNeg v7) k) ≤ 9 := aCJ (C := fun k => k = 19) aBQ (fun hk => by have e9 : v2.toNatClampNeg = (Int32.toInt v2).toNat := rfl; have hk : v2.toNatClampNeg = 19 := hk; omega)
    intro v12 ev12
    have f13 : Int32.toInt (x3 + 1) = Int32.toInt x3 + Int32.toInt (1 : Int32) := aAD _ _ (by omega)
    rw [← ev12] at f13
    exact hKn x2 v12 (upd vF v2.toNatClampNeg v7) aBN (by omega) e9 e11 hx0 (by omega)
set_option maxHeartbeats 8000000 in
set_option maxRecDepth 200000 in
theorem tb_X10_lay_b2_2 {post : (Nat → Int32) → Prop} {SB : Int} (qG : Nat → Int32) (xU : ∀ k : Nat, k = 17 → -1 ≤ Int32.toInt (qG k) ∧ Int32.toInt (qG k) ≤ SB) (xV : ∀ k : Nat, k = 19 → 0 ≤ Int32.toInt (qG k) ∧ Int32.toInt (qG k) ≤ 9) (hc0 : -1 ≤ SB ∧ SB ≤ 7) (hpost : ∀ (aDy : Nat → Int32), (∀ k : Nat, k = 17 → -1 ≤ Int32.toInt (aDy k) ∧ Int32.toInt (aDy k) ≤ SB) → (∀ k : Nat, k = 19 → 0 ≤ Int32.toInt (aDy k) ∧ Int32.toInt (aDy k) ≤ 9) → post aDy) : ∀ (n : Nat) (x2 x3 : Int32) (vF : Nat → Int32), (0 ≤ Int32.toInt x2 ∧ Int32.toInt x2 ≤ 0) → (0 ≤ Int32.toInt x3 ∧ Int32.toInt x3 ≤ 21) → (∀ k : Nat, k = 17 → -1 ≤ Int32.toInt (vF k) ∧ Int32.toInt (vF k) ≤ SB) → (∀ k : Nat, k = 19 → 0 ≤ Int32.toInt (vF k) ∧ Int32.toInt (vF k) ≤ 9) → (Int32.toInt x2 % 21 = 0) → (21 - Int32.toInt x3 < (n : Int)) → wb_X10_lay_b2_2 post qG n x2 x3 vF := by
  intro n
  induction n with
  | zero =>
    intro x2 x3 vF aBN aCH aBP aBQ hx0 hm
    exfalso; omega
  | succ n ih =>
    intro x2 x3 vF aBN aCH aBP aBQ hx0 hm
    exact ts_X10_lay_b2_2 qG xU xV hc0 hpost ih x2 x3 vF aBN aCH aBP aBQ hx0 (by omega)
set_option maxHeartbeats 8000000 in
set_option maxRecDepth 200000 in
theorem t_X10_lay_b2 {post : (Nat → Int32) → Prop} {SB : Int} {p2 : Int32} {qG vF : Nat → Int32} (h_p2 : 0 ≤ Int32.toInt p2 ∧ Int32.toInt p2 ≤ 0) (xU : ∀ k : Nat, k = 17 → -1 ≤ Int32.toInt (qG k) ∧ Int32.toInt (qG k) ≤ SB) (xV : ∀ k : Nat, k = 19 → 0 ≤ Int32.toInt (qG k) ∧ Int32.toInt (qG k) ≤ 9) (aBP : ∀ k : Nat, k = 17 → -1 ≤ Int32.toInt (vF k) ∧ Int32.toInt (vF k) ≤ SB) (aBQ : ∀ k : Nat, k = 19 → 0 ≤ Int32.toInt (vF k) ∧ Int32.toInt (vF k) ≤ 9) (hc0 : -1 ≤ SB ∧ SB ≤ 7) (hx0 : Int32.toInt p2 % 21 = 0) (hpost : ∀ (aDy : Nat → Int32), (∀ k : Nat, k = 17 → -1 ≤ Int32.toInt (aDy k) ∧ Int32.toInt (aDy k) ≤ SB) → (∀ k : Nat, k = 19 → 0 ≤ Int32.toInt (aDy k) ∧ Int32.toInt (aDy k) ≤ 9) → post aDy) : wp_X10_lay_b2 post p2 qG vF := by
  have l0 := aE0
  exact ⟨23, tb_X10_lay_b2_2 qG xU xV hc0 hpost _ p2 0 vF h_p2 (by omega) aBP aBQ (by omega) (by omega)⟩
set_option maxHeartbeats 8000000 in
set_option maxRecDepth 200000 in
theorem ts_X10_act_109 {post : Int32 → Nat → Int32 → Int32 → Int32 → Int32 → Int32 → Int32 → Int32 → Int32 → Int32 → Int32 → (Nat → Int32) → Prop} {SB : Int} (bT aG bW : Int32) (m_x gR pW qR nG oO pJ qO qQ : Nat → Int32) (xJ : 0 ≤ Int32.toInt bT ∧ Int32.toInt bT ≤ 16) (vZ : 0 ≤ Int32.toInt aG ∧ Int32.toInt aG ≤ 8) (zQ : 0 ≤ Int32.toInt bW ∧ Int32.toInt bW ≤ 40) (aAW : ∀ k : Nat, 0 ≤ Int32.toInt (m_x k) ∧ Int32.toInt (m_x k) ≤ 99) (xK : ∀ k : Nat, 0 ≤ Int32.toInt (gR k) ∧ Int32.toInt (gR k) ≤ 99) (yR : ∀ k : Nat, 0 ≤ Int32.toInt (pW k) ∧ Int32.toInt (pW k) ≤ 9) (zM : ∀ k : Nat, 0 ≤ Int32.toInt (qR k) ∧ Int32.toInt (qR k) ≤ 9) (xT : ∀ k : Nat, 0 ≤ Int32.toInt (nG k) ∧ Int32.toInt (nG k) ≤ 99) (yF : ∀ k : Nat, 0 ≤ Int32.toInt (oO k) ∧ Int32.toInt (oO k) ≤ 99) (yD : ∀ k : Nat, k = 4 → 1 ≤ Int32.toInt (pJ k) ∧ Int32.toInt (pJ k) ≤ 30) (xZ : ∀ k : Nat, k = 3 → 0 ≤ Int32.toInt (pJ k) ∧ Int32.toInt (pJ k) ≤ 9) (zG : ∀ k : Nat, -128 ≤ Int32.toInt (qO k) ∧ Int32.toInt (qO k) ≤ 127) (zI : ∀ k : Nat, -128 ≤ Int32.toInt (qQ k) ∧ Int32.toInt (qQ k) ≤ 127) (hc0 : -1 ≤ SB ∧ SB ≤ 7) (hc1 : (Int32.toInt aG ≤ 0 ∧ SB = 0) ∨ (1 ≤ Int32.toInt aG ∧ SB = Int32.toInt aG - 1)) (hpost : ∀ (r : Int32) (aAP : Nat) (zS : Int32) (aAz : Int32) (aAm : Int32) (zH : Int32) (aAM : Int32) (zP : Int32) (yO : Int32) (zZ : Int32) (zO : Int32) (aMk : Int32) (aBf : Nat → Int32), (0 ≤ Int32.toInt r ∧ Int32.toInt r ≤ 1) → (aAP = 0 ∨ aAP = 1 ∨ aAP = 2) → (0 ≤ Int32.toInt zS ∧ Int32.toInt zS ≤ 80) → (0 ≤ Int32.toInt aAz ∧ Int32.toInt aAz ≤ 80) → (0 ≤ Int32.toInt aAm ∧ Int32.toInt aAm ≤ 80) → (-1 ≤ Int32.toInt zH ∧ Int32.toInt zH ≤ 80) → (0 ≤ Int32.toInt aAM ∧ Int32.toInt aAM ≤ 0) → (0 ≤ Int32.toInt zP ∧ Int32.toInt zP ≤ 15) → (0 ≤ Int32.toInt yO ∧ Int32.toInt yO ≤ 7) → (0 ≤ Int32.toInt zZ ∧ Int32.toInt zZ ≤ 1) → (0 ≤ Int32.toInt zO ∧ Int32.toInt zO ≤ 63) → (∀ k : Nat, k = 17 → -1 ≤ Int32.toInt (aBf k) ∧ Int32.toInt (aBf k) ≤ SB) → (∀ k : Nat, k = 19 → 0 ≤ Int32.toInt (aBf k) ∧ Int32.toInt (aBf k) ≤ 9) → post r aAP zS aAz aAm zH aAM zP yO zZ zO aMk aBf) (x2 k0 : Int32) (jD : Nat) (m_length oF rP dQ bZ aR aE bI aW fJ : Int32) (qG : Nat → Int32) (aBN : -1 ≤ Int32.toInt x2 ∧ Int32.toInt x2 ≤ 255) (h_k0 : 0 ≤ Int32.toInt k0 ∧ Int32.toInt k0 ≤ 1) (yM : jD = 0 ∨ jD = 1 ∨ jD = 2) (zE : 0 ≤ Int32.toInt m_length ∧ Int32.toInt m_length ≤ 80) (aAR : 0 ≤ Int32.toInt oF ∧ Int32.toInt oF ≤ 80) (aA1 : 0 ≤ Int32.toInt rP ∧ Int32.toInt rP ≤ 80) (aAA : -1 ≤ Int32.toInt dQ ∧ Int32.toInt dQ ≤ 80) (zT : 0 ≤ Int32.toInt bZ ∧ Int32.toInt bZ ≤ 0) (yL : 0 ≤ Int32.toInt aR ∧ Int32.toInt aR ≤ 15) (xQ : 0 ≤ Int32.toInt aE ∧ Int32.toInt aE ≤ 7) (yY : 0 ≤ Int32.toInt bI ∧ Int32.toInt bI ≤ 1) (yK : 0 ≤ Int32.toInt aW ∧ Int32.toInt aW ≤ 63) (xU : ∀ k : Nat, k = 17 → -1 ≤ Int32.toInt (qG k) ∧ Int32.toInt (qG k) ≤ SB) (xV : ∀ k : Nat, k = 19 → 0 ≤ Int32.toInt (qG k) ∧ Int32.toInt (qG k) ≤ 9) : ws_X10_act_109 post bT aG bW m_x gR pW qR nG oO pJ qO qQ x2 k0 jD m_length oF rP dQ bZ aR aE bI aW fJ qG := by
  have l0 := aI2
  have l1 := aE0
  have l2 := aEc
  have l3 := aKH
  have l4 := li_16
  have l5 := li_17
  have l6 := li_18
  have l7 := li_19
  have l8 := li_2
  have l9 := li_20
  have l10 := aJ8
  have l11 := li_4
  have l12 := li_63
  have l13 := aJ9
  have l14 := li_9999
  intro v1 ev1
  have f2 : Int32.toInt (bT - 1) = Int32.toInt bT - Int32.toInt (1 : Int32) := aCA _ _ (by omega)
  rw [← ev1] at f2
  refine And.intro (fun c3 => ?_) (fun c3 => ?_)
  · skip
    have c3 := (aAd _ _).mp c3
    refine And.intro (aHE (by omega)) ?_
    refine And.intro (fun _ => ?_) (fun h9 => absurd h9 (by decide))
    refine And.intro (fun h9 => absurd h9 (by decide)) (fun _ => ?_)
    exact hpost _ _ _ _ _ _ _ _ _ _ _ _ _ (by omega) yM zE aAR aA1 aAA zT yL xQ yY yK xU xV
  · skip
    have c3 := mt (aAd _ _).mpr c3
    refine And.intro (fun c4 => ?_) (fun c4 => ?_)
    · skip
      have c4 := (aAd _ _).mp c4
      refine And.intro (aHE (by omega)) ?_
      refine And.intro (fun _ => ?_) (fun h9 => absurd h9 (by decide))
      refine And.intro (fun h9 => absurd h9 (by decide)) (fun _ => ?_)
      exact hpost _ _ _ _ _ _ _ _ _ _ _ _ _ (by omega) yM zE aAR aA1 aAA zT yL xQ yY yK xU xV
    · skip
      have c4 := mt (aAd _ _).mpr c4
      refine And.intro (aHE (by omega)) ?_
      refine And.intro (fun h9 => absurd h9 (by decide)) (fun _ => ?_)
      refine And.intro (fun c5 => ?_) (fun c5 => ?_)
      · skip
        have c5 := (aAd _ _).mp c5
        exfalso; omega
      · skip
        have c5 := mt (aAd _ _).mpr c5
        refine And.intro (fun c6 => ?_) (fun c6 => ?_)
        · skip
          have c6 := (aAd _ _).mp c6
          exfalso; omega
        · skip
          have c6 := mt (aAd _ _).mpr c6
          refine And.intro (fun _ => ?_) (fun h9 => absurd h9 (by decide))
          refine And.intro (aBZ (by omega)) ?_
          refine And.intro (fun c7 => ?_) (fun c7 => ?_)
          · skip
            have c7 := (zJ _ _).mp c7
            refine And.intro (aBZ (by omega)) ?_
            intro v9 ev9
            have f10 := zM x2.toNatClampNeg
            have hv9 := congrArg Int32.toInt ev9
            have q11 := xV (19 : Int32).toNatClampNeg (by have e9 : (19 : Int32).toNatClampNeg = (Int32.toInt (19 : Int32)).toNat := rfl; omega)
            refine And.intro (fun c12 => ?_) (fun c12 => ?_)
            · skip
              have c12 := (aAO _ _).mp c12
              have q14 := xU (17 : Int32).toNatClampNeg (by have e9 : (17 : Int32).toNatClampNeg = (Int32.toInt (17 : Int32)).toNat := rfl; omega)
              intro v15 ev15
              have hv15 := congrArg Int32.toInt ev15
              refine And.intro (fun c17 => ?_) (fun c17 => ?_)
              · skip
                have c17 := (zJ _ _).mp c17
                refine And.intro (fun h9 => absurd h9 (by decide)) (fun _ => ?_)
                exact hpost _ _ _ _ _ _ _ _ _ _ _ _ _ (by omega) yM zE aAR aA1 aAA zT yL xQ yY yK xU xV
              · skip
                have c17 := mt (zJ _ _).mpr c17
                have q18 := xU (17 : Int32).toNatClampNeg (by have e9 : (17 : Int32).toNatClampNeg = (Int32.toInt (17 : Int32)).toNat := rfl; omega)
                intro v19 ev19
                have hv19 := congrArg Int32.toInt ev19
                intro v20 ev20
                have hv20 := congrArg Int32.toInt ev20
                intro v22 ev22
                have hv22 := congrArg Int32.toInt ev22
                intro v24 ev24
                have hv24 := congrArg Int32.toInt ev24
                refine And.intro (aBZ (by omega)) ?_
                intro v26 ev26
                have f27 := aAW x2.toNatClampNeg
                have hv26 := congrArg Int32.toInt ev26
                refine And.intro (aBZ (by omega)) ?_
                intro v28 ev28
                have f30 := xT v19.toNatClampNeg
                have f29 : Int32.toInt (v26 - (nG v19.toNatClampNeg)) = Int32.toInt v26 - Int32.toInt (nG v19.toNatClampNeg) := aCA _ _ (by omega)
                rw [← ev28] at f29
                intro v31 ev31
                have f32 := ti_abs v28 (by omega)
                have hv31 := congrArg Int32.toInt ev31
                refine And.intro (aBZ (by omega)) ?_
                intro v33 ev33
                have hv33 := congrArg Int32.toInt ev33
                refine And.intro (aBZ (by omega)) ?_
                intro v34 ev34
                have f35 : Int32.toInt (v33 - (nG v19.toNatClampNeg)) = Int32.toInt v33 - Int32.toInt (nG v19.toNatClampNeg) := aCA _ _ (by omega)
                rw [← ev34] at f35
                intro v36 ev36
                have f37 := ti_abs v34 (by omega)
                have hv36 := congrArg Int32.toInt ev36
                intro v38 ev38
                have hv38 := congrArg Int32.toInt ev38
                refine And.intro (aBZ (by omega)) ?_
                intro v40 ev40
                have f41 := xK x2.toNatClampNeg
                have hv40 := congrArg Int32.toInt ev40
                refine And.intro (aBZ (by omega)) ?_
                intro v42 ev42
                have f44 := yF v19.toNatClampNeg
                have f43 : Int32.toInt (v40 - (oO v19.toNatClampNeg)) = Int32.toInt v40 - Int32.toInt (oO v19.toNatClampNeg) := aCA _ _ (by omega)
                rw [← ev42] at f43
                intro v45 ev45
                have f46 := ti_max (0 : Int32) v42
                have hv45 := congrArg Int32.toInt ev45
                refine And.intro (aBZ (by omega)) ?_
                intro v47 ev47
                have hv47 := congrArg Int32.toInt ev47
                refine And.intro (aBZ (by omega)) ?_
                intro v48 ev48
                have f49 : Int32.toInt (v47 - (oO v19.toNatClampNeg)) = Int32.toInt v47 - Int32.toInt (oO v19.toNatClampNeg) := aCA _ _ (by omega)
                rw [← ev48] at f49
                intro v50 ev50
                have f51 := ti_max (0 : Int32) v48
                have hv50 := congrArg Int32.toInt ev50
                intro v52 ev52
                have hv52 := congrArg Int32.toInt ev52
                have f55 := aAT v52
                refine And.intro (fun c54 => ?_) (fun c54 => ?_)
                · skip
                  have c54 := (aAd _ _).mp c54
                  refine And.intro (fun h9 => absurd h9 (by decide)) (fun _ => ?_)
                  refine And.intro (fun h9 => absurd h9 (by decide)) (fun _ => ?_)
                  exact hpost _ _ _ _ _ _ _ _ _ _ _ _ _ (by omega) yM zE aAR aA1 aAA zT yL xQ yY yK xU xV
                · skip
                  have c54 := mt (aAd _ _).mpr c54
                  refine And.intro (fun _ => ?_) (fun h9 => absurd h9 (by decide))
                  refine aKO (by omega) xJ xU xV (by omega) (fun r57 h_r57 ox58 => ?_)
                  intro v59 ev59
                  intro v60 ev60
                  have f62 := aAQ v59 1431655765 (by omega)
                  have f61 : Int32.toInt (r57 - (v59 &&& 1431655765)) = Int32.toInt r57 - Int32.toInt (v59 &&& 1431655765) := aCA _ _ (by omega)
                  rw [← ev60] at f61
                  intro v63 ev63
                  have f64 := aAQ v60 858993459 (by omega)
                  have hv63 := congrArg Int32.toInt ev63
                  intro v65 ev65
                  intro v66 ev66
                  have f68 := aAQ v65 858993459 (by omega)
                  have f67 : Int32.toInt (v63 + (v65 &&& 858993459)) = Int32.toInt v63 + Int32.toInt (v65 &&& 858993459) := aAD _ _ (by omega)
                  rw [← ev66] at f67
                  intro v69 ev69
                  have hv69 := congrArg Int32.toInt ev69
                  intro v71 ev71
                  have f72 := aAQ v69 252645135 (by omega)
                  have hv71 := congrArg Int32.toInt ev71
                  intro v73 ev73
                  have hv73 := congrArg Int32.toInt ev73
                  intro v75 ev75
                  have hv75 := congrArg Int32.toInt ev75
                  have q77 := yD (4 : Int32).toNatClampNeg (by have e9 : (4 : Int32).toNatClampNeg = (Int32.toInt (4 : Int32)).toNat := rfl; omega)
                  have f79 := aAQ v75 63 (by omega)
                  refine And.intro (fun c78 => ?_) (fun c78 => ?_)
                  · skip
                    have c78 := (aAd _ _).mp c78
                    refine And.intro (fun _ => ?_) (fun h9 => absurd h9 (by decide))
                    have q81 := xU (17 : Int32).toNatClampNeg (by have e9 : (17 : Int32).toNatClampNeg = (Int32.toInt (17 : Int32)).toNat := rfl; omega)
                    intro v82 ev82
                    have hv82 := congrArg Int32.toInt ev82
                    refine aKO (by omega) xJ xU xV (by omega) (fun r83 h_r83 ox84 => ?_)
                    intro v85 ev85
                    intro v86 ev86
                    have f88 := aAQ v85 1431655765 (by omega)
                    have f87 : Int32.toInt (r83 - (v85 &&& 1431655765)) = Int32.toInt r83 - Int32.toInt (v85 &&& 1431655765) := aCA _ _ (by omega)
                    rw [← ev86] at f87
                    intro v89 ev89
                    have f90 := aAQ v86 858993459 (by omega)
                    have hv89 := congrArg Int32.toInt ev89
                    intro v91 ev91
                    intro v92 ev92
                    have f94 := aAQ v91 858993459 (by omega)
                    have f93 : Int32.toInt (v89 + (v91 &&& 858993459)) = Int32.toInt v89 + Int32.toInt (v91 &&& 858993459) := aAD _ _ (by omega)
                    rw [← ev92] at f93
                    intro v95 ev95
                    have hv95 := congrArg Int32.toInt ev95
                    intro v97 ev97
                    have f98 := aAQ v95 252645135 (by omega)
                    have hv97 := congrArg Int32.toInt ev97
                    intro v99 ev99
                    have hv99 := congrArg Int32.toInt ev99
                    intro v101 ev101
                    have hv101 := congrArg Int32.toInt ev101
                    have f114 := aAQ v101 63 (by omega)
                    refine t_X10_secondsOf (by omega) (by omega) h_k0 (by omega) yM zE aAR aA1 aAA zQ zT yL xQ yY yK aAW xK yR xT yF zG zI (fun r113 m_read_103 m_length_104 m_top_105 m_at_106 m_wrong_107 m_isAsked_108 m_askedFruit_109 m_askedStanding_110 m_askedHook_111 m_askedApron_112 h_r113 h_m_read_103 h_m_length_104 h_m_top_105 h_m_at_106 h_m_wrong_107 h_m_isAsked_108 h_m_askedFruit_109 h_m_askedStanding_110 h_m_askedHook_111 h_m_askedApron_112 => ?_)
                    intro v115 ev115
                    have hv115 := congrArg Int32.toInt ev115
                    refine aKO (by omega) xJ xU xV (by omega) (fun r117 h_r117 ox118 => ?_)
                    refine t_X10_below (by omega) h_r117 xJ aAW xK (fun r119 h_r119 => ?_)
                    intro v120 ev120
                    have f122 := aAT v120
                    have e121 : ∀ k : Nat, k = 17 → -1 ≤ Int32.toInt ((upd qG (16 : Int32).toNatClampNeg v120) k) ∧ Int32.toInt ((upd qG (16 : Int32).toNatClampNeg v120) k) ≤ SB := aCJ (C := fun k => k = 17) xU (fun hk => by have e9 : (16 : Int32).toNatClampNeg = (Int32.toInt (16 : Int32)).toNat := rfl; have hk : (16 : Int32).toNatClampNeg = 17 := hk; omega)
                    have e123 : ∀ k : Nat, k = 19 → 0 ≤ Int32.toInt ((upd qG (16 : Int32).toNatClampNeg v120) k) ∧ Int32.toInt ((upd qG (16 : Int32).toNatClampNeg v120) k) ≤ 9 := aCJ (C := fun k => k = 19) xV (fun hk => by have e9 : (16 : Int32).toNatClampNeg = (Int32.toInt (16 : Int32)).toNat := rfl; have hk : (16 : Int32).toNatClampNeg = 19 := hk; omega)
                    refine And.intro (aBZ (by omega)) ?_
                    have e124 : ∀ k : Nat, k = 17 → -1 ≤ Int32.toInt ((upd (upd qG (16 : Int32).toNatClampNeg v120) x2.toNatClampNeg 1) k) ∧ Int32.toInt ((upd (upd qG (16 : Int32).toNatClampNeg v120) x2.toNatClampNeg 1) k) ≤ SB := aCJ (C := fun k => k = 17) e121 (fun hk => by have e9 : x2.toNatClampNeg = (Int32.toInt x2).toNat := rfl; have hk : x2.toNatClampNeg = 17 := hk; omega)
                    have e125 : ∀ k : Nat, k = 19 → 0 ≤ Int32.toInt ((upd (upd qG (16 : Int32).toNatClampNeg v120) x2.toNatClampNeg 1) k) ∧ Int32.toInt ((upd (upd qG (16 : Int32).toNatClampNeg v120) x2.toNatClampNeg 1) k) ≤ 9 := aCJ (C := fun k => k = 19) e123 (fun hk => by have e9 : x2.toNatClampNeg = (Int32.toInt x2).toNat := rfl; have hk : x2.toNatClampNeg = 19 := hk; omega)
                    intro v126 ev126
                    have hv126 := congrArg Int32.toInt ev126
                    intro v128 ev128
                    have hv128 := congrArg Int32.toInt ev128
                    intro v130 ev130
                    have f131 := aAT (if v128 < 9999 then v128 else 9999)
                    have f133 := aAT v128
                    have f132 := ti_min (9999 : Int32) v128
                    have hv130 := congrArg Int32.toInt ev130
                    have f135 := aAT v130
                    have e134 : ∀ k : Nat, k = 17 → -1 ≤ Int32.toInt ((upd (upd (upd qG (16 : Int32).toNatClampNeg v120) x2.toNatClampNeg 1) (20 : Int32).toNatClampNeg v130) k) ∧ Int32.toInt ((upd (upd (upd qG (16 : Int32).toNatClampNeg v120) x2.toNatClampNeg 1) (20 : Int32).toNatClampNeg v130) k) ≤ SB := aCJ (C := fun k => k = 17) e124 (fun hk => by have e9 : (20 : Int32).toNatClampNeg = (Int32.toInt (20 : Int32)).toNat := rfl; have hk : (20 : Int32).toNatClampNeg = 17 := hk; omega)
                    have e136 : ∀ k : Nat, k = 19 → 0 ≤ Int32.toInt ((upd (upd (upd qG (16 : Int32).toNatClampNeg v120) x2.toNatClampNeg 1) (20 : Int32).toNatClampNeg v130) k) ∧ Int32.toInt ((upd (upd (upd qG (16 : Int32).toNatClampNeg v120) x2.toNatClampNeg 1) (20 : Int32).toNatClampNeg v130) k) ≤ 9 := aCJ (C := fun k => k = 19) e125 (fun hk => by have e9 : (20 : Int32).toNatClampNeg = (Int32.toInt (20 : Int32)).toNat := rfl; have hk : (20 : Int32).toNatClampNeg = 19 := hk; omega)
                    intro v137 ev137
                    have hv137 := congrArg Int32.toInt ev137
                    exact hpost _ _ _ _ _ _ _ _ _ _ _ _ _ (by omega) h_m_read_103 h_m_length_104 h_m_top_105 h_m_at_106 h_m_wrong_107 h_m_isAsked_108 h_m_askedFruit_109 h_m_askedStanding_110 h_m_askedHook_111 h_m_askedApron_112 e134 e136
                  · skip
                    have c78 := mt (aAd _ _).mpr c78
                    refine And.intro (fun h9 => absurd h9 (by decide)) (fun _ => ?_)
                    exact hpost _ _ _ _ _ _ _ _ _ _ _ _ _ (by omega) yM zE aAR aA1 aAA zT yL xQ yY yK xU xV
            · skip
              have c12 := mt (aAO _ _).mpr c12
              refine And.intro (fun h9 => absurd h9 (by decide)) (fun _ => ?_)
              exact hpost _ _ _ _ _ _ _ _ _ _ _ _ _ (by omega) yM zE aAR aA1 aAA zT yL xQ yY yK xU xV
          · skip
            have c7 := mt (zJ _ _).mpr c7
            refine And.intro (fun h9 => absurd h9 (by decide)) (fun _ => ?_)
            exact hpost _ _ _ _ _ _ _ _ _ _ _ _ _ (by omega) yM zE aAR aA1 aAA zT yL xQ yY yK xU xV
set_option maxHeartbeats 8000000 in
set_option maxRecDepth 200000 in
theorem ts_X10_act_98 {post : Int32 → Nat → Int32 → Int32 → Int32 → Int32 → Int32 → Int32 → Int32 → Int32 → Int32 → Int32 → (Nat → Int32) → Prop} {SB : Int} (bT aG bW : Int32) (m_x gR pW qR nG oO pJ qO qQ : Nat → Int32) (xJ : 0 ≤ Int32.toInt bT ∧ Int32.toInt bT ≤ 16) (vZ : 0 ≤ Int32.toInt aG ∧ Int32.toInt aG ≤ 8) (zQ : 0 ≤ Int32.toInt bW ∧ Int32.toInt bW ≤ 40) (aAW : ∀ k : Nat, 0 ≤ Int32.toInt (m_x k) ∧ Int32.toInt (m_x k) ≤ 99) (xK : ∀ k : Nat, 0 ≤ Int32.toInt (gR k) ∧ Int32.toInt (gR k) ≤ 99) (yR : ∀ k : Nat, 0 ≤ Int32.toInt (pW k) ∧ Int32.toInt (pW k) ≤ 9) (zM : ∀ k : Nat, 0 ≤ Int32.toInt (qR k) ∧ Int32.toInt (qR k) ≤ 9) (xT : ∀ k : Nat, 0 ≤ Int32.toInt (nG k) ∧ Int32.toInt (nG k) ≤ 99) (yF : ∀ k : Nat, 0 ≤ Int32.toInt (oO k) ∧ Int32.toInt (oO k) ≤ 99) (yD : ∀ k : Nat, k = 4 → 1 ≤ Int32.toInt (pJ k) ∧ Int32.toInt (pJ k) ≤ 30) (xZ : ∀ k : Nat, k = 3 → 0 ≤ Int32.toInt (pJ k) ∧ Int32.toInt (pJ k) ≤ 9) (zG : ∀ k : Nat, -128 ≤ Int32.toInt (qO k) ∧ Int32.toInt (qO k) ≤ 127) (zI : ∀ k : Nat, -128 ≤ Int32.toInt (qQ k) ∧ Int32.toInt (qQ k) ≤ 127) (hc0 : -1 ≤ SB ∧ SB ≤ 7) (hc1 : (Int32.toInt aG ≤ 0 ∧ SB = 0) ∨ (1 ≤ Int32.toInt aG ∧ SB = Int32.toInt aG - 1)) (hpost : ∀ (r : Int32) (aAP : Nat) (zS : Int32) (aAz : Int32) (aAm : Int32) (zH : Int32) (aAM : Int32) (zP : Int32) (yO : Int32) (zZ : Int32) (zO : Int32) (aMk : Int32) (aBf : Nat → Int32), (0 ≤ Int32.toInt r ∧ Int32.toInt r ≤ 1) → (aAP = 0 ∨ aAP = 1 ∨ aAP = 2) → (0 ≤ Int32.toInt zS ∧ Int32.toInt zS ≤ 80) → (0 ≤ Int32.toInt aAz ∧ Int32.toInt aAz ≤ 80) → (0 ≤ Int32.toInt aAm ∧ Int32.toInt aAm ≤ 80) → (-1 ≤ Int32.toInt zH ∧ Int32.toInt zH ≤ 80) → (0 ≤ Int32.toInt aAM ∧ Int32.toInt aAM ≤ 0) → (0 ≤ Int32.toInt zP ∧ Int32.toInt zP ≤ 15) → (0 ≤ Int32.toInt yO ∧ Int32.toInt yO ≤ 7) → (0 ≤ Int32.toInt zZ ∧ Int32.toInt zZ ≤ 1) → (0 ≤ Int32.toInt zO ∧ Int32.toInt zO ≤ 63) → (∀ k : Nat, k = 17 → -1 ≤ Int32.toInt (aBf k) ∧ Int32.toInt (aBf k) ≤ SB) → (∀ k : Nat, k = 19 → 0 ≤ Int32.toInt (aBf k) ∧ Int32.toInt (aBf k) ≤ 9) → post r aAP zS aAz aAm zH aAM zP yO zZ zO aMk aBf) (x1 x2 : Int32) (jD : Nat) (m_length oF rP dQ bZ aR aE bI aW fJ : Int32) (qG : Nat → Int32) (aBK : 104 ≤ Int32.toInt x1 ∧ Int32.toInt x1 ≤ 112) (aBN : -1 ≤ Int32.toInt x2 ∧ Int32.toInt x2 ≤ 255) (yM : jD = 0 ∨ jD = 1 ∨ jD = 2) (zE : 0 ≤ Int32.toInt m_length ∧ Int32.toInt m_length ≤ 80) (aAR : 0 ≤ Int32.toInt oF ∧ Int32.toInt oF ≤ 80) (aA1 : 0 ≤ Int32.toInt rP ∧ Int32.toInt rP ≤ 80) (aAA : -1 ≤ Int32.toInt dQ ∧ Int32.toInt dQ ≤ 80) (zT : 0 ≤ Int32.toInt bZ ∧ Int32.toInt bZ ≤ 0) (yL : 0 ≤ Int32.toInt aR ∧ Int32.toInt aR ≤ 15) (xQ : 0 ≤ Int32.toInt aE ∧ Int32.toInt aE ≤ 7) (yY : 0 ≤ Int32.toInt bI ∧ Int32.toInt bI ≤ 1) (yK : 0 ≤ Int32.toInt aW ∧ Int32.toInt aW ≤ 63) (xU : ∀ k : Nat, k = 17 → -1 ≤ Int32.toInt (qG k) ∧ Int32.toInt (qG k) ≤ SB) (xV : ∀ k : Nat, k = 19 → 0 ≤ Int32.toInt (qG k) ∧ Int32.toInt (qG k) ≤ 9) : ws_X10_act_98 post bT aG bW m_x gR pW qR nG oO pJ qO qQ x1 x2 jD m_length oF rP dQ bZ aR aE bI aW fJ qG := by
  have l0 := aE0
  have l1 := aEc
  have l2 := li_104
  refine And.intro (fun c139 => ?_) (fun c139 => ?_)
  · skip
    have c139 := mt (zJ _ _).mpr c139
    have f140 := aAT fJ
    exact ts_X10_act_109 bT aG bW m_x gR pW qR nG oO pJ qO qQ xJ vZ zQ aAW xK yR zM xT yF yD xZ zG zI hc0 hc1 hpost x2 0 jD m_length oF rP dQ bZ aR aE bI aW fJ qG aBN (by omega) yM zE aAR aA1 aAA zT yL xQ yY yK xU xV
  · skip
    have c139 := (zJ _ _).mp c139
    have f141 := aAT fJ
    exact ts_X10_act_109 bT aG bW m_x gR pW qR nG oO pJ qO qQ xJ vZ zQ aAW xK yR zM xT yF yD xZ zG zI hc0 hc1 hpost x2 1 jD m_length oF rP dQ bZ aR aE bI aW fJ qG aBN (by omega) yM zE aAR aA1 aAA zT yL xQ yY yK xU xV
set_option maxHeartbeats 8000000 in
set_option maxRecDepth 200000 in
theorem ts_X10_act_193 {post : Int32 → Nat → Int32 → Int32 → Int32 → Int32 → Int32 → Int32 → Int32 → Int32 → Int32 → Int32 → (Nat → Int32) → Prop} {SB : Int} (bT aG bW : Int32) (m_x gR pW qR nG oO pJ qO qQ : Nat → Int32) (xJ : 0 ≤ Int32.toInt bT ∧ Int32.toInt bT ≤ 16) (vZ : 0 ≤ Int32.toInt aG ∧ Int32.toInt aG ≤ 8) (zQ : 0 ≤ Int32.toInt bW ∧ Int32.toInt bW ≤ 40) (aAW : ∀ k : Nat, 0 ≤ Int32.toInt (m_x k) ∧ Int32.toInt (m_x k) ≤ 99) (xK : ∀ k : Nat, 0 ≤ Int32.toInt (gR k) ∧ Int32.toInt (gR k) ≤ 99) (yR : ∀ k : Nat, 0 ≤ Int32.toInt (pW k) ∧ Int32.toInt (pW k) ≤ 9) (zM : ∀ k : Nat, 0 ≤ Int32.toInt (qR k) ∧ Int32.toInt (qR k) ≤ 9) (xT : ∀ k : Nat, 0 ≤ Int32.toInt (nG k) ∧ Int32.toInt (nG k) ≤ 99) (yF : ∀ k : Nat, 0 ≤ Int32.toInt (oO k) ∧ Int32.toInt (oO k) ≤ 99) (yD : ∀ k : Nat, k = 4 → 1 ≤ Int32.toInt (pJ k) ∧ Int32.toInt (pJ k) ≤ 30) (xZ : ∀ k : Nat, k = 3 → 0 ≤ Int32.toInt (pJ k) ∧ Int32.toInt (pJ k) ≤ 9) (zG : ∀ k : Nat, -128 ≤ Int32.toInt (qO k) ∧ Int32.toInt (qO k) ≤ 127) (zI : ∀ k : Nat, -128 ≤ Int32.toInt (qQ k) ∧ Int32.toInt (qQ k) ≤ 127) (hc0 : -1 ≤ SB ∧ SB ≤ 7) (hc1 : (Int32.toInt aG ≤ 0 ∧ SB = 0) ∨ (1 ≤ Int32.toInt aG ∧ SB = Int32.toInt aG - 1)) (hpost : ∀ (r : Int32) (aAP : Nat) (zS : Int32) (aAz : Int32) (aAm : Int32) (zH : Int32) (aAM : Int32) (zP : Int32) (yO : Int32) (zZ : Int32) (zO : Int32) (aMk : Int32) (aBf : Nat → Int32), (0 ≤ Int32.toInt r ∧ Int32.toInt r ≤ 1) → (aAP = 0 ∨ aAP = 1 ∨ aAP = 2) → (0 ≤ Int32.toInt zS ∧ Int32.toInt zS ≤ 80) → (0 ≤ Int32.toInt aAz ∧ Int32.toInt aAz ≤ 80) → (0 ≤ Int32.toInt aAm ∧ Int32.toInt aAm ≤ 80) → (-1 ≤ Int32.toInt zH ∧ Int32.toInt zH ≤ 80) → (0 ≤ Int32.toInt aAM ∧ Int32.toInt aAM ≤ 0) → (0 ≤ Int32.toInt zP ∧ Int32.toInt zP ≤ 15) → (0 ≤ Int32.toInt yO ∧ Int32.toInt yO ≤ 7) → (0 ≤ Int32.toInt zZ ∧ Int32.toInt zZ ≤ 1) → (0 ≤ Int32.toInt zO ∧ Int32.toInt zO ≤ 63) → (∀ k : Nat, k = 17 → -1 ≤ Int32.toInt (aBf k) ∧ Int32.toInt (aBf k) ≤ SB) → (∀ k : Nat, k = 19 → 0 ≤ Int32.toInt (aBf k) ∧ Int32.toInt (aBf k) ≤ 9) → post r aAP zS aAz aAm zH aAM zP yO zZ zO aMk aBf) (k1 k2 : Int32) (jD : Nat) (m_length oF rP dQ bZ aR aE bI aW fJ : Int32) (qG : Nat → Int32) (h_k1 : 18 ≤ Int32.toInt k1 ∧ Int32.toInt k1 ≤ 18) (h_k2 : 0 ≤ Int32.toInt k2 ∧ Int32.toInt k2 ≤ 1) (yM : jD = 0 ∨ jD = 1 ∨ jD = 2) (zE : 0 ≤ Int32.toInt m_length ∧ Int32.toInt m_length ≤ 80) (aAR : 0 ≤ Int32.toInt oF ∧ Int32.toInt oF ≤ 80) (aA1 : 0 ≤ Int32.toInt rP ∧ Int32.toInt rP ≤ 80) (aAA : -1 ≤ Int32.toInt dQ ∧ Int32.toInt dQ ≤ 80) (zT : 0 ≤ Int32.toInt bZ ∧ Int32.toInt bZ ≤ 0) (yL : 0 ≤ Int32.toInt aR ∧ Int32.toInt aR ≤ 15) (xQ : 0 ≤ Int32.toInt aE ∧ Int32.toInt aE ≤ 7) (yY : 0 ≤ Int32.toInt bI ∧ Int32.toInt bI ≤ 1) (yK : 0 ≤ Int32.toInt aW ∧ Int32.toInt aW ≤ 63) (xU : ∀ k : Nat, k = 17 → -1 ≤ Int32.toInt (qG k) ∧ Int32.toInt (qG k) ≤ SB) (xV : ∀ k : Nat, k = 19 → 0 ≤ Int32.toInt (qG k) ∧ Int32.toInt (qG k) ≤ 9) : ws_X10_act_193 post bT aG bW m_x gR pW qR nG oO pJ qO qQ k1 k2 jD m_length oF rP dQ bZ aR aE bI aW fJ qG := by
  have l0 := aEc
  refine And.intro (aBZ (by omega)) ?_
  have e142 : ∀ k : Nat, k = 17 → -1 ≤ Int32.toInt ((upd qG k1.toNatClampNeg k2) k) ∧ Int32.toInt ((upd qG k1.toNatClampNeg k2) k) ≤ SB := aCJ (C := fun k => k = 17) xU (fun hk => by have e9 : k1.toNatClampNeg = (Int32.toInt k1).toNat := rfl; have hk : k1.toNatClampNeg = 17 := hk; omega)
  have e143 : ∀ k : Nat, k = 19 → 0 ≤ Int32.toInt ((upd qG k1.toNatClampNeg k2) k) ∧ Int32.toInt ((upd qG k1.toNatClampNeg k2) k) ≤ 9 := aCJ (C := fun k => k = 19) xV (fun hk => by have e9 : k1.toNatClampNeg = (Int32.toInt k1).toNat := rfl; have hk : k1.toNatClampNeg = 19 := hk; omega)
  exact hpost _ _ _ _ _ _ _ _ _ _ _ _ _ (by omega) yM zE aAR aA1 aAA zT yL xQ yY yK e142 e143
set_option maxHeartbeats 8000000 in
set_option maxRecDepth 200000 in
theorem ts_X10_act_176 {post : Int32 → Nat → Int32 → Int32 → Int32 → Int32 → Int32 → Int32 → Int32 → Int32 → Int32 → Int32 → (Nat → Int32) → Prop} {SB : Int} (bT aG bW : Int32) (m_x gR pW qR nG oO pJ qO qQ : Nat → Int32) (xJ : 0 ≤ Int32.toInt bT ∧ Int32.toInt bT ≤ 16) (vZ : 0 ≤ Int32.toInt aG ∧ Int32.toInt aG ≤ 8) (zQ : 0 ≤ Int32.toInt bW ∧ Int32.toInt bW ≤ 40) (aAW : ∀ k : Nat, 0 ≤ Int32.toInt (m_x k) ∧ Int32.toInt (m_x k) ≤ 99) (xK : ∀ k : Nat, 0 ≤ Int32.toInt (gR k) ∧ Int32.toInt (gR k) ≤ 99) (yR : ∀ k : Nat, 0 ≤ Int32.toInt (pW k) ∧ Int32.toInt (pW k) ≤ 9) (zM : ∀ k : Nat, 0 ≤ Int32.toInt (qR k) ∧ Int32.toInt (qR k) ≤ 9) (xT : ∀ k : Nat, 0 ≤ Int32.toInt (nG k) ∧ Int32.toInt (nG k) ≤ 99) (yF : ∀ k : Nat, 0 ≤ Int32.toInt (oO k) ∧ Int32.toInt (oO k) ≤ 99) (yD : ∀ k : Nat, k = 4 → 1 ≤ Int32.toInt (pJ k) ∧ Int32.toInt (pJ k) ≤ 30) (xZ : ∀ k : Nat, k = 3 → 0 ≤ Int32.toInt (pJ k) ∧ Int32.toInt (pJ k) ≤ 9) (zG : ∀ k : Nat, -128 ≤ Int32.toInt (qO k) ∧ Int32.toInt (qO k) ≤ 127) (zI : ∀ k : Nat, -128 ≤ Int32.toInt (qQ k) ∧ Int32.toInt (qQ k) ≤ 127) (hc0 : -1 ≤ SB ∧ SB ≤ 7) (hc1 : (Int32.toInt aG ≤ 0 ∧ SB = 0) ∨ (1 ≤ Int32.toInt aG ∧ SB = Int32.toInt aG - 1)) (hpost : ∀ (r : Int32) (aAP : Nat) (zS : Int32) (aAz : Int32) (aAm : Int32) (zH : Int32) (aAM : Int32) (zP : Int32) (yO : Int32) (zZ : Int32) (zO : Int32) (aMk : Int32) (aBf : Nat → Int32), (0 ≤ Int32.toInt r ∧ Int32.toInt r ≤ 1) → (aAP = 0 ∨ aAP = 1 ∨ aAP = 2) → (0 ≤ Int32.toInt zS ∧ Int32.toInt zS ≤ 80) → (0 ≤ Int32.toInt aAz ∧ Int32.toInt aAz ≤ 80) → (0 ≤ Int32.toInt aAm ∧ Int32.toInt aAm ≤ 80) → (-1 ≤ Int32.toInt zH ∧ Int32.toInt zH ≤ 80) → (0 ≤ Int32.toInt aAM ∧ Int32.toInt aAM ≤ 0) → (0 ≤ Int32.toInt zP ∧ Int32.toInt zP ≤ 15) → (0 ≤ Int32.toInt yO ∧ Int32.toInt yO ≤ 7) → (0 ≤ Int32.toInt zZ ∧ Int32.toInt zZ ≤ 1) → (0 ≤ Int32.toInt zO ∧ Int32.toInt zO ≤ 63) → (∀ k : Nat, k = 17 → -1 ≤ Int32.toInt (aBf k) ∧ Int32.toInt (aBf k) ≤ SB) → (∀ k : Nat, k = 19 → 0 ≤ Int32.toInt (aBf k) ∧ Int32.toInt (aBf k) ≤ 9) → post r aAP zS aAz aAm zH aAM zP yO zZ zO aMk aBf) (x1 : Int32) (jD : Nat) (m_length oF rP dQ bZ aR aE bI aW fJ : Int32) (qG : Nat → Int32) (aBK : 97 ≤ Int32.toInt x1 ∧ Int32.toInt x1 ≤ 111) (yM : jD = 0 ∨ jD = 1 ∨ jD = 2) (zE : 0 ≤ Int32.toInt m_length ∧ Int32.toInt m_length ≤ 80) (aAR : 0 ≤ Int32.toInt oF ∧ Int32.toInt oF ≤ 80) (aA1 : 0 ≤ Int32.toInt rP ∧ Int32.toInt rP ≤ 80) (aAA : -1 ≤ Int32.toInt dQ ∧ Int32.toInt dQ ≤ 80) (zT : 0 ≤ Int32.toInt bZ ∧ Int32.toInt bZ ≤ 0) (yL : 0 ≤ Int32.toInt aR ∧ Int32.toInt aR ≤ 15) (xQ : 0 ≤ Int32.toInt aE ∧ Int32.toInt aE ≤ 7) (yY : 0 ≤ Int32.toInt bI ∧ Int32.toInt bI ≤ 1) (yK : 0 ≤ Int32.toInt aW ∧ Int32.toInt aW ≤ 63) (xU : ∀ k : Nat, k = 17 → -1 ≤ Int32.toInt (qG k) ∧ Int32.toInt (qG k) ≤ SB) (xV : ∀ k : Nat, k = 19 → 0 ≤ Int32.toInt (qG k) ∧ Int32.toInt (qG k) ≤ 9) : ws_X10_act_176 post bT aG bW m_x gR pW qR nG oO pJ qO qQ x1 jD m_length oF rP dQ bZ aR aE bI aW fJ qG := by
  have l0 := aE0
  have l1 := aEc
  have l2 := li_18
  have l3 := li_97
  refine And.intro (fun c144 => ?_) (fun c144 => ?_)
  · skip
    have c144 := mt (zJ _ _).mpr c144
    have f145 := aAT fJ
    exact ts_X10_act_193 bT aG bW m_x gR pW qR nG oO pJ qO qQ xJ vZ zQ aAW xK yR zM xT yF yD xZ zG zI hc0 hc1 hpost 18 0 jD m_length oF rP dQ bZ aR aE bI aW fJ qG (by omega) (by omega) yM zE aAR aA1 aAA zT yL xQ yY yK xU xV
  · skip
    have c144 := (zJ _ _).mp c144
    have f146 := aAT fJ
    exact ts_X10_act_193 bT aG bW m_x gR pW qR nG oO pJ qO qQ xJ vZ zQ aAW xK yR zM xT yF yD xZ zG zI hc0 hc1 hpost 18 1 jD m_length oF rP dQ bZ aR aE bI aW fJ qG (by omega) (by omega) yM zE aAR aA1 aAA zT yL xQ yY yK xU xV
set_option maxHeartbeats 8000000 in
set_option maxRecDepth 200000 in
theorem ts_X10_act_196 {post : Int32 → Nat → Int32 → Int32 → Int32 → Int32 → Int32 → Int32 → Int32 → Int32 → Int32 → Int32 → (Nat → Int32) → Prop} {SB : Int} (bT aG bW : Int32) (m_x gR pW qR nG oO pJ qO qQ : Nat → Int32) (xJ : 0 ≤ Int32.toInt bT ∧ Int32.toInt bT ≤ 16) (vZ : 0 ≤ Int32.toInt aG ∧ Int32.toInt aG ≤ 8) (zQ : 0 ≤ Int32.toInt bW ∧ Int32.toInt bW ≤ 40) (aAW : ∀ k : Nat, 0 ≤ Int32.toInt (m_x k) ∧ Int32.toInt (m_x k) ≤ 99) (xK : ∀ k : Nat, 0 ≤ Int32.toInt (gR k) ∧ Int32.toInt (gR k) ≤ 99) (yR : ∀ k : Nat, 0 ≤ Int32.toInt (pW k) ∧ Int32.toInt (pW k) ≤ 9) (zM : ∀ k : Nat, 0 ≤ Int32.toInt (qR k) ∧ Int32.toInt (qR k) ≤ 9) (xT : ∀ k : Nat, 0 ≤ Int32.toInt (nG k) ∧ Int32.toInt (nG k) ≤ 99) (yF : ∀ k : Nat, 0 ≤ Int32.toInt (oO k) ∧ Int32.toInt (oO k) ≤ 99) (yD : ∀ k : Nat, k = 4 → 1 ≤ Int32.toInt (pJ k) ∧ Int32.toInt (pJ k) ≤ 30) (xZ : ∀ k : Nat, k = 3 → 0 ≤ Int32.toInt (pJ k) ∧ Int32.toInt (pJ k) ≤ 9) (zG : ∀ k : Nat, -128 ≤ Int32.toInt (qO k) ∧ Int32.toInt (qO k) ≤ 127) (zI : ∀ k : Nat, -128 ≤ Int32.toInt (qQ k) ∧ Int32.toInt (qQ k) ≤ 127) (hc0 : -1 ≤ SB ∧ SB ≤ 7) (hc1 : (Int32.toInt aG ≤ 0 ∧ SB = 0) ∨ (1 ≤ Int32.toInt aG ∧ SB = Int32.toInt aG - 1)) (hpost : ∀ (r : Int32) (aAP : Nat) (zS : Int32) (aAz : Int32) (aAm : Int32) (zH : Int32) (aAM : Int32) (zP : Int32) (yO : Int32) (zZ : Int32) (zO : Int32) (aMk : Int32) (aBf : Nat → Int32), (0 ≤ Int32.toInt r ∧ Int32.toInt r ≤ 1) → (aAP = 0 ∨ aAP = 1 ∨ aAP = 2) → (0 ≤ Int32.toInt zS ∧ Int32.toInt zS ≤ 80) → (0 ≤ Int32.toInt aAz ∧ Int32.toInt aAz ≤ 80) → (0 ≤ Int32.toInt aAm ∧ Int32.toInt aAm ≤ 80) → (-1 ≤ Int32.toInt zH ∧ Int32.toInt zH ≤ 80) → (0 ≤ Int32.toInt aAM ∧ Int32.toInt aAM ≤ 0) → (0 ≤ Int32.toInt zP ∧ Int32.toInt zP ≤ 15) → (0 ≤ Int32.toInt yO ∧ Int32.toInt yO ≤ 7) → (0 ≤ Int32.toInt zZ ∧ Int32.toInt zZ ≤ 1) → (0 ≤ Int32.toInt zO ∧ Int32.toInt zO ≤ 63) → (∀ k : Nat, k = 17 → -1 ≤ Int32.toInt (aBf k) ∧ Int32.toInt (aBf k) ≤ SB) → (∀ k : Nat, k = 19 → 0 ≤ Int32.toInt (aBf k) ∧ Int32.toInt (aBf k) ≤ 9) → post r aAP zS aAz aAm zH aAM zP yO zZ zO aMk aBf) (jD : Nat) (m_length oF rP dQ bZ aR aE bI aW fJ : Int32) (qG : Nat → Int32) (yM : jD = 0 ∨ jD = 1 ∨ jD = 2) (zE : 0 ≤ Int32.toInt m_length ∧ Int32.toInt m_length ≤ 80) (aAR : 0 ≤ Int32.toInt oF ∧ Int32.toInt oF ≤ 80) (aA1 : 0 ≤ Int32.toInt rP ∧ Int32.toInt rP ≤ 80) (aAA : -1 ≤ Int32.toInt dQ ∧ Int32.toInt dQ ≤ 80) (zT : 0 ≤ Int32.toInt bZ ∧ Int32.toInt bZ ≤ 0) (yL : 0 ≤ Int32.toInt aR ∧ Int32.toInt aR ≤ 15) (xQ : 0 ≤ Int32.toInt aE ∧ Int32.toInt aE ≤ 7) (yY : 0 ≤ Int32.toInt bI ∧ Int32.toInt bI ≤ 1) (yK : 0 ≤ Int32.toInt aW ∧ Int32.toInt aW ≤ 63) (xU : ∀ k : Nat, k = 17 → -1 ≤ Int32.toInt (qG k) ∧ Int32.toInt (qG k) ≤ SB) (xV : ∀ k : Nat, k = 19 → 0 ≤ Int32.toInt (qG k) ∧ Int32.toInt (qG k) ≤ 9) : ws_X10_act_196 post bT aG bW m_x gR pW qR nG oO pJ qO qQ jD m_length oF rP dQ bZ aR aE bI aW fJ qG := by
  have l0 := aI2
  have l1 := aE0
  have l2 := aEc
  have l3 := li_17
  have l4 := li_19
  have l5 := li_20
  have l6 := li_9
  have q147 := xV (19 : Int32).toNatClampNeg (by have e9 : (19 : Int32).toNatClampNeg = (Int32.toInt (19 : Int32)).toNat := rfl; omega)
  intro v148 ev148
  have hv148 := congrArg Int32.toInt ev148
  refine And.intro (fun c150 => ?_) (fun c150 => ?_)
  · skip
    have c150 := mt (zJ _ _).mpr c150
    refine t_X10_empty xJ xU xV (by omega) (fun r152 m_now_151 e0_m_now_151 e1_m_now_151 ox153 => ?_)
    have e154 : ∀ k : Nat, k = 17 → -1 ≤ Int32.toInt ((upd m_now_151 (17 : Int32).toNatClampNeg (-1)) k) ∧ Int32.toInt ((upd m_now_151 (17 : Int32).toNatClampNeg (-1)) k) ≤ SB := aCJ (C := fun k => k = 17) e0_m_now_151 (fun hk => by have e9 : (17 : Int32).toNatClampNeg = (Int32.toInt (17 : Int32)).toNat := rfl; have hk : (17 : Int32).toNatClampNeg = 17 := hk; omega)
    have e155 : ∀ k : Nat, k = 19 → 0 ≤ Int32.toInt ((upd m_now_151 (17 : Int32).toNatClampNeg (-1)) k) ∧ Int32.toInt ((upd m_now_151 (17 : Int32).toNatClampNeg (-1)) k) ≤ 9 := aCJ (C := fun k => k = 19) e1_m_now_151 (fun hk => by have e9 : (17 : Int32).toNatClampNeg = (Int32.toInt (17 : Int32)).toNat := rfl; have hk : (17 : Int32).toNatClampNeg = 19 := hk; omega)
    have e156 : ∀ k : Nat, k = 17 → -1 ≤ Int32.toInt ((upd (upd m_now_151 (17 : Int32).toNatClampNeg (-1)) (20 : Int32).toNatClampNeg 0) k) ∧ Int32.toInt ((upd (upd m_now_151 (17 : Int32).toNatClampNeg (-1)) (20 : Int32).toNatClampNeg 0) k) ≤ SB := aCJ (C := fun k => k = 17) e154 (fun hk => by have e9 : (20 : Int32).toNatClampNeg = (Int32.toInt (20 : Int32)).toNat := rfl; have hk : (20 : Int32).toNatClampNeg = 17 := hk; omega)
    have e157 : ∀ k : Nat, k = 19 → 0 ≤ Int32.toInt ((upd (upd m_now_151 (17 : Int32).toNatClampNeg (-1)) (20 : Int32).toNatClampNeg 0) k) ∧ Int32.toInt ((upd (upd m_now_151 (17 : Int32).toNatClampNeg (-1)) (20 : Int32).toNatClampNeg 0) k) ≤ 9 := aCJ (C := fun k => k = 19) e155 (fun hk => by have e9 : (20 : Int32).toNatClampNeg = (Int32.toInt (20 : Int32)).toNat := rfl; have hk : (20 : Int32).toNatClampNeg = 19 := hk; omega)
    have q158 := e157 (19 : Int32).toNatClampNeg (by have e9 : (19 : Int32).toNatClampNeg = (Int32.toInt (19 : Int32)).toNat := rfl; omega)
    intro v159 ev159
    have hv159 := congrArg Int32.toInt ev159
    have j161 : Int32.toInt v159 = Int32.toInt (qG (19 : Int32).toNatClampNeg) := by rw [ev159]; exact congrArg Int32.toInt (gs_19 (by assumption))
    intro v162 ev162
    have f163 : Int32.toInt (v159 + 1) = Int32.toInt v159 + Int32.toInt (1 : Int32) := aAD _ _ (by omega)
    rw [← ev162] at f163
    have e164 : ∀ k : Nat, k = 17 → -1 ≤ Int32.toInt ((upd (upd (upd m_now_151 (17 : Int32).toNatClampNeg (-1)) (20 : Int32).toNatClampNeg 0) (19 : Int32).toNatClampNeg v162) k) ∧ Int32.toInt ((upd (upd (upd m_now_151 (17 : Int32).toNatClampNeg (-1)) (20 : Int32).toNatClampNeg 0) (19 : Int32).toNatClampNeg v162) k) ≤ SB := aCJ (C := fun k => k = 17) e156 (fun hk => by have e9 : (19 : Int32).toNatClampNeg = (Int32.toInt (19 : Int32)).toNat := rfl; have hk : (19 : Int32).toNatClampNeg = 17 := hk; omega)
    have e165 : ∀ k : Nat, k = 19 → 0 ≤ Int32.toInt ((upd (upd (upd m_now_151 (17 : Int32).toNatClampNeg (-1)) (20 : Int32).toNatClampNeg 0) (19 : Int32).toNatClampNeg v162) k) ∧ Int32.toInt ((upd (upd (upd m_now_151 (17 : Int32).toNatClampNeg (-1)) (20 : Int32).toNatClampNeg 0) (19 : Int32).toNatClampNeg v162) k) ≤ 9 := aCJ (C := fun k => k = 19) e157 (fun hk => by have e9 : (19 : Int32).toNatClampNeg = (Int32.toInt (19 : Int32)).toNat := rfl; have hk : (19 : Int32).toNatClampNeg = 19 := hk; omega)
    have q166 := e165 (19 : Int32).toNatClampNeg (by have e9 : (19 : Int32).toNatClampNeg = (Int32.toInt (19 : Int32)).toNat := rfl; omega)
    intro v167 ev167
    have hv167 := congrArg Int32.toInt ev167
    exact hpost _ _ _ _ _ _ _ _ _ _ _ _ _ (by omega) yM zE aAR aA1 aAA zT yL xQ yY yK e164 e165
  · skip
    have c150 := (zJ _ _).mp c150
    exact hpost _ _ _ _ _ _ _ _ _ _ _ _ _ (by omega) yM zE aAR aA1 aAA zT yL xQ yY yK xU xV
set_option maxHeartbeats 8000000 in
set_option maxRecDepth 200000 in
theorem t_X10_act {post : Int32 → Nat → Int32 → Int32 → Int32 → Int32 → Int32 → Int32 → Int32 → Int32 → Int32 → Int32 → (Nat → Int32) → Prop} {SB : Int} {p0 p1 bT aG : Int32} {jD : Nat} {m_length oF rP dQ bW bZ aR aE bI aW fJ : Int32} {qG m_x gR pW qR nG oO pJ qO qQ : Nat → Int32} (h_p0 : -1 ≤ Int32.toInt p0 ∧ Int32.toInt p0 ≤ 255) (h_p1 : -1 ≤ Int32.toInt p1 ∧ Int32.toInt p1 ≤ 255) (xJ : 0 ≤ Int32.toInt bT ∧ Int32.toInt bT ≤ 16) (vZ : 0 ≤ Int32.toInt aG ∧ Int32.toInt aG ≤ 8) (yM : jD = 0 ∨ jD = 1 ∨ jD = 2) (zE : 0 ≤ Int32.toInt m_length ∧ Int32.toInt m_length ≤ 80) (aAR : 0 ≤ Int32.toInt oF ∧ Int32.toInt oF ≤ 80) (aA1 : 0 ≤ Int32.toInt rP ∧ Int32.toInt rP ≤ 80) (aAA : -1 ≤ Int32.toInt dQ ∧ Int32.toInt dQ ≤ 80) (zQ : 0 ≤ Int32.toInt bW ∧ Int32.toInt bW ≤ 40) (zT : 0 ≤ Int32.toInt bZ ∧ Int32.toInt bZ ≤ 0) (yL : 0 ≤ Int32.toInt aR ∧ Int32.toInt aR ≤ 15) (xQ : 0 ≤ Int32.toInt aE ∧ Int32.toInt aE ≤ 7) (yY : 0 ≤ Int32.toInt bI ∧ Int32.toInt bI ≤ 1) (yK : 0 ≤ Int32.toInt aW ∧ Int32.toInt aW ≤ 63) (xU : ∀ k : Nat, k = 17 → -1 ≤ Int32.toInt (qG k) ∧ Int32.toInt (qG k) ≤ SB) (xV : ∀ k : Nat, k = 19 → 0 ≤ Int32.toInt (qG k) ∧ Int32.toInt (qG k) ≤ 9) (aAW : ∀ k : Nat, 0 ≤ Int32.toInt (m_x k) ∧ Int32.toInt (m_x k) ≤ 99) (xK : ∀ k : Nat, 0 ≤ Int32.toInt (gR k) ∧ Int32.toInt (gR k) ≤ 99) (yR : ∀ k : Nat, 0 ≤ Int32.toInt (pW k) ∧ Int32.toInt (pW k) ≤ 9) (zM : ∀ k : Nat, 0 ≤ Int32.toInt (qR k) ∧ Int32.toInt (qR k) ≤ 9) (xT : ∀ k : Nat, 0 ≤ Int32.toInt (nG k) ∧ Int32.toInt (nG k) ≤ 99) (yF : ∀ k : Nat, 0 ≤ Int32.toInt (oO k) ∧ Int32.toInt (oO k) ≤ 99) (yD : ∀ k : Nat, k = 4 → 1 ≤ Int32.toInt (pJ k) ∧ Int32.toInt (pJ k) ≤ 30) (xZ : ∀ k : Nat, k = 3 → 0 ≤ Int32.toInt (pJ k) ∧ Int32.toInt (pJ k) ≤ 9) (zG : ∀ k : Nat, -128 ≤ Int32.toInt (qO k) ∧ Int32.toInt (qO k) ≤ 127) (zI : ∀ k : Nat, -128 ≤ Int32.toInt (qQ k) ∧ Int32.toInt (qQ k) ≤ 127) (hc0 : -1 ≤ SB ∧ SB ≤ 7) (hc1 : (Int32.toInt aG ≤ 0 ∧ SB = 0) ∨ (1 ≤ Int32.toInt aG ∧ SB = Int32.toInt aG - 1)) (hpost : ∀ (r : Int32) (aAP : Nat) (zS : Int32) (aAz : Int32) (aAm : Int32) (zH : Int32) (aAM : Int32) (zP : Int32) (yO : Int32) (zZ : Int32) (zO : Int32) (aMk : Int32) (aBf : Nat → Int32), (0 ≤ Int32.toInt r ∧ Int32.toInt r ≤ 1) → (aAP = 0 ∨ aAP = 1 ∨ aAP = 2) → (0 ≤ Int32.toInt zS ∧ Int32.toInt zS ≤ 80) → (0 ≤ Int32.toInt aAz ∧ Int32.toInt aAz ≤ 80) → (0 ≤ Int32.toInt aAm ∧ Int32.toInt aAm ≤ 80) → (-1 ≤ Int32.toInt zH ∧ Int32.toInt zH ≤ 80) → (0 ≤ Int32.toInt aAM ∧ Int32.toInt aAM ≤ 0) → (0 ≤ Int32.toInt zP ∧ Int32.toInt zP ≤ 15) → (0 ≤ Int32.toInt yO ∧ Int32.toInt yO ≤ 7) → (0 ≤ Int32.toInt zZ ∧ Int32.toInt zZ ≤ 1) → (0 ≤ Int32.toInt zO ∧ Int32.toInt zO ≤ 63) → (∀ k : Nat, k = 17 → -1 ≤ Int32.toInt (aBf k) ∧ Int32.toInt (aBf k) ≤ SB) → (∀ k : Nat, k = 19 → 0 ≤ Int32.toInt (aBf k) ∧ Int32.toInt (aBf k) ≤ 9) → post r aAP zS aAz aAm zH aAM zP yO zZ zO aMk aBf) : aVD post p0 p1 bT aG jD m_length oF rP dQ bW bZ aR aE bI aW fJ qG m_x gR pW qR nG oO pJ qO qQ := by
  have l0 := aI2
  have l1 := aE0
  have l2 := aEc
  have l3 := li_100
  have l4 := li_104
  have l5 := li_107
  have l6 := li_109
  have l7 := li_111
  have l8 := li_112
  have l9 := li_17
  have l10 := li_20
  have l11 := li_9
  have l12 := li_97
  have l13 := li_9999
  refine And.intro (fun c169 => ?_) ?_
  · skip
    have c169 := (zJ _ _).mp c169
    have f170 := aAT fJ
    exact ts_X10_act_176 bT aG bW m_x gR pW qR nG oO pJ qO qQ xJ vZ zQ aAW xK yR zM xT yF yD xZ zG zI hc0 hc1 hpost p0 jD m_length oF rP dQ bZ aR aE bI aW fJ qG (by omega) yM zE aAR aA1 aAA zT yL xQ yY yK xU xV
  refine And.intro (fun c171 => ?_) ?_
  · skip
    have c171 := (zJ _ _).mp c171
    have q172 := xU (17 : Int32).toNatClampNeg (by have e9 : (17 : Int32).toNatClampNeg = (Int32.toInt (17 : Int32)).toNat := rfl; omega)
    intro v173 ev173
    have hv173 := congrArg Int32.toInt ev173
    refine And.intro (fun c175 => ?_) (fun c175 => ?_)
    · skip
      have c175 := (zJ _ _).mp c175
      refine And.intro (fun h9 => absurd h9 (by decide)) (fun _ => ?_)
      exact hpost _ _ _ _ _ _ _ _ _ _ _ _ _ (by omega) yM zE aAR aA1 aAA zT yL xQ yY yK xU xV
    · skip
      have c175 := mt (zJ _ _).mpr c175
      refine aKO (by omega) xJ xU xV (by omega) (fun r176 h_r176 ox177 => ?_)
      refine And.intro (fun c178 => ?_) (fun c178 => ?_)
      · skip
        have c178 := (zJ _ _).mp c178
        refine And.intro (fun h9 => absurd h9 (by decide)) (fun _ => ?_)
        exact hpost _ _ _ _ _ _ _ _ _ _ _ _ _ (by omega) yM zE aAR aA1 aAA zT yL xQ yY yK xU xV
      · skip
        have c178 := mt (zJ _ _).mpr c178
        refine And.intro (fun _ => ?_) (fun h9 => absurd h9 (by decide))
        have q179 := xU (17 : Int32).toNatClampNeg (by have e9 : (17 : Int32).toNatClampNeg = (Int32.toInt (17 : Int32)).toNat := rfl; omega)
        intro v180 ev180
        have hv180 := congrArg Int32.toInt ev180
        refine And.intro (aBZ (by omega)) ?_
        intro v181 ev181
        have f182 := yF v180.toNatClampNeg
        have hv181 := congrArg Int32.toInt ev181
        intro v183 ev183
        have f184 : Int32.toInt (v181 + 9) = Int32.toInt v181 + Int32.toInt (9 : Int32) := aAD _ _ (by omega)
        rw [← ev183] at f184
        intro v185 ev185
        have hv185 := congrArg Int32.toInt ev185
        intro v187 ev187
        have hv187 := congrArg Int32.toInt ev187
        intro v189 ev189
        have f190 := aAT (if v187 < 9999 then v187 else 9999)
        have f192 := aAT v187
        have f191 := ti_min (9999 : Int32) v187
        have hv189 := congrArg Int32.toInt ev189
        have f194 := aAT v189
        have e193 : ∀ k : Nat, k = 17 → -1 ≤ Int32.toInt ((upd qG (20 : Int32).toNatClampNeg v189) k) ∧ Int32.toInt ((upd qG (20 : Int32).toNatClampNeg v189) k) ≤ SB := aCJ (C := fun k => k = 17) xU (fun hk => by have e9 : (20 : Int32).toNatClampNeg = (Int32.toInt (20 : Int32)).toNat := rfl; have hk : (20 : Int32).toNatClampNeg = 17 := hk; omega)
        have e195 : ∀ k : Nat, k = 19 → 0 ≤ Int32.toInt ((upd qG (20 : Int32).toNatClampNeg v189) k) ∧ Int32.toInt ((upd qG (20 : Int32).toNatClampNeg v189) k) ≤ 9 := aCJ (C := fun k => k = 19) xV (fun hk => by have e9 : (20 : Int32).toNatClampNeg = (Int32.toInt (20 : Int32)).toNat := rfl; have hk : (20 : Int32).toNatClampNeg = 19 := hk; omega)
        refine t_X10_empty xJ e193 e195 (by omega) (fun r197 m_now_196 e0_m_now_196 e1_m_now_196 ox198 => ?_)
        exact hpost _ _ _ _ _ _ _ _ _ _ _ _ _ (by omega) yM zE aAR aA1 aAA zT yL xQ yY yK e0_m_now_196 e1_m_now_196
  refine And.intro (fun c199 => ?_) ?_
  · skip
    have c199 := (zJ _ _).mp c199
    have f200 := aAT fJ
    exact ts_X10_act_98 bT aG bW m_x gR pW qR nG oO pJ qO qQ xJ vZ zQ aAW xK yR zM xT yF yD xZ zG zI hc0 hc1 hpost p0 p1 jD m_length oF rP dQ bZ aR aE bI aW fJ qG (by omega) h_p1 yM zE aAR aA1 aAA zT yL xQ yY yK xU xV
  refine And.intro (fun c201 => ?_) ?_
  · skip
    have c201 := (zJ _ _).mp c201
    have q202 := xU (17 : Int32).toNatClampNeg (by have e9 : (17 : Int32).toNatClampNeg = (Int32.toInt (17 : Int32)).toNat := rfl; omega)
    intro v203 ev203
    have hv203 := congrArg Int32.toInt ev203
    refine And.intro (fun c205 => ?_) (fun c205 => ?_)
    · skip
      have c205 := mt (zJ _ _).mpr c205
      refine t_X10_goShake xJ xU xV aAW xK zM xT yF yD xZ (by omega) (by omega) (fun r207 m_now_206 h_r207 e0_m_now_206 e1_m_now_206 => ?_)
      exact hpost _ _ _ _ _ _ _ _ _ _ _ _ _ (by omega) yM zE aAR aA1 aAA zT yL xQ yY yK e0_m_now_206 e1_m_now_206
    · skip
      have c205 := (zJ _ _).mp c205
      exact hpost _ _ _ _ _ _ _ _ _ _ _ _ _ (by omega) yM zE aAR aA1 aAA zT yL xQ yY yK xU xV
  refine And.intro (fun c208 => ?_) ?_
  · skip
    have c208 := (zJ _ _).mp c208
    intro v209 ev209
    have f210 : Int32.toInt (aG - 1) = Int32.toInt aG - Int32.toInt (1 : Int32) := aCA _ _ (by omega)
    rw [← ev209] at f210
    refine And.intro (fun c211 => ?_) (fun c211 => ?_)
    · skip
      have c211 := (aAd _ _).mp c211
      refine And.intro (aHE (by omega)) ?_
      refine And.intro (fun h9 => absurd h9 (by decide)) (fun _ => ?_)
      refine And.intro (fun h9 => absurd h9 (by decide)) (fun _ => ?_)
      exact hpost _ _ _ _ _ _ _ _ _ _ _ _ _ (by omega) yM zE aAR aA1 aAA zT yL xQ yY yK xU xV
    · skip
      have c211 := mt (aAd _ _).mpr c211
      refine And.intro (fun c212 => ?_) (fun c212 => ?_)
      · skip
        have c212 := (aAd _ _).mp c212
        refine And.intro (aHE (by omega)) ?_
        refine And.intro (fun h9 => absurd h9 (by decide)) (fun _ => ?_)
        refine And.intro (fun h9 => absurd h9 (by decide)) (fun _ => ?_)
        exact hpost _ _ _ _ _ _ _ _ _ _ _ _ _ (by omega) yM zE aAR aA1 aAA zT yL xQ yY yK xU xV
      · skip
        have c212 := mt (aAd _ _).mpr c212
        refine And.intro (aHE (by omega)) ?_
        refine And.intro (fun _ => ?_) (fun h9 => absurd h9 (by decide))
        have q213 := xU (17 : Int32).toNatClampNeg (by have e9 : (17 : Int32).toNatClampNeg = (Int32.toInt (17 : Int32)).toNat := rfl; omega)
        intro v214 ev214
        have hv214 := congrArg Int32.toInt ev214
        refine And.intro (fun c216 => ?_) (fun c216 => ?_)
        · skip
          have c216 := mt (zJ _ _).mpr c216
          refine And.intro (fun _ => ?_) (fun h9 => absurd h9 (by decide))
          refine t_X10_goMove (by omega) xJ xU xV xT yF yD xZ (by omega) (by omega) (fun r218 m_now_217 h_r218 e0_m_now_217 e1_m_now_217 => ?_)
          exact hpost _ _ _ _ _ _ _ _ _ _ _ _ _ (by omega) yM zE aAR aA1 aAA zT yL xQ yY yK e0_m_now_217 e1_m_now_217
        · skip
          have c216 := (zJ _ _).mp c216
          refine And.intro (fun h9 => absurd h9 (by decide)) (fun _ => ?_)
          exact hpost _ _ _ _ _ _ _ _ _ _ _ _ _ (by omega) yM zE aAR aA1 aAA zT yL xQ yY yK xU xV
  refine And.intro (fun c219 => ?_) ?_
  · skip
    have c219 := (zJ _ _).mp c219
    have f220 := aAT fJ
    exact ts_X10_act_176 bT aG bW m_x gR pW qR nG oO pJ qO qQ xJ vZ zQ aAW xK yR zM xT yF yD xZ zG zI hc0 hc1 hpost p0 jD m_length oF rP dQ bZ aR aE bI aW fJ qG (by omega) yM zE aAR aA1 aAA zT yL xQ yY yK xU xV
  refine And.intro (fun c221 => ?_) ?_
  · skip
    have c221 := (zJ _ _).mp c221
    have f222 := aAT fJ
    exact ts_X10_act_98 bT aG bW m_x gR pW qR nG oO pJ qO qQ xJ vZ zQ aAW xK yR zM xT yF yD xZ zG zI hc0 hc1 hpost p0 p1 jD m_length oF rP dQ bZ aR aE bI aW fJ qG (by omega) h_p1 yM zE aAR aA1 aAA zT yL xQ yY yK xU xV
  intro c223 c224 c225 c226 c227 c228 c229
  have c223 := mt (zJ _ _).mpr c223
  have c224 := mt (zJ _ _).mpr c224
  have c225 := mt (zJ _ _).mpr c225
  have c226 := mt (zJ _ _).mpr c226
  have c227 := mt (zJ _ _).mpr c227
  have c228 := mt (zJ _ _).mpr c228
  have c229 := mt (zJ _ _).mpr c229
  have f230 := aAT fJ
  exact ts_X10_act_196 bT aG bW m_x gR pW qR nG oO pJ qO qQ xJ vZ zQ aAW xK yR zM xT yF yD xZ zG zI hc0 hc1 hpost jD m_length oF rP dQ bZ aR aE bI aW fJ qG yM zE aAR aA1 aAA zT yL xQ yY yK xU xV
