set_option maxHeartbeats 8000000 in
set_option maxRecDepth 200000 in
theorem ts_X10_readLine_121 {post : Int32 → Int32 → Int32 → Int32 → (Nat → Int32) → (Nat → Int32) → Prop} {aLe : Int32} (bT aG : Int32) (jD : Nat) (m_length oF : Int32) (qO qQ : Nat → Int32) (xJ : 0 ≤ Int32.toInt bT ∧ Int32.toInt bT ≤ 16) (vZ : 0 ≤ Int32.toInt aG ∧ Int32.toInt aG ≤ 8) (yM : jD = 1) (zE : 1 ≤ Int32.toInt m_length ∧ Int32.toInt m_length ≤ 80) (aAR : 76 ≤ Int32.toInt oF ∧ Int32.toInt oF ≤ 76) (zG : ∀ k : Nat, -128 ≤ Int32.toInt (qO k) ∧ Int32.toInt (qO k) ≤ 127) (zI : ∀ k : Nat, -128 ≤ Int32.toInt (qQ k) ∧ Int32.toInt (qQ k) ≤ 127) (hpost : ∀ (aAm : Int32) (zH : Int32) (aCP : Int32) (aB2 : Int32) (aAy : Nat → Int32) (aCh : Nat → Int32), (0 ≤ Int32.toInt aAm ∧ Int32.toInt aAm ≤ 80) → (-1 ≤ Int32.toInt zH ∧ Int32.toInt zH ≤ 80) → (0 ≤ Int32.toInt aCP ∧ Int32.toInt aCP ≤ 16) → (0 ≤ Int32.toInt aB2 ∧ Int32.toInt aB2 ≤ 8) → (∀ k : Nat, k % 4 = 0 → 0 ≤ Int32.toInt (aAy k) ∧ Int32.toInt (aAy k) ≤ 99) → (∀ k : Nat, k % 4 = 1 → 0 ≤ Int32.toInt (aAy k) ∧ Int32.toInt (aAy k) ≤ 99) → (∀ k : Nat, k % 4 = 2 → 0 ≤ Int32.toInt (aAy k) ∧ Int32.toInt (aAy k) ≤ 9) → (∀ k : Nat, k % 4 = 3 → 0 ≤ Int32.toInt (aAy k) ∧ Int32.toInt (aAy k) ≤ 9) → (∀ k : Nat, 0 ≤ Int32.toInt (aAy k) ∧ Int32.toInt (aAy k) ≤ 99) → (∀ k : Nat, 0 ≤ Int32.toInt (aCh k) ∧ Int32.toInt (aCh k) ≤ 99) → (Int32.toInt bT + Int32.toInt aCP ≤ 16) → (Int32.toInt aG + Int32.toInt aB2 ≤ 8) → (Int32.toInt aLe ≤ Int32.toInt aAm) → post aAm zH aCP aB2 aAy aCh) (k1 k2 rP dQ aJ aB : Int32) (qT qA : Nat → Int32) (h_k1 : 3 ≤ Int32.toInt k1 ∧ Int32.toInt k1 ≤ 63) (h_k2 : 0 ≤ Int32.toInt k2 ∧ Int32.toInt k2 ≤ 9) (aA1 : 0 ≤ Int32.toInt rP ∧ Int32.toInt rP ≤ 80) (aAA : -1 ≤ Int32.toInt dQ ∧ Int32.toInt dQ ≤ 80) (aAb : 0 ≤ Int32.toInt aJ ∧ Int32.toInt aJ ≤ 16) (aAJ : 0 ≤ Int32.toInt aB ∧ Int32.toInt aB ≤ 8) (aAe : ∀ k : Nat, k % 4 = 0 → 0 ≤ Int32.toInt (qT k) ∧ Int32.toInt (qT k) ≤ 99) (aAf : ∀ k : Nat, k % 4 = 1 → 0 ≤ Int32.toInt (qT k) ∧ Int32.toInt (qT k) ≤ 99) (aAg : ∀ k : Nat, k % 4 = 2 → 0 ≤ Int32.toInt (qT k) ∧ Int32.toInt (qT k) ≤ 9) (aAh : ∀ k : Nat, k % 4 = 3 → 0 ≤ Int32.toInt (qT k) ∧ Int32.toInt (qT k) ≤ 9) (aAx : ∀ k : Nat, 0 ≤ Int32.toInt (qT k) ∧ Int32.toInt (qT k) ≤ 99) (aAN : ∀ k : Nat, 0 ≤ Int32.toInt (qA k) ∧ Int32.toInt (qA k) ≤ 99) (hx0 : Int32.toInt bT + Int32.toInt aJ ≤ 15) (hx1 : Int32.toInt aG + Int32.toInt aB ≤ 8) (hx2 : Int32.toInt aLe ≤ Int32.toInt rP) (hx3 : Int32.toInt k1 % 4 = 3) : aXC post bT aG jD m_length oF qO qQ k1 k2 rP dQ aJ aB qT qA := by
  have l0 := aEc
  refine And.intro (aBZ (by omega)) ?_
  have a1 : ∀ k : Nat, 0 ≤ Int32.toInt ((upd qT k1.toNatClampNeg k2) k) ∧ Int32.toInt ((upd qT k1.toNatClampNeg k2) k) ≤ 99 := t_upd (fun k => by have q9 := aAx k; omega) (by omega)
  have e2 : ∀ k : Nat, k % 4 = 0 → 0 ≤ Int32.toInt ((upd qT k1.toNatClampNeg k2) k) ∧ Int32.toInt ((upd qT k1.toNatClampNeg k2) k) ≤ 99 := aCJ (C := fun k => k % 4 = 0) aAe (fun hk => by have e9 : k1.toNatClampNeg = (Int32.toInt k1).toNat := rfl; have hk : k1.toNatClampNeg % 4 = 0 := hk; omega)
  have e3 : ∀ k : Nat, k % 4 = 1 → 0 ≤ Int32.toInt ((upd qT k1.toNatClampNeg k2) k) ∧ Int32.toInt ((upd qT k1.toNatClampNeg k2) k) ≤ 99 := aCJ (C := fun k => k % 4 = 1) aAf (fun hk => by have e9 : k1.toNatClampNeg = (Int32.toInt k1).toNat := rfl; have hk : k1.toNatClampNeg % 4 = 1 := hk; omega)
  have e4 : ∀ k : Nat, k % 4 = 2 → 0 ≤ Int32.toInt ((upd qT k1.toNatClampNeg k2) k) ∧ Int32.toInt ((upd qT k1.toNatClampNeg k2) k) ≤ 9 := aCJ (C := fun k => k % 4 = 2) aAg (fun hk => by have e9 : k1.toNatClampNeg = (Int32.toInt k1).toNat := rfl; have hk : k1.toNatClampNeg % 4 = 2 := hk; omega)
  have e5 : ∀ k : Nat, k % 4 = 3 → 0 ≤ Int32.toInt ((upd qT k1.toNatClampNeg k2) k) ∧ Int32.toInt ((upd qT k1.toNatClampNeg k2) k) ≤ 9 := aCJ (C := fun k => k % 4 = 3) aAh (fun hk => by have e9 : k1.toNatClampNeg = (Int32.toInt k1).toNat := rfl; have hk : k1.toNatClampNeg % 4 = 3 := hk; omega)
  intro v6 ev6
  have f7 : Int32.toInt (aJ + 1) = Int32.toInt aJ + Int32.toInt (1 : Int32) := aAD _ _ (by omega)
  rw [← ev6] at f7
  exact hpost _ _ _ _ _ _ aA1 aAA (by omega) aAJ e2 e3 e4 e5 (fun k => by have q9 := a1 k; omega) aAN (by omega) (by omega) (by omega)
set_option maxHeartbeats 8000000 in
set_option maxRecDepth 200000 in
theorem aYe {post : Int32 → Int32 → Int32 → Int32 → (Nat → Int32) → (Nat → Int32) → Prop} {aLe : Int32} (bT aG : Int32) (jD : Nat) (m_length oF : Int32) (qO qQ : Nat → Int32) (xJ : 0 ≤ Int32.toInt bT ∧ Int32.toInt bT ≤ 16) (vZ : 0 ≤ Int32.toInt aG ∧ Int32.toInt aG ≤ 8) (yM : jD = 1) (zE : 1 ≤ Int32.toInt m_length ∧ Int32.toInt m_length ≤ 80) (aAR : 76 ≤ Int32.toInt oF ∧ Int32.toInt oF ≤ 76) (zG : ∀ k : Nat, -128 ≤ Int32.toInt (qO k) ∧ Int32.toInt (qO k) ≤ 127) (zI : ∀ k : Nat, -128 ≤ Int32.toInt (qQ k) ∧ Int32.toInt (qQ k) ≤ 127) (hpost : ∀ (aAm : Int32) (zH : Int32) (aCP : Int32) (aB2 : Int32) (aAy : Nat → Int32) (aCh : Nat → Int32), (0 ≤ Int32.toInt aAm ∧ Int32.toInt aAm ≤ 80) → (-1 ≤ Int32.toInt zH ∧ Int32.toInt zH ≤ 80) → (0 ≤ Int32.toInt aCP ∧ Int32.toInt aCP ≤ 16) → (0 ≤ Int32.toInt aB2 ∧ Int32.toInt aB2 ≤ 8) → (∀ k : Nat, k % 4 = 0 → 0 ≤ Int32.toInt (aAy k) ∧ Int32.toInt (aAy k) ≤ 99) → (∀ k : Nat, k % 4 = 1 → 0 ≤ Int32.toInt (aAy k) ∧ Int32.toInt (aAy k) ≤ 99) → (∀ k : Nat, k % 4 = 2 → 0 ≤ Int32.toInt (aAy k) ∧ Int32.toInt (aAy k) ≤ 9) → (∀ k : Nat, k % 4 = 3 → 0 ≤ Int32.toInt (aAy k) ∧ Int32.toInt (aAy k) ≤ 9) → (∀ k : Nat, 0 ≤ Int32.toInt (aAy k) ∧ Int32.toInt (aAy k) ≤ 99) → (∀ k : Nat, 0 ≤ Int32.toInt (aCh k) ∧ Int32.toInt (aCh k) ≤ 99) → (Int32.toInt bT + Int32.toInt aCP ≤ 16) → (Int32.toInt aG + Int32.toInt aB2 ≤ 8) → (Int32.toInt aLe ≤ Int32.toInt aAm) → post aAm zH aCP aB2 aAy aCh) (x1 k1 k2 rP dQ aJ aB : Int32) (qT qA : Nat → Int32) (aBK : 0 ≤ Int32.toInt x1 ∧ Int32.toInt x1 ≤ 60) (h_k1 : 2 ≤ Int32.toInt k1 ∧ Int32.toInt k1 ≤ 62) (h_k2 : 0 ≤ Int32.toInt k2 ∧ Int32.toInt k2 ≤ 9) (aA1 : 0 ≤ Int32.toInt rP ∧ Int32.toInt rP ≤ 80) (aAA : -1 ≤ Int32.toInt dQ ∧ Int32.toInt dQ ≤ 80) (aAb : 0 ≤ Int32.toInt aJ ∧ Int32.toInt aJ ≤ 16) (aAJ : 0 ≤ Int32.toInt aB ∧ Int32.toInt aB ≤ 8) (aAe : ∀ k : Nat, k % 4 = 0 → 0 ≤ Int32.toInt (qT k) ∧ Int32.toInt (qT k) ≤ 99) (aAf : ∀ k : Nat, k % 4 = 1 → 0 ≤ Int32.toInt (qT k) ∧ Int32.toInt (qT k) ≤ 99) (aAg : ∀ k : Nat, k % 4 = 2 → 0 ≤ Int32.toInt (qT k) ∧ Int32.toInt (qT k) ≤ 9) (aAh : ∀ k : Nat, k % 4 = 3 → 0 ≤ Int32.toInt (qT k) ∧ Int32.toInt (qT k) ≤ 9) (aAx : ∀ k : Nat, 0 ≤ Int32.toInt (qT k) ∧ Int32.toInt (qT k) ≤ 99) (aAN : ∀ k : Nat, 0 ≤ Int32.toInt (qA k) ∧ Int32.toInt (qA k) ≤ 99) (hx0 : Int32.toInt bT + Int32.toInt aJ ≤ 15) (hx1 : Int32.toInt aG + Int32.toInt aB ≤ 8) (hx2 : Int32.toInt aLe ≤ Int32.toInt rP) (hx3 : Int32.toInt k1 % 4 = 2) (hx4 : Int32.toInt x1 % 4 = 0) : ws_X10_readLine_95 post bT aG jD m_length oF qO qQ x1 k1 k2 rP dQ aJ aB qT qA := by
  have l0 := aI2
  have l1 := aE0
  have l2 := aEc
  have l3 := li_3
  have l4 := li_64
  refine And.intro (aBZ (by omega)) ?_
  have a8 : ∀ k : Nat, 0 ≤ Int32.toInt ((upd qT k1.toNatClampNeg k2) k) ∧ Int32.toInt ((upd qT k1.toNatClampNeg k2) k) ≤ 99 := t_upd (fun k => by have q9 := aAx k; omega) (by omega)
  have e9 : ∀ k : Nat, k % 4 = 0 → 0 ≤ Int32.toInt ((upd qT k1.toNatClampNeg k2) k) ∧ Int32.toInt ((upd qT k1.toNatClampNeg k2) k) ≤ 99 := aCJ (C := fun k => k % 4 = 0) aAe (fun hk => by have e9 : k1.toNatClampNeg = (Int32.toInt k1).toNat := rfl; have hk : k1.toNatClampNeg % 4 = 0 := hk; omega)
  have e10 : ∀ k : Nat, k % 4 = 1 → 0 ≤ Int32.toInt ((upd qT k1.toNatClampNeg k2) k) ∧ Int32.toInt ((upd qT k1.toNatClampNeg k2) k) ≤ 99 := aCJ (C := fun k => k % 4 = 1) aAf (fun hk => by have e9 : k1.toNatClampNeg = (Int32.toInt k1).toNat := rfl; have hk : k1.toNatClampNeg % 4 = 1 := hk; omega)
  have e11 : ∀ k : Nat, k % 4 = 2 → 0 ≤ Int32.toInt ((upd qT k1.toNatClampNeg k2) k) ∧ Int32.toInt ((upd qT k1.toNatClampNeg k2) k) ≤ 9 := aCJ (C := fun k => k % 4 = 2) aAg (fun hk => by have e9 : k1.toNatClampNeg = (Int32.toInt k1).toNat := rfl; have hk : k1.toNatClampNeg % 4 = 2 := hk; omega)
  have e12 : ∀ k : Nat, k % 4 = 3 → 0 ≤ Int32.toInt ((upd qT k1.toNatClampNeg k2) k) ∧ Int32.toInt ((upd qT k1.toNatClampNeg k2) k) ≤ 9 := aCJ (C := fun k => k % 4 = 3) aAh (fun hk => by have e9 : k1.toNatClampNeg = (Int32.toInt k1).toNat := rfl; have hk : k1.toNatClampNeg % 4 = 3 := hk; omega)
  intro v13 ev13
  have f14 : Int32.toInt (x1 + 3) = Int32.toInt x1 + Int32.toInt (3 : Int32) := aAD _ _ (by omega)
  rw [← ev13] at f14
  refine And.intro (fun c15 => ?_) (fun c15 => ?_)
  · skip
    have c15 := mt (zJ _ _).mpr c15
    refine And.intro (fun _ => ?_) (fun h9 => absurd h9 (by decide))
    refine And.intro (fun _ => ?_) (fun h9 => absurd h9 (by decide))
    exact ts_X10_readLine_121 bT aG jD m_length oF qO qQ xJ vZ yM zE aAR zG zI hpost v13 0 rP dQ aJ aB (upd qT k1.toNatClampNeg k2) qA (by omega) (by omega) aA1 aAA aAb aAJ e9 e10 e11 e12 (fun k => by have q9 := a8 k; omega) aAN hx0 hx1 hx2 (by omega)
  · skip
    have c15 := (zJ _ _).mp c15
    refine And.intro (fun h9 => absurd h9 (by decide)) (fun _ => ?_)
    refine aOq (by first | exact yM | exact Or.inl rfl | exact Or.inr rfl | omega) (by omega) (by omega) aA1 zG zI (by omega) (fun r16 h_r16 ox17 ox18 => ?_)
    refine And.intro (fun c19 => ?_) (fun c19 => ?_)
    · skip
      have c19 := (zJ _ _).mp c19
      intro v20 ev20
      have f21 : Int32.toInt (rP + 1) = Int32.toInt rP + Int32.toInt (1 : Int32) := aAD _ _ (by omega)
      rw [← ev20] at f21
      refine And.intro (fun h9 => absurd h9 (by decide)) (fun _ => ?_)
      refine aXA (by omega) (by first | exact yM | exact Or.inl rfl | exact Or.inr rfl | omega) (by omega) (by omega) (by omega) aAA zG zI (by omega) (fun r24 m_at_22 m_wrong_23 h_r24 h_m_at_22 h_m_wrong_23 ox25 ox26 ox27 ox28 => ?_)
      exact ts_X10_readLine_121 bT aG jD m_length oF qO qQ xJ vZ yM zE aAR zG zI hpost v13 r24 m_at_22 m_wrong_23 aJ aB (upd qT k1.toNatClampNeg k2) qA (by omega) (by omega) h_m_at_22 h_m_wrong_23 aAb aAJ e9 e10 e11 e12 (fun k => by have q9 := a8 k; omega) aAN hx0 hx1 (by omega) (by omega)
    · skip
      have c19 := mt (zJ _ _).mpr c19
      refine And.intro (fun _ => ?_) (fun h9 => absurd h9 (by decide))
      exact ts_X10_readLine_121 bT aG jD m_length oF qO qQ xJ vZ yM zE aAR zG zI hpost v13 0 rP dQ aJ aB (upd qT k1.toNatClampNeg k2) qA (by omega) (by omega) aA1 aAA aAb aAJ e9 e10 e11 e12 (fun k => by have q9 := a8 k; omega) aAN hx0 hx1 hx2 (by omega)
set_option maxHeartbeats 8000000 in
set_option maxRecDepth 200000 in
theorem ts_X10_readLine_218 {post : Int32 → Int32 → Int32 → Int32 → (Nat → Int32) → (Nat → Int32) → Prop} {aLe : Int32} (bT aG : Int32) (jD : Nat) (m_length oF : Int32) (qO qQ : Nat → Int32) (xJ : 0 ≤ Int32.toInt bT ∧ Int32.toInt bT ≤ 16) (vZ : 0 ≤ Int32.toInt aG ∧ Int32.toInt aG ≤ 8) (yM : jD = 1) (zE : 1 ≤ Int32.toInt m_length ∧ Int32.toInt m_length ≤ 80) (aAR : 76 ≤ Int32.toInt oF ∧ Int32.toInt oF ≤ 76) (zG : ∀ k : Nat, -128 ≤ Int32.toInt (qO k) ∧ Int32.toInt (qO k) ≤ 127) (zI : ∀ k : Nat, -128 ≤ Int32.toInt (qQ k) ∧ Int32.toInt (qQ k) ≤ 127) (hpost : ∀ (aAm : Int32) (zH : Int32) (aCP : Int32) (aB2 : Int32) (aAy : Nat → Int32) (aCh : Nat → Int32), (0 ≤ Int32.toInt aAm ∧ Int32.toInt aAm ≤ 80) → (-1 ≤ Int32.toInt zH ∧ Int32.toInt zH ≤ 80) → (0 ≤ Int32.toInt aCP ∧ Int32.toInt aCP ≤ 16) → (0 ≤ Int32.toInt aB2 ∧ Int32.toInt aB2 ≤ 8) → (∀ k : Nat, k % 4 = 0 → 0 ≤ Int32.toInt (aAy k) ∧ Int32.toInt (aAy k) ≤ 99) → (∀ k : Nat, k % 4 = 1 → 0 ≤ Int32.toInt (aAy k) ∧ Int32.toInt (aAy k) ≤ 99) → (∀ k : Nat, k % 4 = 2 → 0 ≤ Int32.toInt (aAy k) ∧ Int32.toInt (aAy k) ≤ 9) → (∀ k : Nat, k % 4 = 3 → 0 ≤ Int32.toInt (aAy k) ∧ Int32.toInt (aAy k) ≤ 9) → (∀ k : Nat, 0 ≤ Int32.toInt (aAy k) ∧ Int32.toInt (aAy k) ≤ 99) → (∀ k : Nat, 0 ≤ Int32.toInt (aCh k) ∧ Int32.toInt (aCh k) ≤ 99) → (Int32.toInt bT + Int32.toInt aCP ≤ 16) → (Int32.toInt aG + Int32.toInt aB2 ≤ 8) → (Int32.toInt aLe ≤ Int32.toInt aAm) → post aAm zH aCP aB2 aAy aCh) (rP dQ aJ aB : Int32) (qT qA : Nat → Int32) (aA1 : 0 ≤ Int32.toInt rP ∧ Int32.toInt rP ≤ 80) (aAA : -1 ≤ Int32.toInt dQ ∧ Int32.toInt dQ ≤ -1) (aAb : 0 ≤ Int32.toInt aJ ∧ Int32.toInt aJ ≤ 16) (aAJ : 0 ≤ Int32.toInt aB ∧ Int32.toInt aB ≤ 8) (aAe : ∀ k : Nat, k % 4 = 0 → 0 ≤ Int32.toInt (qT k) ∧ Int32.toInt (qT k) ≤ 99) (aAf : ∀ k : Nat, k % 4 = 1 → 0 ≤ Int32.toInt (qT k) ∧ Int32.toInt (qT k) ≤ 99) (aAg : ∀ k : Nat, k % 4 = 2 → 0 ≤ Int32.toInt (qT k) ∧ Int32.toInt (qT k) ≤ 9) (aAh : ∀ k : Nat, k % 4 = 3 → 0 ≤ Int32.toInt (qT k) ∧ Int32.toInt (qT k) ≤ 9) (aAx : ∀ k : Nat, 0 ≤ Int32.toInt (qT k) ∧ Int32.toInt (qT k) ≤ 99) (aAN : ∀ k : Nat, 0 ≤ Int32.toInt (qA k) ∧ Int32.toInt (qA k) ≤ 99) (hx0 : Int32.toInt bT + Int32.toInt aJ ≤ 16) (hx1 : Int32.toInt aG + Int32.toInt aB ≤ 8) (hx2 : Int32.toInt aLe ≤ Int32.toInt rP) : aXD post bT aG jD m_length oF qO qQ rP dQ aJ aB qT qA := by
  have l0 := aI2
  refine And.intro (fun c29 => ?_) (fun c29 => ?_)
  · skip
    have c29 := mt (zJ _ _).mpr c29
    exfalso; omega
  · skip
    have c29 := (zJ _ _).mp c29
    refine And.intro (fun h9 => absurd h9 (by decide)) (fun _ => ?_)
    exact hpost _ _ _ _ _ _ aA1 (by omega) aAb aAJ aAe aAf aAg aAh aAx aAN (by omega) (by omega) (by omega)
set_option maxHeartbeats 8000000 in
set_option maxRecDepth 200000 in
theorem ts_X10_readLine_135 {post : Int32 → Int32 → Int32 → Int32 → (Nat → Int32) → (Nat → Int32) → Prop} {aLe : Int32} (bT aG : Int32) (jD : Nat) (m_length oF : Int32) (qO qQ : Nat → Int32) (xJ : 0 ≤ Int32.toInt bT ∧ Int32.toInt bT ≤ 16) (vZ : 0 ≤ Int32.toInt aG ∧ Int32.toInt aG ≤ 8) (yM : jD = 1) (zE : 1 ≤ Int32.toInt m_length ∧ Int32.toInt m_length ≤ 80) (aAR : 76 ≤ Int32.toInt oF ∧ Int32.toInt oF ≤ 76) (zG : ∀ k : Nat, -128 ≤ Int32.toInt (qO k) ∧ Int32.toInt (qO k) ≤ 127) (zI : ∀ k : Nat, -128 ≤ Int32.toInt (qQ k) ∧ Int32.toInt (qQ k) ≤ 127) (hpost : ∀ (aAm : Int32) (zH : Int32) (aCP : Int32) (aB2 : Int32) (aAy : Nat → Int32) (aCh : Nat → Int32), (0 ≤ Int32.toInt aAm ∧ Int32.toInt aAm ≤ 80) → (-1 ≤ Int32.toInt zH ∧ Int32.toInt zH ≤ 80) → (0 ≤ Int32.toInt aCP ∧ Int32.toInt aCP ≤ 16) → (0 ≤ Int32.toInt aB2 ∧ Int32.toInt aB2 ≤ 8) → (∀ k : Nat, k % 4 = 0 → 0 ≤ Int32.toInt (aAy k) ∧ Int32.toInt (aAy k) ≤ 99) → (∀ k : Nat, k % 4 = 1 → 0 ≤ Int32.toInt (aAy k) ∧ Int32.toInt (aAy k) ≤ 99) → (∀ k : Nat, k % 4 = 2 → 0 ≤ Int32.toInt (aAy k) ∧ Int32.toInt (aAy k) ≤ 9) → (∀ k : Nat, k % 4 = 3 → 0 ≤ Int32.toInt (aAy k) ∧ Int32.toInt (aAy k) ≤ 9) → (∀ k : Nat, 0 ≤ Int32.toInt (aAy k) ∧ Int32.toInt (aAy k) ≤ 99) → (∀ k : Nat, 0 ≤ Int32.toInt (aCh k) ∧ Int32.toInt (aCh k) ≤ 99) → (Int32.toInt bT + Int32.toInt aCP ≤ 16) → (Int32.toInt aG + Int32.toInt aB2 ≤ 8) → (Int32.toInt aLe ≤ Int32.toInt aAm) → post aAm zH aCP aB2 aAy aCh) (rP dQ aJ aB : Int32) (qT qA : Nat → Int32) (aA1 : 0 ≤ Int32.toInt rP ∧ Int32.toInt rP ≤ 80) (aAA : -1 ≤ Int32.toInt dQ ∧ Int32.toInt dQ ≤ -1) (aAb : 0 ≤ Int32.toInt aJ ∧ Int32.toInt aJ ≤ 16) (aAJ : 0 ≤ Int32.toInt aB ∧ Int32.toInt aB ≤ 8) (aAe : ∀ k : Nat, k % 4 = 0 → 0 ≤ Int32.toInt (qT k) ∧ Int32.toInt (qT k) ≤ 99) (aAf : ∀ k : Nat, k % 4 = 1 → 0 ≤ Int32.toInt (qT k) ∧ Int32.toInt (qT k) ≤ 99) (aAg : ∀ k : Nat, k % 4 = 2 → 0 ≤ Int32.toInt (qT k) ∧ Int32.toInt (qT k) ≤ 9) (aAh : ∀ k : Nat, k % 4 = 3 → 0 ≤ Int32.toInt (qT k) ∧ Int32.toInt (qT k) ≤ 9) (aAx : ∀ k : Nat, 0 ≤ Int32.toInt (qT k) ∧ Int32.toInt (qT k) ≤ 99) (aAN : ∀ k : Nat, 0 ≤ Int32.toInt (qA k) ∧ Int32.toInt (qA k) ≤ 99) (hx0 : Int32.toInt bT + Int32.toInt aJ ≤ 16) (hx1 : Int32.toInt aG + Int32.toInt aB ≤ 8) (hx2 : Int32.toInt aLe ≤ Int32.toInt rP) : ws_X10_readLine_135 post bT aG jD m_length oF qO qQ rP dQ aJ aB qT qA := by
  have l0 := aI2
  have l1 := aEc
  have l2 := li_115
  have l3 := li_2
  have l4 := li_44
  have l5 := li_8
  refine aOq (by first | exact yM | exact Or.inl rfl | exact Or.inr rfl | omega) (by omega) (by omega) aA1 zG zI (by omega) (fun r30 h_r30 ox31 ox32 => ?_)
  refine And.intro (fun c33 => ?_) (fun c33 => ?_)
  · skip
    have c33 := mt (zJ _ _).mpr c33
    exact ts_X10_readLine_218 bT aG jD m_length oF qO qQ xJ vZ yM zE aAR zG zI hpost rP dQ aJ aB qT qA aA1 aAA aAb aAJ aAe aAf aAg aAh aAx aAN hx0 hx1 hx2
  · skip
    have c33 := (zJ _ _).mp c33
    intro v34 ev34
    have f35 : Int32.toInt (aG + aB) = Int32.toInt aG + Int32.toInt aB := aAD _ _ (by omega)
    rw [← ev34] at f35
    refine And.intro (fun c36 => ?_) (fun c36 => ?_)
    · skip
      have c36 := (aAO _ _).mp c36
      exact ts_X10_readLine_218 bT aG jD m_length oF qO qQ xJ vZ yM zE aAR zG zI hpost rP dQ aJ aB qT qA aA1 aAA aAb aAJ aAe aAf aAg aAh aAx aAN hx0 hx1 hx2
    · skip
      have c36 := mt (aAO _ _).mpr c36
      intro v37 ev37
      have f38 : Int32.toInt (2 * aB) = Int32.toInt aB * 2 := ta_cmul _ _ (by decide) (by omega)
      rw [← ev37] at f38
      intro v39 ev39
      have f40 : Int32.toInt (rP + 1) = Int32.toInt rP + Int32.toInt (1 : Int32) := aAD _ _ (by omega)
      rw [← ev39] at f40
      refine aXA (by omega) (by first | exact yM | exact Or.inl rfl | exact Or.inr rfl | omega) (by omega) (by omega) (by omega) (by omega) zG zI (by omega) (fun r43 m_at_41 m_wrong_42 h_r43 h_m_at_41 h_m_wrong_42 ox44 ox45 ox46 ox47 => ?_)
      refine And.intro (aBZ (by omega)) ?_
      have a48 : ∀ k : Nat, 0 ≤ Int32.toInt ((upd qA v37.toNatClampNeg r43) k) ∧ Int32.toInt ((upd qA v37.toNatClampNeg r43) k) ≤ 99 := t_upd (fun k => by have q9 := aAN k; omega) (by omega)
      refine And.intro (fun c49 => ?_) (fun c49 => ?_)
      · skip
        have c49 := mt (zJ _ _).mpr c49
        refine And.intro (fun _ => ?_) (fun h9 => absurd h9 (by decide))
        refine And.intro (fun h9 => absurd h9 (by decide)) (fun _ => ?_)
        refine And.intro (fun c50 => ?_) (fun c50 => ?_)
        · skip
          have c50 := mt (zJ _ _).mpr c50
          refine And.intro (fun _ => ?_) (fun h9 => absurd h9 (by decide))
          intro v51 ev51
          have f52 : Int32.toInt (v37 + 1) = Int32.toInt v37 + Int32.toInt (1 : Int32) := aAD _ _ (by omega)
          rw [← ev51] at f52
          refine aXA (by omega) (by first | exact yM | exact Or.inl rfl | exact Or.inr rfl | omega) (by omega) (by omega) h_m_at_41 h_m_wrong_42 zG zI (by omega) (fun r55 m_at_53 m_wrong_54 h_r55 h_m_at_53 h_m_wrong_54 ox56 ox57 ox58 ox59 => ?_)
          refine And.intro (aBZ (by omega)) ?_
          have a60 : ∀ k : Nat, 0 ≤ Int32.toInt ((upd (upd qA v37.toNatClampNeg r43) v51.toNatClampNeg r55) k) ∧ Int32.toInt ((upd (upd qA v37.toNatClampNeg r43) v51.toNatClampNeg r55) k) ≤ 99 := t_upd (fun k => by have q9 := a48 k; omega) (by omega)
          intro v61 ev61
          have f62 : Int32.toInt (aB + 1) = Int32.toInt aB + Int32.toInt (1 : Int32) := aAD _ _ (by omega)
          rw [← ev61] at f62
          exact hpost _ _ _ _ _ _ h_m_at_53 h_m_wrong_54 aAb (by omega) aAe aAf aAg aAh aAx (fun k => by have q9 := a60 k; omega) (by omega) (by omega) (by omega)
        · skip
          have c50 := (zJ _ _).mp c50
          exfalso; omega
      · skip
        have c49 := (zJ _ _).mp c49
        refine And.intro (fun h9 => absurd h9 (by decide)) (fun _ => ?_)
        refine aOq (by first | exact yM | exact Or.inl rfl | exact Or.inr rfl | omega) (by omega) (by omega) h_m_at_41 zG zI (by omega) (fun r63 h_r63 ox64 ox65 => ?_)
        refine And.intro (fun c66 => ?_) (fun c66 => ?_)
        · skip
          have c66 := (zJ _ _).mp c66
          intro v67 ev67
          have f68 : Int32.toInt (m_at_41 + 1) = Int32.toInt m_at_41 + Int32.toInt (1 : Int32) := aAD _ _ (by omega)
          rw [← ev67] at f68
          refine And.intro (fun _ => ?_) (fun h9 => absurd h9 (by decide))
          intro v69 ev69
          have f70 : Int32.toInt (v37 + 1) = Int32.toInt v37 + Int32.toInt (1 : Int32) := aAD _ _ (by omega)
          rw [← ev69] at f70
          refine aXA (by omega) (by first | exact yM | exact Or.inl rfl | exact Or.inr rfl | omega) (by omega) (by omega) (by omega) h_m_wrong_42 zG zI (by omega) (fun r73 m_at_71 m_wrong_72 h_r73 h_m_at_71 h_m_wrong_72 ox74 ox75 ox76 ox77 => ?_)
          refine And.intro (aBZ (by omega)) ?_
          have a78 : ∀ k : Nat, 0 ≤ Int32.toInt ((upd (upd qA v37.toNatClampNeg r43) v69.toNatClampNeg r73) k) ∧ Int32.toInt ((upd (upd qA v37.toNatClampNeg r43) v69.toNatClampNeg r73) k) ≤ 99 := t_upd (fun k => by have q9 := a48 k; omega) (by omega)
          intro v79 ev79
          have f80 : Int32.toInt (aB + 1) = Int32.toInt aB + Int32.toInt (1 : Int32) := aAD _ _ (by omega)
          rw [← ev79] at f80
          exact hpost _ _ _ _ _ _ h_m_at_71 h_m_wrong_72 aAb (by omega) aAe aAf aAg aAh aAx (fun k => by have q9 := a78 k; omega) (by omega) (by omega) (by omega)
        · skip
          have c66 := mt (zJ _ _).mpr c66
          refine And.intro (fun h9 => absurd h9 (by decide)) (fun _ => ?_)
          refine And.intro (fun c81 => ?_) (fun c81 => ?_)
          · skip
            have c81 := mt (zJ _ _).mpr c81
            exfalso; omega
          · skip
            have c81 := (zJ _ _).mp c81
            refine And.intro (fun h9 => absurd h9 (by decide)) (fun _ => ?_)
            intro v82 ev82
            have f83 : Int32.toInt (v37 + 1) = Int32.toInt v37 + Int32.toInt (1 : Int32) := aAD _ _ (by omega)
            rw [← ev82] at f83
            refine aXA (by omega) (by first | exact yM | exact Or.inl rfl | exact Or.inr rfl | omega) (by omega) (by omega) h_m_at_41 (by omega) zG zI (by omega) (fun r86 m_at_84 m_wrong_85 h_r86 h_m_at_84 h_m_wrong_85 ox87 ox88 ox89 ox90 => ?_)
            refine And.intro (aBZ (by omega)) ?_
            have a91 : ∀ k : Nat, 0 ≤ Int32.toInt ((upd (upd qA v37.toNatClampNeg r43) v82.toNatClampNeg r86) k) ∧ Int32.toInt ((upd (upd qA v37.toNatClampNeg r43) v82.toNatClampNeg r86) k) ≤ 99 := t_upd (fun k => by have q9 := a48 k; omega) (by omega)
            intro v92 ev92
            have f93 : Int32.toInt (aB + 1) = Int32.toInt aB + Int32.toInt (1 : Int32) := aAD _ _ (by omega)
            rw [← ev92] at f93
            exact hpost _ _ _ _ _ _ h_m_at_84 h_m_wrong_85 aAb (by omega) aAe aAf aAg aAh aAx (fun k => by have q9 := a91 k; omega) (by omega) (by omega) (by omega)
set_option maxHeartbeats 8000000 in
set_option maxRecDepth 200000 in
theorem t_X10_readLine {post : Int32 → Int32 → Int32 → Int32 → (Nat → Int32) → (Nat → Int32) → Prop} {bT aG : Int32} {jD : Nat} {m_length oF rP dQ aJ aB : Int32} {qO qT qA qQ : Nat → Int32} (xJ : 0 ≤ Int32.toInt bT ∧ Int32.toInt bT ≤ 16) (vZ : 0 ≤ Int32.toInt aG ∧ Int32.toInt aG ≤ 8) (yM : jD = 1) (zE : 1 ≤ Int32.toInt m_length ∧ Int32.toInt m_length ≤ 80) (aAR : 76 ≤ Int32.toInt oF ∧ Int32.toInt oF ≤ 76) (aA1 : 0 ≤ Int32.toInt rP ∧ Int32.toInt rP ≤ 80) (aAA : -1 ≤ Int32.toInt dQ ∧ Int32.toInt dQ ≤ -1) (aAb : 0 ≤ Int32.toInt aJ ∧ Int32.toInt aJ ≤ 16) (aAJ : 0 ≤ Int32.toInt aB ∧ Int32.toInt aB ≤ 8) (zG : ∀ k : Nat, -128 ≤ Int32.toInt (qO k) ∧ Int32.toInt (qO k) ≤ 127) (aAe : ∀ k : Nat, k % 4 = 0 → 0 ≤ Int32.toInt (qT k) ∧ Int32.toInt (qT k) ≤ 99) (aAf : ∀ k : Nat, k % 4 = 1 → 0 ≤ Int32.toInt (qT k) ∧ Int32.toInt (qT k) ≤ 99) (aAg : ∀ k : Nat, k % 4 = 2 → 0 ≤ Int32.toInt (qT k) ∧ Int32.toInt (qT k) ≤ 9) (aAh : ∀ k : Nat, k % 4 = 3 → 0 ≤ Int32.toInt (qT k) ∧ Int32.toInt (qT k) ≤ 9) (aAx : ∀ k : Nat, 0 ≤ Int32.toInt (qT k) ∧ Int32.toInt (qT k) ≤ 99) (aAN : ∀ k : Nat, 0 ≤ Int32.toInt (qA k) ∧ Int32.toInt (qA k) ≤ 99) (zI : ∀ k : Nat, -128 ≤ Int32.toInt (qQ k) ∧ Int32.toInt (qQ k) ≤ 127) (hx0 : Int32.toInt bT + Int32.toInt aJ ≤ 16) (hx1 : Int32.toInt aG + Int32.toInt aB ≤ 8) (hpost : ∀ (aAm : Int32) (zH : Int32) (aCP : Int32) (aB2 : Int32) (aAy : Nat → Int32) (aCh : Nat → Int32), (0 ≤ Int32.toInt aAm ∧ Int32.toInt aAm ≤ 80) → (-1 ≤ Int32.toInt zH ∧ Int32.toInt zH ≤ 80) → (0 ≤ Int32.toInt aCP ∧ Int32.toInt aCP ≤ 16) → (0 ≤ Int32.toInt aB2 ∧ Int32.toInt aB2 ≤ 8) → (∀ k : Nat, k % 4 = 0 → 0 ≤ Int32.toInt (aAy k) ∧ Int32.toInt (aAy k) ≤ 99) → (∀ k : Nat, k % 4 = 1 → 0 ≤ Int32.toInt (aAy k) ∧ Int32.toInt (aAy k) ≤ 99) → (∀ k : Nat, k % 4 = 2 → 0 ≤ Int32.toInt (aAy k) ∧ Int32.toInt (aAy k) ≤ 9) → (∀ k : Nat, k % 4 = 3 → 0 ≤ Int32.toInt (aAy k) ∧ Int32.toInt (aAy k) ≤ 9) → (∀ k : Nat, 0 ≤ Int32.toInt (aAy k) ∧ Int32.toInt (aAy k) ≤ 99) → (∀ k : Nat, 0 ≤ Int32.toInt (aCh k) ∧ Int32.toInt (aCh k) ≤ 99) → (Int32.toInt bT + Int32.toInt aCP ≤ 16) → (Int32.toInt aG + Int32.toInt aB2 ≤ 8) → (Int32.toInt rP ≤ Int32.toInt aAm) → post aAm zH aCP aB2 aAy aCh) : bCJ post bT aG jD m_length oF rP dQ aJ aB qO qT qA qQ := by
  have l0 := aI2
  have l1 := aEc
  have l2 := li_102
  have l3 := li_16
  have l4 := li_2
  have l5 := li_4
  have l6 := li_42
  have l7 := li_44
  refine aOq (by first | exact yM | exact Or.inl rfl | exact Or.inr rfl | omega) (by omega) (by omega) aA1 zG zI (by omega) (fun r94 h_r94 ox95 ox96 => ?_)
  refine And.intro (fun c97 => ?_) (fun c97 => ?_)
  · skip
    have c97 := mt (zJ _ _).mpr c97
    exact ts_X10_readLine_135 bT aG jD m_length oF qO qQ xJ vZ yM zE aAR zG zI hpost rP dQ aJ aB qT qA aA1 aAA aAb aAJ aAe aAf aAg aAh aAx aAN (by omega) (by omega) (by omega)
  · skip
    have c97 := (zJ _ _).mp c97
    intro v98 ev98
    have f99 : Int32.toInt (bT + aJ) = Int32.toInt bT + Int32.toInt aJ := aAD _ _ (by omega)
    rw [← ev98] at f99
    refine And.intro (fun c100 => ?_) (fun c100 => ?_)
    · skip
      have c100 := (aAO _ _).mp c100
      exact ts_X10_readLine_135 bT aG jD m_length oF qO qQ xJ vZ yM zE aAR zG zI hpost rP dQ aJ aB qT qA aA1 aAA aAb aAJ aAe aAf aAg aAh aAx aAN (by omega) (by omega) (by omega)
    · skip
      have c100 := mt (aAO _ _).mpr c100
      intro v101 ev101
      have f102 : Int32.toInt (4 * aJ) = Int32.toInt aJ * 4 := ta_cmul _ _ (by decide) (by omega)
      rw [← ev101] at f102
      intro v103 ev103
      have f104 : Int32.toInt (rP + 1) = Int32.toInt rP + Int32.toInt (1 : Int32) := aAD _ _ (by omega)
      rw [← ev103] at f104
      refine aXA (by omega) (by first | exact yM | exact Or.inl rfl | exact Or.inr rfl | omega) (by omega) (by omega) (by omega) (by omega) zG zI (by omega) (fun r107 m_at_105 m_wrong_106 h_r107 h_m_at_105 h_m_wrong_106 ox108 ox109 ox110 ox111 => ?_)
      refine And.intro (aBZ (by omega)) ?_
      have a112 : ∀ k : Nat, 0 ≤ Int32.toInt ((upd qT v101.toNatClampNeg r107) k) ∧ Int32.toInt ((upd qT v101.toNatClampNeg r107) k) ≤ 99 := t_upd (fun k => by have q9 := aAx k; omega) (by omega)
      have e113 : ∀ k : Nat, k % 4 = 0 → 0 ≤ Int32.toInt ((upd qT v101.toNatClampNeg r107) k) ∧ Int32.toInt ((upd qT v101.toNatClampNeg r107) k) ≤ 99 := aCJ (C := fun k => k % 4 = 0) aAe (fun hk => by have e9 : v101.toNatClampNeg = (Int32.toInt v101).toNat := rfl; have hk : v101.toNatClampNeg % 4 = 0 := hk; omega)
      have e114 : ∀ k : Nat, k % 4 = 1 → 0 ≤ Int32.toInt ((upd qT v101.toNatClampNeg r107) k) ∧ Int32.toInt ((upd qT v101.toNatClampNeg r107) k) ≤ 99 := aCJ (C := fun k => k % 4 = 1) aAf (fun hk => by have e9 : v101.toNatClampNeg = (Int32.toInt v101).toNat := rfl; have hk : v101.toNatClampNeg % 4 = 1 := hk; omega)
      have e115 : ∀ k : Nat, k % 4 = 2 → 0 ≤ Int32.toInt ((upd qT v101.toNatClampNeg r107) k) ∧ Int32.toInt ((upd qT v101.toNatClampNeg r107) k) ≤ 9 := aCJ (C := fun k => k % 4 = 2) aAg (fun hk => by have e9 : v101.toNatClampNeg = (Int32.toInt v101).toNat := rfl; have hk : v101.toNatClampNeg % 4 = 2 := hk; omega)
      have e116 : ∀ k : Nat, k % 4 = 3 → 0 ≤ Int32.toInt ((upd qT v101.toNatClampNeg r107) k) ∧ Int32.toInt ((upd qT v101.toNatClampNeg r107) k) ≤ 9 := aCJ (C := fun k => k % 4 = 3) aAh (fun hk => by have e9 : v101.toNatClampNeg = (Int32.toInt v101).toNat := rfl; have hk : v101.toNatClampNeg % 4 = 3 := hk; omega)
      refine And.intro (fun c117 => ?_) (fun c117 => ?_)
      · skip
        have c117 := mt (zJ _ _).mpr c117
        refine And.intro (fun _ => ?_) (fun h9 => absurd h9 (by decide))
        refine And.intro (fun h9 => absurd h9 (by decide)) (fun _ => ?_)
        refine And.intro (fun c118 => ?_) (fun c118 => ?_)
        · skip
          have c118 := mt (zJ _ _).mpr c118
          refine And.intro (fun _ => ?_) (fun h9 => absurd h9 (by decide))
          intro v119 ev119
          have f120 : Int32.toInt (v101 + 1) = Int32.toInt v101 + Int32.toInt (1 : Int32) := aAD _ _ (by omega)
          rw [← ev119] at f120
          refine aXA (by omega) (by first | exact yM | exact Or.inl rfl | exact Or.inr rfl | omega) (by omega) (by omega) h_m_at_105 h_m_wrong_106 zG zI (by omega) (fun r123 m_at_121 m_wrong_122 h_r123 h_m_at_121 h_m_wrong_122 ox124 ox125 ox126 ox127 => ?_)
          refine And.intro (aBZ (by omega)) ?_
          have a128 : ∀ k : Nat, 0 ≤ Int32.toInt ((upd (upd qT v101.toNatClampNeg r107) v119.toNatClampNeg r123) k) ∧ Int32.toInt ((upd (upd qT v101.toNatClampNeg r107) v119.toNatClampNeg r123) k) ≤ 99 := t_upd (fun k => by have q9 := a112 k; omega) (by omega)
          have e129 : ∀ k : Nat, k % 4 = 0 → 0 ≤ Int32.toInt ((upd (upd qT v101.toNatClampNeg r107) v119.toNatClampNeg r123) k) ∧ Int32.toInt ((upd (upd qT v101.toNatClampNeg r107) v119.toNatClampNeg r123) k) ≤ 99 := aCJ (C := fun k => k % 4 = 0) e113 (fun hk => by have e9 : v119.toNatClampNeg = (Int32.toInt v119).toNat := rfl; have hk : v119.toNatClampNeg % 4 = 0 := hk; omega)
          have e130 : ∀ k : Nat, k % 4 = 1 → 0 ≤ Int32.toInt ((upd (upd qT v101.toNatClampNeg r107) v119.toNatClampNeg r123) k) ∧ Int32.toInt ((upd (upd qT v101.toNatClampNeg r107) v119.toNatClampNeg r123) k) ≤ 99 := aCJ (C := fun k => k % 4 = 1) e114 (fun hk => by have e9 : v119.toNatClampNeg = (Int32.toInt v119).toNat := rfl; have hk : v119.toNatClampNeg % 4 = 1 := hk; omega)
          have e131 : ∀ k : Nat, k % 4 = 2 → 0 ≤ Int32.toInt ((upd (upd qT v101.toNatClampNeg r107) v119.toNatClampNeg r123) k) ∧ Int32.toInt ((upd (upd qT v101.toNatClampNeg r107) v119.toNatClampNeg r123) k) ≤ 9 := aCJ (C := fun k => k % 4 = 2) e115 (fun hk => by have e9 : v119.toNatClampNeg = (Int32.toInt v119).toNat := rfl; have hk : v119.toNatClampNeg % 4 = 2 := hk; omega)
          have e132 : ∀ k : Nat, k % 4 = 3 → 0 ≤ Int32.toInt ((upd (upd qT v101.toNatClampNeg r107) v119.toNatClampNeg r123) k) ∧ Int32.toInt ((upd (upd qT v101.toNatClampNeg r107) v119.toNatClampNeg r123) k) ≤ 9 := aCJ (C := fun k => k % 4 = 3) e116 (fun hk => by have e9 : v119.toNatClampNeg = (Int32.toInt v119).toNat := rfl; have hk : v119.toNatClampNeg % 4 = 3 := hk; omega)
          intro v133 ev133
          have f134 : Int32.toInt (v101 + 2) = Int32.toInt v101 + Int32.toInt (2 : Int32) := aAD _ _ (by omega)
          rw [← ev133] at f134
          refine And.intro (fun c135 => ?_) (fun c135 => ?_)
          · skip
            have c135 := mt (zJ _ _).mpr c135
            refine And.intro (fun _ => ?_) (fun h9 => absurd h9 (by decide))
            refine And.intro (fun _ => ?_) (fun h9 => absurd h9 (by decide))
            exact aYe bT aG jD m_length oF qO qQ xJ vZ yM zE aAR zG zI hpost v101 v133 1 m_at_121 m_wrong_122 aJ aB (upd (upd qT v101.toNatClampNeg r107) v119.toNatClampNeg r123) qA (by omega) (by omega) (by omega) h_m_at_121 h_m_wrong_122 aAb aAJ e129 e130 e131 e132 (fun k => by have q9 := a128 k; omega) aAN (by omega) (by omega) (by omega) (by omega) (by omega)
          · skip
            have c135 := (zJ _ _).mp c135
            refine And.intro (fun h9 => absurd h9 (by decide)) (fun _ => ?_)
            refine aOq (by first | exact yM | exact Or.inl rfl | exact Or.inr rfl | omega) (by omega) (by omega) h_m_at_121 zG zI (by omega) (fun r136 h_r136 ox137 ox138 => ?_)
            refine And.intro (fun c139 => ?_) (fun c139 => ?_)
            · skip
              have c139 := (zJ _ _).mp c139
              intro v140 ev140
              have f141 : Int32.toInt (m_at_121 + 1) = Int32.toInt m_at_121 + Int32.toInt (1 : Int32) := aAD _ _ (by omega)
              rw [← ev140] at f141
              refine And.intro (fun h9 => absurd h9 (by decide)) (fun _ => ?_)
              refine aXA (by omega) (by first | exact yM | exact Or.inl rfl | exact Or.inr rfl | omega) (by omega) (by omega) (by omega) h_m_wrong_122 zG zI (by omega) (fun r144 m_at_142 m_wrong_143 h_r144 h_m_at_142 h_m_wrong_143 ox145 ox146 ox147 ox148 => ?_)
              exact aYe bT aG jD m_length oF qO qQ xJ vZ yM zE aAR zG zI hpost v101 v133 r144 m_at_142 m_wrong_143 aJ aB (upd (upd qT v101.toNatClampNeg r107) v119.toNatClampNeg r123) qA (by omega) (by omega) (by omega) h_m_at_142 h_m_wrong_143 aAb aAJ e129 e130 e131 e132 (fun k => by have q9 := a128 k; omega) aAN (by omega) (by omega) (by omega) (by omega) (by omega)
            · skip
              have c139 := mt (zJ _ _).mpr c139
              refine And.intro (fun _ => ?_) (fun h9 => absurd h9 (by decide))
              exact aYe bT aG jD m_length oF qO qQ xJ vZ yM zE aAR zG zI hpost v101 v133 1 m_at_121 m_wrong_122 aJ aB (upd (upd qT v101.toNatClampNeg r107) v119.toNatClampNeg r123) qA (by omega) (by omega) (by omega) h_m_at_121 h_m_wrong_122 aAb aAJ e129 e130 e131 e132 (fun k => by have q9 := a128 k; omega) aAN (by omega) (by omega) (by omega) (by omega) (by omega)
        · skip
          have c118 := (zJ _ _).mp c118
          exfalso; omega
      · skip
        have c117 := (zJ _ _).mp c117
        refine And.intro (fun h9 => absurd h9 (by decide)) (fun _ => ?_)
        refine aOq (by first | exact yM | exact Or.inl rfl | exact Or.inr rfl | omega) (by omega) (by omega) h_m_at_105 zG zI (by omega) (fun r149 h_r149 ox150 ox151 => ?_)
        refine And.intro (fun c152 => ?_) (fun c152 => ?_)
        · skip
          have c152 := (zJ _ _).mp c152
          intro v153 ev153
          have f154 : Int32.toInt (m_at_105 + 1) = Int32.toInt m_at_105 + Int32.toInt (1 : Int32) := aAD _ _ (by omega)
          rw [← ev153] at f154
          refine And.intro (fun _ => ?_) (fun h9 => absurd h9 (by decide))
          intro v155 ev155
          have f156 : Int32.toInt (v101 + 1) = Int32.toInt v101 + Int32.toInt (1 : Int32) := aAD _ _ (by omega)
          rw [← ev155] at f156
          refine aXA (by omega) (by first | exact yM | exact Or.inl rfl | exact Or.inr rfl | omega) (by omega) (by omega) (by omega) h_m_wrong_106 zG zI (by omega) (fun r159 m_at_157 m_wrong_158 h_r159 h_m_at_157 h_m_wrong_158 ox160 ox161 ox162 ox163 => ?_)
          refine And.intro (aBZ (by omega)) ?_
          have a164 : ∀ k : Nat, 0 ≤ Int32.toInt ((upd (upd qT v101.toNatClampNeg r107) v155.toNatClampNeg r159) k) ∧ Int32.toInt ((upd (upd qT v101.toNatClampNeg r107) v155.toNatClampNeg r159) k) ≤ 99 := t_upd (fun k => by have q9 := a112 k; omega) (by omega)
          have e165 : ∀ k : Nat, k % 4 = 0 → 0 ≤ Int32.toInt ((upd (upd qT v101.toNatClampNeg r107) v155.toNatClampNeg r159) k) ∧ Int32.toInt ((upd (upd qT v101.toNatClampNeg r107) v155.toNatClampNeg r159) k) ≤ 99 := aCJ (C := fun k => k % 4 = 0) e113 (fun hk => by have e9 : v155.toNatClampNeg = (Int32.toInt v155).toNat := rfl; have hk : v155.toNatClampNeg % 4 = 0 := hk; omega)
          have e166 : ∀ k : Nat, k % 4 = 1 → 0 ≤ Int32.toInt ((upd (upd qT v101.toNatClampNeg r107) v155.toNatClampNeg r159) k) ∧ Int32.toInt ((upd (upd qT v101.toNatClampNeg r107) v155.toNatClampNeg r159) k) ≤ 99 := aCJ (C := fun k => k % 4 = 1) e114 (fun hk => by have e9 : v155.toNatClampNeg = (Int32.toInt v155).toNat := rfl; have hk : v155.toNatClampNeg % 4 = 1 := hk; omega)
          have e167 : ∀ k : Nat, k % 4 = 2 → 0 ≤ Int32.toInt ((upd (upd qT v101.toNatClampNeg r107) v155.toNatClampNeg r159) k) ∧ Int32.toInt ((upd (upd qT v101.toNatClampNeg r107) v155.toNatClampNeg r159) k) ≤ 9 := aCJ (C := fun k => k % 4 = 2) e115 (fun hk => by have e9 : v155.toNatClampNeg = (Int32.toInt v155).toNat := rfl; have hk : v155.toNatClampNeg % 4 = 2 := hk; omega)
          have e168 : ∀ k : Nat, k % 4 = 3 → 0 ≤ Int32.toInt ((upd (upd qT v101.toNatClampNeg r107) v155.toNatClampNeg r159) k) ∧ Int32.toInt ((upd (upd qT v101.toNatClampNeg r107) v155.toNatClampNeg r159) k) ≤ 9 := aCJ (C := fun k => k % 4 = 3) e116 (fun hk => by have e9 : v155.toNatClampNeg = (Int32.toInt v155).toNat := rfl; have hk : v155.toNatClampNeg % 4 = 3 := hk; omega)
          intro v169 ev169
          have f170 : Int32.toInt (v101 + 2) = Int32.toInt v101 + Int32.toInt (2 : Int32) := aAD _ _ (by omega)
          rw [← ev169] at f170
          refine And.intro (fun c171 => ?_) (fun c171 => ?_)
          · skip
            have c171 := mt (zJ _ _).mpr c171
            refine And.intro (fun _ => ?_) (fun h9 => absurd h9 (by decide))
            refine And.intro (fun _ => ?_) (fun h9 => absurd h9 (by decide))
            exact aYe bT aG jD m_length oF qO qQ xJ vZ yM zE aAR zG zI hpost v101 v169 1 m_at_157 m_wrong_158 aJ aB (upd (upd qT v101.toNatClampNeg r107) v155.toNatClampNeg r159) qA (by omega) (by omega) (by omega) h_m_at_157 h_m_wrong_158 aAb aAJ e165 e166 e167 e168 (fun k => by have q9 := a164 k; omega) aAN (by omega) (by omega) (by omega) (by omega) (by omega)
          · skip
            have c171 := (zJ _ _).mp c171
            refine And.intro (fun h9 => absurd h9 (by decide)) (fun _ => ?_)
            refine aOq (by first | exact yM | exact Or.inl rfl | exact Or.inr rfl | omega) (by omega) (by omega) h_m_at_157 zG zI (by omega) (fun r172 h_r172 ox173 ox174 => ?_)
            refine And.intro (fun c175 => ?_) (fun c175 => ?_)
            · skip
              have c175 := (zJ _ _).mp c175
              intro v176 ev176
              have f177 : Int32.toInt (m_at_157 + 1) = Int32.toInt m_at_157 + Int32.toInt (1 : Int32) := aAD _ _ (by omega)
              rw [← ev176] at f177
              refine And.intro (fun h9 => absurd h9 (by decide)) (fun _ => ?_)
              refine aXA (by omega) (by first | exact yM | exact Or.inl rfl | exact Or.inr rfl | omega) (by omega) (by omega) (by omega) h_m_wrong_158 zG zI (by omega) (fun r180 m_at_178 m_wrong_179 h_r180 h_m_at_178 h_m_wrong_179 ox181 ox182 ox183 ox184 => ?_)
              exact aYe bT aG jD m_length oF qO qQ xJ vZ yM zE aAR zG zI hpost v101 v169 r180 m_at_178 m_wrong_179 aJ aB (upd (upd qT v101.toNatClampNeg r107) v155.toNatClampNeg r159) qA (by omega) (by omega) (by omega) h_m_at_178 h_m_wrong_179 aAb aAJ e165 e166 e167 e168 (fun k => by have q9 := a164 k; omega) aAN (by omega) (by omega) (by omega) (by omega) (by omega)
            · skip
              have c175 := mt (zJ _ _).mpr c175
              refine And.intro (fun _ => ?_) (fun h9 => absurd h9 (by decide))
              exact aYe bT aG jD m_length oF qO qQ xJ vZ yM zE aAR zG zI hpost v101 v169 1 m_at_157 m_wrong_158 aJ aB (upd (upd qT v101.toNatClampNeg r107) v155.toNatClampNeg r159) qA (by omega) (by omega) (by omega) h_m_at_157 h_m_wrong_158 aAb aAJ e165 e166 e167 e168 (fun k => by have q9 := a164 k; omega) aAN (by omega) (by omega) (by omega) (by omega) (by omega)
        · skip
          have c152 := mt (zJ _ _).mpr c152
          refine And.intro (fun h9 => absurd h9 (by decide)) (fun _ => ?_)
          refine And.intro (fun c185 => ?_) (fun c185 => ?_)
          · skip
            have c185 := mt (zJ _ _).mpr c185
            exfalso; omega
          · skip
            have c185 := (zJ _ _).mp c185
            refine And.intro (fun h9 => absurd h9 (by decide)) (fun _ => ?_)
            intro v186 ev186
            have f187 : Int32.toInt (v101 + 1) = Int32.toInt v101 + Int32.toInt (1 : Int32) := aAD _ _ (by omega)
            rw [← ev186] at f187
            refine aXA (by omega) (by first | exact yM | exact Or.inl rfl | exact Or.inr rfl | omega) (by omega) (by omega) h_m_at_105 (by omega) zG zI (by omega) (fun r190 m_at_188 m_wrong_189 h_r190 h_m_at_188 h_m_wrong_189 ox191 ox192 ox193 ox194 => ?_)
            refine And.intro (aBZ (by omega)) ?_
            have a195 : ∀ k : Nat, 0 ≤ Int32.toInt ((upd (upd qT v101.toNatClampNeg r107) v186.toNatClampNeg r190) k) ∧ Int32.toInt ((upd (upd qT v101.toNatClampNeg r107) v186.toNatClampNeg r190) k) ≤ 99 := t_upd (fun k => by have q9 := a112 k; omega) (by omega)
            have e196 : ∀ k : Nat, k % 4 = 0 → 0 ≤ Int32.toInt ((upd (upd qT v101.toNatClampNeg r107) v186.toNatClampNeg r190) k) ∧ Int32.toInt ((upd (upd qT v101.toNatClampNeg r107) v186.toNatClampNeg r190) k) ≤ 99 := aCJ (C := fun k => k % 4 = 0) e113 (fun hk => by have e9 : v186.toNatClampNeg = (Int32.toInt v186).toNat := rfl; have hk : v186.toNatClampNeg % 4 = 0 := hk; omega)
            have e197 : ∀ k : Nat, k % 4 = 1 → 0 ≤ Int32.toInt ((upd (upd qT v101.toNatClampNeg r107) v186.toNatClampNeg r190) k) ∧ Int32.toInt ((upd (upd qT v101.toNatClampNeg r107) v186.toNatClampNeg r190) k) ≤ 99 := aCJ (C := fun k => k % 4 = 1) e114 (fun hk => by have e9 : v186.toNatClampNeg = (Int32.toInt v186).toNat := rfl; have hk : v186.toNatClampNeg % 4 = 1 := hk; omega)
            have e198 : ∀ k : Nat, k % 4 = 2 → 0 ≤ Int32.toInt ((upd (upd qT v101.toNatClampNeg r107) v186.toNatClampNeg r190) k) ∧ Int32.toInt ((upd (upd qT v101.toNatClampNeg r107) v186.toNatClampNeg r190) k) ≤ 9 := aCJ (C := fun k => k % 4 = 2) e115 (fun hk => by have e9 : v186.toNatClampNeg = (Int32.toInt v186).toNat := rfl; have hk : v186.toNatClampNeg % 4 = 2 := hk; omega)
            have e199 : ∀ k : Nat, k % 4 = 3 → 0 ≤ Int32.toInt ((upd (upd qT v101.toNatClampNeg r107) v186.toNatClampNeg r190) k) ∧ Int32.toInt ((upd (upd qT v101.toNatClampNeg r107) v186.toNatClampNeg r190) k) ≤ 9 := aCJ (C := fun k => k % 4 = 3) e116 (fun hk => by have e9 : v186.toNatClampNeg = (Int32.toInt v186).toNat := rfl; have hk : v186.toNatClampNeg % 4 = 3 := hk; omega)
            intro v200 ev200
            have f201 : Int32.toInt (v101 + 2) = Int32.toInt v101 + Int32.toInt (2 : Int32) := aAD _ _ (by omega)
            rw [← ev200] at f201
            refine And.intro (fun c202 => ?_) (fun c202 => ?_)
            · skip
              have c202 := mt (zJ _ _).mpr c202
              refine And.intro (fun _ => ?_) (fun h9 => absurd h9 (by decide))
              refine And.intro (fun _ => ?_) (fun h9 => absurd h9 (by decide))
              exact aYe bT aG jD m_length oF qO qQ xJ vZ yM zE aAR zG zI hpost v101 v200 1 m_at_188 m_wrong_189 aJ aB (upd (upd qT v101.toNatClampNeg r107) v186.toNatClampNeg r190) qA (by omega) (by omega) (by omega) h_m_at_188 h_m_wrong_189 aAb aAJ e196 e197 e198 e199 (fun k => by have q9 := a195 k; omega) aAN (by omega) (by omega) (by omega) (by omega) (by omega)
            · skip
              have c202 := (zJ _ _).mp c202
              refine And.intro (fun h9 => absurd h9 (by decide)) (fun _ => ?_)
              refine aOq (by first | exact yM | exact Or.inl rfl | exact Or.inr rfl | omega) (by omega) (by omega) h_m_at_188 zG zI (by omega) (fun r203 h_r203 ox204 ox205 => ?_)
              refine And.intro (fun c206 => ?_) (fun c206 => ?_)
              · skip
                have c206 := (zJ _ _).mp c206
                intro v207 ev207
                have f208 : Int32.toInt (m_at_188 + 1) = Int32.toInt m_at_188 + Int32.toInt (1 : Int32) := aAD _ _ (by omega)
                rw [← ev207] at f208
                refine And.intro (fun h9 => absurd h9 (by decide)) (fun _ => ?_)
                refine aXA (by omega) (by first | exact yM | exact Or.inl rfl | exact Or.inr rfl | omega) (by omega) (by omega) (by omega) h_m_wrong_189 zG zI (by omega) (fun r211 m_at_209 m_wrong_210 h_r211 h_m_at_209 h_m_wrong_210 ox212 ox213 ox214 ox215 => ?_)
                exact aYe bT aG jD m_length oF qO qQ xJ vZ yM zE aAR zG zI hpost v101 v200 r211 m_at_209 m_wrong_210 aJ aB (upd (upd qT v101.toNatClampNeg r107) v186.toNatClampNeg r190) qA (by omega) (by omega) (by omega) h_m_at_209 h_m_wrong_210 aAb aAJ e196 e197 e198 e199 (fun k => by have q9 := a195 k; omega) aAN (by omega) (by omega) (by omega) (by omega) (by omega)
              · skip
                have c206 := mt (zJ _ _).mpr c206
                refine And.intro (fun _ => ?_) (fun h9 => absurd h9 (by decide))
                exact aYe bT aG jD m_length oF qO qQ xJ vZ yM zE aAR zG zI hpost v101 v200 1 m_at_188 m_wrong_189 aJ aB (upd (upd qT v101.toNatClampNeg r107) v186.toNatClampNeg r190) qA (by omega) (by omega) (by omega) h_m_at_188 h_m_wrong_189 aAb aAJ e196 e197 e198 e199 (fun k => by have q9 := a195 k; omega) aAN (by omega) (by omega) (by omega) (by omega) (by omega)
