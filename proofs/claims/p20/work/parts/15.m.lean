/-! pick (printed by mo6.py) -/
theorem yn_eq (p : Int32) : F_X9_isYesOrNo p = aUe p 0 1 := by
  have l0 : Int32.toInt (0 : Int32) = 0 := by decide
  have l1 : Int32.toInt (1 : Int32) = 1 := by decide
  rw [F_X9_isYesOrNo, j_X9_isYesOrNo_9]
  by_cases c0 : p = 0
  · rw [if_pos c0, c0]; decide
  · rw [if_neg c0]
    by_cases c1 : p = 1
    · rw [if_pos c1, c1]; decide
    · rw [if_neg c1]
      have d0 := mt (zJ _ _).mpr c0
      have d1 := mt (zJ _ _).mpr c1
      rcases in01 p 0 1 with ⟨q, _⟩ | ⟨_, q⟩
      · exact q.symm
      · exfalso; omega
section PICK
variable {fr sd ap ba gr br la he td cl : Int32} {x h w r ft fk mx mh mw mr mf mk st told now : Nat → Int32}
theorem ps_r {p k a b rl : Int32} {rg rs rp : Nat → Int32} : 1 ≤ Int32.toInt (bBV p a k b fr x h w ft fk br rl rg rs rp).1 := by
  have l1 : Int32.toInt (1 : Int32) = 1 := by decide
  have key : ∀ v : Int32, 1 ≤ Int32.toInt (if 1 < v then v else 1) := by
    intro v
    by_cases c : 1 < v
    · have := (aAd _ _).mp c
      rw [if_pos c]; omega
    · rw [if_neg c]; omega
  rw [bBV, j_X0_pickSeconds_92]
  by_cases c : rl = 0
  · rw [if_pos c, j_X0_pickSeconds_123]; exact key _
  · rw [if_neg c, j_X0_pickSeconds_123]; exact key _
theorem MQm_pick (bf : 0 ≤ fr.toInt ∧ fr.toInt ≤ 16) {p nb : Int32} (hp : 0 ≤ p.toInt ∧ p.toInt < fr.toInt) (mq : MQm fr ap ba gr br la he td now) (h0 : now p.toInt.toNat = 0) (v : Int32) : MQm fr (ap ||| (1 <<< (p &&& 31))) ba gr nb la he td (F_X10_passBy v (upd (upd now (16 : Int32).toNatClampNeg nb) p.toNatClampNeg 1)) := by
  refine MQm_pass ?_ bf.2 v
  obtain ⟨⟨m1, m2⟩, a, b, c, d⟩ := mq
  have e := cl_n p
  rw [c16, e]
  obtain ⟨g1, g2, g3⟩ := (mo_0 (show MO fr ap ba gr now from ⟨m1, m2⟩) (j := p.toInt.toNat) (by omega)).mp h0
  refine ⟨⟨fun j hj => ?_, fun j hj => ?_⟩, ?_, ?_, ?_, ?_⟩
  · rw [bt_or, bt_shl p (by omega)]
    by_cases hj2 : j = p.toInt.toNat
    · rw [hj2, upd_i, g1, g2, g3, decide_eq_true rfl]
      exact Or.inr (Or.inl ⟨rfl, rfl, rfl, rfl⟩)
    · rw [aGi _ _ hj2, aGi _ _ (by omega), decide_eq_false hj2, Bool.or_false]
      exact m1 j hj
  · obtain ⟨q1, q2, q3⟩ := m2 j hj
    rw [bt_or, bt_shl p (by omega), q1, decide_eq_false (by omega)]
    exact ⟨rfl, q2, q3⟩
  · rw [aGi _ _ (by omega), upd_i]
  · rw [aGi _ _ (by omega), aGi _ _ (by decide)]; exact b
  · rw [aGi _ _ (by omega), aGi _ _ (by decide)]; exact c
  · rw [aGi _ _ (by omega), aGi _ _ (by decide)]; exact d
theorem pick_g (T : TR fr sd x h w r ft fk mx mh mw mr mf mk) (hst2 : ∀ k : Nat, k < 5 → st k = told k) (hm : MR fr sd ap ba gr br la he td now) (p k : Int32) {rl : Int32} {rg rs rp : Nat → Int32} :
    (Int32.toInt (aG4 p k fr x h w r ft fk st ap ba gr br la he td cl rl rg rs rp).1 < 0 ∧ F_X10_refusesPick p k fr now mx mh mr mf mk told = (aG4 p k fr x h w r ft fk st ap ba gr br la he td cl rl rg rs rp).1 ∧ (aG4 p k fr x h w r ft fk st ap ba gr br la he td cl rl rg rs rp).2.1 = ap ∧ (aG4 p k fr x h w r ft fk st ap ba gr br la he td cl rl rg rs rp).2.2.1 = br)
    ∨ (0 ≤ Int32.toInt (aG4 p k fr x h w r ft fk st ap ba gr br la he td cl rl rg rs rp).1 ∧ F_X10_refusesPick p k fr now mx mh mr mf mk told = 0 ∧ ∀ v : Int32, MR fr sd (aG4 p k fr x h w r ft fk st ap ba gr br la he td cl rl rg rs rp).2.1 ba gr (aG4 p k fr x h w r ft fk st ap ba gr br la he td cl rl rg rs rp).2.2.1 la he td (F_X10_passBy v (upd (upd now (16 : Int32).toNatClampNeg ((now (16 : Int32).toNatClampNeg) ||| (F_X10_below p (aUf 0 fr now) fr mx mh))) p.toNatClampNeg 1))) := by
  have bf := T.2.2.1
  have lm : Int32.toInt (-1 : Int32) = -1 := by decide
  obtain ⟨mq, lq⟩ := hm
  have neg : ∀ a : Int32, a.toInt < 0 → ∀ (b c : Int32) (f g : Nat → Int32), (Int32.toInt (a, ap, br, b, f, g).1 < 0 ∧ a = (a, ap, br, b, f, g).1 ∧ (a, ap, br, b, f, g).2.1 = ap ∧ (a, ap, br, b, f, g).2.2.1 = br) := fun a ha b c f g => ⟨ha, rfl, rfl, rfl⟩
  rw [aG4, F_X10_refusesPick, yn_eq, c17, c18, c19, ← mq.2.2.1, ← mq.2.2.2.1, ← mq.2.2.2.2, mo_ap mq.1 bf]
  rcases hfr (p := p) (fr := fr) (by omega) with ⟨a, b, _⟩ | ⟨a, b, g⟩
  · rw [if_pos a, if_pos b]; exact Or.inl ⟨i_m1, rfl, rfl, rfl⟩
  · rw [if_neg (neg1 a), if_neg (neg1 b)]
    rcases in01 k 0 1 with ⟨q, _⟩ | ⟨q, _⟩
    · rw [if_pos q, if_pos q]; exact Or.inl ⟨i_m1, rfl, rfl, rfl⟩
    · rw [if_neg (neg1 q), if_neg (neg1 q)]
      have e := cl_n p
      have hh := hs_i (aVS fr ap ba gr) (f := p) (by omega)
      have h9 := hg_bt (ap := ap) (ba := ba) (gr := gr) bf p.toInt.toNat
      have m0 := mo_0 mq.1 (j := p.toInt.toNat) (by omega)
      rw [decide_eq_true (show p.toInt.toNat < fr.toInt.toNat by omega), Bool.true_and] at h9
      by_cases c : now p.toInt.toNat = 0
      · have hb : bt (aVS fr ap ba gr) p.toInt.toNat = true := by
          obtain ⟨g1, g2, g3⟩ := m0.mp c
          rw [h9, g1, g2, g3]; rfl
        rw [if_neg (fun c2 => by have := hh.mp c2; rw [hb] at this; exact absurd this (by decide)), e, if_pos c, (T.1 p.toInt.toNat (by omega)).2.2.2]
        by_cases c3 : mr p.toInt.toNat ≤ td
        · rw [if_pos c3, if_pos c3]
          by_cases c4 : la = -1
          · rw [if_pos c4, if_pos c4]; exact Or.inl ⟨(by decide : Int32.toInt (-4 : Int32) < 0), rfl, rfl, rfl⟩
          · have d4 := mt (zJ _ _).mpr c4
            have hla : 0 ≤ la.toInt ∧ la.toInt < sd.toInt := by have := lq.1; omega
            rw [if_neg c4, if_neg c4, rch_eq hst2, iw_eq T _ g hla]
            by_cases c5 : bAx p la (F_X10_reachBy he k told) mx mh mf mk = 0
            · rw [if_pos c5, if_pos c5]; exact Or.inl ⟨(by decide : Int32.toInt (-4 : Int32) < 0), rfl, rfl, rfl⟩
            · rw [if_neg c5, if_neg c5, hst2 _ (by decide)]
              by_cases c6 : aLS ap < told (4 : Int32).toNatClampNeg
              · rw [if_pos c6, if_pos c6]
                have r9 := ps_r (fr := fr) (x := x) (h := h) (w := w) (ft := ft) (fk := fk) (br := br) (p := p) (k := k) (a := la) (b := aLS ap) (rl := rl) (rg := rg) (rs := rs) (rp := rp)
                refine Or.inr ⟨by show 0 ≤ Int32.toInt (bBV p la k (aLS ap) fr x h w ft fk br rl rg rs rp).1; omega, rfl, fun v => ⟨?_, lq⟩⟩
                rw [mo_hg mq.1 bf, ← lw_eq T g hb, c16, ← mq.2.1, ← c16, ← e]
                exact MQm_pick bf g mq c v
              · rw [if_neg c6, if_neg c6]; exact Or.inl ⟨(by decide : Int32.toInt (-5 : Int32) < 0), rfl, rfl, rfl⟩
        · rw [if_neg c3, if_neg c3]; exact Or.inl ⟨(by decide : Int32.toInt (-3 : Int32) < 0), rfl, rfl, rfl⟩
      · have hb : bt (aVS fr ap ba gr) p.toInt.toNat = false := by
          cases hx : bt (aVS fr ap ba gr) p.toInt.toNat
          · rfl
          · exact absurd (m0.mpr (hg_in bf hx).2) c
        rw [if_pos (hh.mpr hb), e, if_neg c]; exact Or.inl ⟨(by decide : Int32.toInt (-2 : Int32) < 0), rfl, rfl, rfl⟩
end PICK
theorem gp_w {P Q : Int32 → Nat → Int32 → Int32 → Int32 → Int32 → Int32 → Int32 → Int32 → Int32 → Int32 → (Nat → Int32) → Prop} {p0 p1 bT : Int32} {jD : Nat} {m_length oF rP dQ bW bZ aR aE bI aW : Int32} {qG m_x gR pW nG oO qO qQ : Nat → Int32} (h : wp_X10_goPick P p0 p1 bT jD m_length oF rP dQ bW bZ aR aE bI aW qG m_x gR pW nG oO qO qQ) (hq : ∀ (o0 : Int32) (o1 : Nat) (o2 o3 o4 o5 o6 o7 o8 o9 o10 : Int32) (o11 : Nat → Int32), P o0 o1 o2 o3 o4 o5 o6 o7 o8 o9 o10 o11 → (∃ v : Int32, o11 = F_X10_passBy v (upd (upd qG (16 : Int32).toNatClampNeg ((qG (16 : Int32).toNatClampNeg) ||| (F_X10_below p0 (aUf 0 bT qG) bT m_x gR))) p0.toNatClampNeg 1)) → Q o0 o1 o2 o3 o4 o5 o6 o7 o8 o9 o10 o11) : wp_X10_goPick Q p0 p1 bT jD m_length oF rP dQ bW bZ aR aE bI aW qG m_x gR pW nG oO qO qQ := by
  unfold wp_X10_goPick at h ⊢
  refine ae ?_
  have h := h _ rfl
  refine du_X10_which h ?_
  intro h
  refine du_J6_bitCount_0f7a4 h ?_
  intro h
  refine mn_X10_secondsOf h ?_
  intro z0 z1 z2 z3 z4 z5 z6 z7 z8 z9 z10 h
  refine ae ?_
  have h := h _ rfl
  refine du_X10_which h ?_
  intro h
  refine du_X10_below h ?_
  intro h
  refine ae ?_
  have h := h _ rfl
  refine And.intro (And.left h) ?_
  have h := And.right h
  refine du_X10_passBy h ?_
  intro h
  exact hq _ _ _ _ _ _ _ _ _ _ _ _ h ⟨z0, rfl⟩
/-- what pick leaves behind: of the class (its garden's pick) and of the reference -/
theorem pick_w {Q : Int32 → Int32 → Nat → Int32 → Int32 → Int32 → Int32 → Int32 → Int32 → Int32 → Int32 → Int32 → Int32 → (Nat → Int32) → (Nat → Int32) → Prop} {p0 p1 bT bY : Int32} {jD : Nat} {m_length oF rP dQ bW bZ aR aE bI aW bU : Int32} {qG m_x gR pW qR nG oO pJ qO qQ uL : Nat → Int32} {p9 k9 fr9 sd ap ba gr br la he td cl rl und free r1 ap1 br1 cl1 und1 free1 : Int32} {x h w r ft fk mw mf2 st rg rs rp rg1 rs1 cells cells1 : Nat → Int32} (e9 : (r1, ap1, br1, cl1, rg1, rs1, und1, free1, cells1) = F_X9_pick p9 k9 fr9 x h w r ft fk st ap ba gr br la he td cl rl rg rs rp und free cells) (T : TR bT sd x h w r ft fk m_x gR mw qR nG oO) (hst2 : ∀ k : Nat, k < 5 → st k = pJ k) (hp : p0 = p9) (hk : p1 = k9) (hf : fr9 = bT) (hm : MR bT sd ap ba gr br la he td qG) (hu : UR bT sd und free bU cells uL) (h9 : wp_X10_pick (fun o0 o1 o2 o3 o4 o5 o6 o7 o8 o9 o10 o11 o12 o13 o14 => MR bT sd ap1 ba gr br1 la he td o13 ∧ UR bT sd und1 free1 o12 cells1 o14 → Q o0 o1 o2 o3 o4 o5 o6 o7 o8 o9 o10 o11 o12 o13 o14) p0 p1 bT bY jD m_length oF rP dQ bW bZ aR aE bI aW bU qG m_x gR pW qR nG oO pJ qO qQ uL) : wp_X10_pick Q p0 p1 bT bY jD m_length oF rP dQ bW bZ aR aE bI aW bU qG m_x gR pW qR nG oO pJ qO qQ uL := by
  subst hp hk hf
  have l0 : Int32.toInt (0 : Int32) = 0 := by decide
  have bf := T.2.2.1
  unfold wp_X10_pick at h9 ⊢
  refine du_X10_refusesPick h9 ?_
  intro h9
  rw [F_X9_pick] at e9
  rcases pick_g (cl := cl) T hst2 hm p0 p1 (rl := rl) (rg := rg) (rs := rs) (rp := rp) with ⟨a, b, c, d⟩ | ⟨a, b, c⟩
  · rw [hid_n a, c, d] at e9
    simp only [Prod.mk.injEq] at e9
    obtain ⟨rfl, rfl, rfl, rfl, rfl, rfl, rfl, rfl, rfl⟩ := e9
    refine And.intro (fun c1 => ?_) (fun c1 => ?_)
    · exfalso
      rw [b] at c1
      have := (aAO _ _).mp c1
      omega
    · exact And.right h9 c1 ⟨hm, UR_note hu bf.2⟩
  · rw [hid_y a] at e9
    simp only [Prod.mk.injEq] at e9
    obtain ⟨rfl, rfl, rfl, rfl, rfl, rfl, rfl, rfl, rfl⟩ := e9
    refine And.intro (fun c1 => ?_) (fun c1 => ?_)
    · have h9 := And.left h9 c1
      refine du_X10_remember h9 ?_
      intro h9
      refine gp_w h9 ?_
      intro o0 o1 o2 o3 o4 o5 o6 o7 o8 o9 o10 o11 h9 hv
      obtain ⟨v, rfl⟩ := hv
      exact h9 ⟨c v, UR_hold hu bf.2 hm⟩
    · exfalso
      rw [b] at c1
      exact c1 (by decide)
