noncomputable abbrev wd_X9_set (cI cC cZ cB cJ : ClassId) (a_x xG xD wY wJ wQ xI xK xJ tW tX jE mX pD oO oQ eG : Nat) (bZ bD bI aI : Int32) (dQ : Nat → Int32) : va_W := [(a_x, .inr (9, [.ref xG, .ref xD, .ref wY, .ref wJ, .ref wQ, .ref xI, .ref xK, .ref xJ, .ref tW])), (wJ, .inr (3, [.ref tX, .ref jE, .ref mX, .ref pD, .ref oO, .ref oQ, .ref eG, .int bZ, .int bD, .int bI, .int aI])), (eG, .inl (cI, 5, .inl dQ))]
noncomputable abbrev q_X9_set (dC : Nat → ClassId) (dI : Nat → Nat → Nat) (cI cC cZ cB cJ : ClassId) (A : Nat → Prop) (a_x xG xD wY wJ wQ xI xK xJ tW tX jE mX pD oO oQ eG : Nat) (bZ bD bI aI : Int32) (post : Int32 → (Nat → Int32) → Prop) : Array Value → State → Outcome → State → Prop := va_Qi (fun (r : Int32) (u : (Nat → Int32)) => post r u) (fun u t => gB (dC, dI) (tyl cI cC cZ cB cJ) A (wd_X9_set cI cC cZ cB cJ a_x xG xD wY wJ wQ xI xK xJ tW tX jE mX pD oO oQ eG bZ bD bI aI u) t) A
noncomputable abbrev rm_X9_set : Room := { frames := 0, cells := 0, slots := 0, locals := 0 }
noncomputable def wp_X9_set (post : Int32 → (Nat → Int32) → Prop) (p0 p1 : Int32) (dQ : Nat → Int32) : Prop := (p0 < 0 → post (-1) dQ) ∧ (¬ p0 < 0 → (4 < p0 → post (-1) dQ) ∧ (¬ 4 < p0 → vp_in p0 5 ∧ ((p1 < (stL p0.toNatClampNeg) → post (-1) dQ) ∧ (¬ p1 < (stL p0.toNatClampNeg) → vp_in p0 5 ∧ ((p1 ≤ (stM p0.toNatClampNeg) → vp_in p0 5 ∧ (∀ v_1 : Int32, v_1 = dQ p0.toNatClampNeg → vp_in p0 5 ∧ (post v_1 (upd dQ p0.toNatClampNeg p1)))) ∧ (¬ p1 ≤ (stM p0.toNatClampNeg) → post (-1) dQ))))))
set_option maxHeartbeats 4000000 in
set_option maxRecDepth 100000 in
theorem c_X9_set (l : Launch) (dC : Nat → ClassId) (dI : Nat → Nat → Nat) (cI cC cZ cB cJ : ClassId) (a_x xG xD wY wJ wQ xI xK xJ tW tX jE mX pD oO oQ eG sz : Nat) (p0 p1 bZ bD bI aI : Int32) (dQ : Nat → Int32) (post : Int32 → (Nat → Int32) → Prop) (hw : wp_X9_set post p0 p1 dQ) : Met l yX9_set (gw yX9_set cX9_set 4 (some .int)) rm_X9_set (va_Pc [.ref a_x, .int p0, .int p1] (gPre (dC, dI) (tyl cI cC cZ cB cJ) (wd_X9_set cI cC cZ cB cJ a_x xG xD wY wJ wQ xI xK xJ tW tX jE mX pD oO oQ eG bZ bD bI aI dQ) sz)) (q_X9_set dC dI cI cC cZ cB cJ (va_A (wd_X9_set cI cC cZ cB cJ a_x xG xD wY wJ wQ xI xK xJ tW tX jE mX pD oO oQ eG bZ bD bI aI dQ) sz) a_x xG xD wY wJ wQ xI xK xJ tW tX jE mX pD oO oQ eG bZ bD bI aI post) 0 0 (va_A (wd_X9_set cI cC cZ cB cJ a_x xG xD wY wJ wQ xI xK xJ tW tX jE mX pD oO oQ eG bZ bD bI aI dQ) sz) := by
  refine g_enter (own := RX9) (dC, dI) (tyl cI cC cZ cB cJ) (wd_X9_set cI cC cZ cB cJ a_x xG xD wY wJ wQ xI xK xJ tW tX jE mX pD oO oQ eG bZ bD bI aI dQ) sz [.ref a_x, .int p0, .int p1] (fun A => q_X9_set dC dI cI cC cZ cB cJ A a_x xG xD wY wJ wQ xI xK xJ tW tX jE mX pD oO oQ eG bZ bD bI aI post) pn_RX9 rfl (Nat.le_of_ble_eq_true rfl) ?_
  intro p e s m args below meth c A H locs ls C0 hP hD hS hl
  have hl : lv_has ls 4 [(0, .ref a_x), (1, .int p0), (2, .int p1)] := hl
  obtain ⟨hx, hb, hr, hml, hown, hts, hlocks, hA, hK, hN, tL, tM, hZL, hTL, hZM, hTM, hZX⟩ := id C0
  have hp := hw
  unfold wp_X9_set at hp
  refine lv_iload_n hx hb eX9_set_0.1 rfl (lv_at hl 1 rfl) ?_
  refine lv_if_lt (tgt := 27) hx hb eX9_set_0.2.1 (by decide) (fun hc => ?_) (fun hc => ?_)
  · have hp := hp.1 hc
    refine lv_iconst (v := (-1)) hx hb eX9_set_0.2.2.2.2.2.2.2.2.2.2.2.2.2.2.2 ic_m1 ?_
    exact W.iret (v := (-1)) hx hb hr (fun t ht hW => ⟨⟨(-1), dQ, rfl, hp, by rw [ht]; exact hP, va_K.moved hW.alike hK, hD⟩, hS.F ht⟩) hS.2.2 eX9_set_28.1
  · have hp := hp.2 hc
    refine lv_iload_n hx hb eX9_set_0.2.2.1 rfl (lv_at hl 1 rfl) ?_
    refine lv_iconst (v := 4) hx hb eX9_set_0.2.2.2.1 ic_4 ?_
    refine lv_icmp_gt (tgt := 27) hx hb eX9_set_0.2.2.2.2.1 (by decide) (fun hc => ?_) (fun hc => ?_)
    · have hp := hp.1 hc
      refine lv_iconst (v := (-1)) hx hb eX9_set_0.2.2.2.2.2.2.2.2.2.2.2.2.2.2.2 ic_m1 ?_
      exact W.iret (v := (-1)) hx hb hr (fun t ht hW => ⟨⟨(-1), dQ, rfl, hp, by rw [ht]; exact hP, va_K.moved hW.alike hK, hD⟩, hS.F ht⟩) hS.2.2 eX9_set_28.1
    · have hp := hp.2 hc
      refine lv_iload_n hx hb eX9_set_0.2.2.2.2.2.1 rfl (lv_at hl 2 rfl) ?_
      refine va_gets hx hb hZL hS hown (hts _ q_205) (fun _ h9 => h9) eX9_set_0.2.2.2.2.2.2.1 ?_
      refine lv_iload_n hx hb eX9_set_0.2.2.2.2.2.2.2.1 rfl (lv_at hl 1 rfl) ?_
      have hin := hp.1
      have hp := hp.2
      refine va_ti hx hb hTL hS hin rfl eX9_set_0.2.2.2.2.2.2.2.2.1 ?_
      refine lv_icmp_lt (tgt := 27) hx hb eX9_set_0.2.2.2.2.2.2.2.2.2.1 (by decide) (fun hc => ?_) (fun hc => ?_)
      · have hp := hp.1 hc
        refine lv_iconst (v := (-1)) hx hb eX9_set_0.2.2.2.2.2.2.2.2.2.2.2.2.2.2.2 ic_m1 ?_
        exact W.iret (v := (-1)) hx hb hr (fun t ht hW => ⟨⟨(-1), dQ, rfl, hp, by rw [ht]; exact hP, va_K.moved hW.alike hK, hD⟩, hS.F ht⟩) hS.2.2 eX9_set_28.1
      · have hp := hp.2 hc
        refine lv_iload_n hx hb eX9_set_0.2.2.2.2.2.2.2.2.2.2.1 rfl (lv_at hl 2 rfl) ?_
        refine va_gets hx hb hZM hS hown (hts _ q_206) (fun _ h9 => h9) eX9_set_0.2.2.2.2.2.2.2.2.2.2.2.1 ?_
        refine lv_iload_n hx hb eX9_set_0.2.2.2.2.2.2.2.2.2.2.2.2.1 rfl (lv_at hl 1 rfl) ?_
        have hin := hp.1
        have hp := hp.2
        refine va_ti hx hb hTM hS hin rfl eX9_set_0.2.2.2.2.2.2.2.2.2.2.2.2.2.1 ?_
        refine lv_icmp_le (tgt := 29) hx hb eX9_set_0.2.2.2.2.2.2.2.2.2.2.2.2.2.2.1 (by decide) (fun hc => ?_) (fun hc => ?_)
        · have hp := hp.1 hc
          refine lv_aload_n hx hb eX9_set_28.2.1 rfl (lv_at hl 0 rfl) ?_
          refine va_get (D := (dC, dI)) (ci := 9) (v := .ref wJ) (C := RX9) (T := TX9) (N := 9) hx hb hts i_X9 hown hK hP 0 rfl rfl 3 (Nat.le_of_ble_eq_true rfl) (hts _ q_74) (fun _ h9 => h9) rfl eX9_set_28.2.2.1 ?_
          refine va_get (D := (dC, dI)) (ci := 3) (v := .ref eG) (C := RX3) (T := TX3) (N := 11) hx hb hts i_X3 hown hK hP 1 rfl rfl 6 (Nat.le_of_ble_eq_true rfl) (hts _ q_207) (fun _ h9 => h9) rfl eX9_set_28.2.2.2.1 ?_
          refine lv_iload_n hx hb eX9_set_28.2.2.2.2.1 rfl (lv_at hl 1 rfl) ?_
          have hin := hp.1
          have hp := hp.2
          refine va_iald hx hb hK hP 2 0 rfl rfl hin eX9_set_28.2.2.2.2.2.1 ?_
          refine lv_topi (fun v_1 ev_1 => ?_)
          have hp := hp v_1 ev_1
          refine lv_istore_n (lv' := [(3, .int v_1), (0, .ref a_x), (1, .int p0), (2, .int p1)]) hx hb eX9_set_28.2.2.2.2.2.2.1 rfl hl (by decide) rfl (fun ls hl => ?_)
          refine lv_aload_n hx hb eX9_set_28.2.2.2.2.2.2.2.1 rfl (lv_at hl 1 rfl) ?_
          refine va_get (D := (dC, dI)) (ci := 9) (v := .ref wJ) (C := RX9) (T := TX9) (N := 9) hx hb hts i_X9 hown hK hP 0 rfl rfl 3 (Nat.le_of_ble_eq_true rfl) (hts _ q_74) (fun _ h9 => h9) rfl eX9_set_28.2.2.2.2.2.2.2.2.1 ?_
          refine va_get (D := (dC, dI)) (ci := 3) (v := .ref eG) (C := RX3) (T := TX3) (N := 11) hx hb hts i_X3 hown hK hP 1 rfl rfl 6 (Nat.le_of_ble_eq_true rfl) (hts _ q_207) (fun _ h9 => h9) rfl eX9_set_28.2.2.2.2.2.2.2.2.2.1 ?_
          refine lv_iload_n hx hb eX9_set_28.2.2.2.2.2.2.2.2.2.2.1 rfl (lv_at hl 2 rfl) ?_
          refine lv_iload_n hx hb eX9_set_28.2.2.2.2.2.2.2.2.2.2.2.1 rfl (lv_at hl 3 rfl) ?_
          have hin := hp.1
          have hp := hp.2
          refine va_iast hx hb hK hP hD hS 2 0 rfl rfl hin eX9_set_28.2.2.2.2.2.2.2.2.2.2.2.2.1 (fun H locs hP hD hS => ?_)
          have hP : va_P (dC, dI) classes (wd_X9_set cI cC cZ cB cJ a_x xG xD wY wJ wQ xI xK xJ tW tX jE mX pD oO oQ eG bZ bD bI aI (upd dQ p0.toNatClampNeg p1)) H := hP
          have hD : va_D A (wd_X9_set cI cC cZ cB cJ a_x xG xD wY wJ wQ xI xK xJ tW tX jE mX pD oO oQ eG bZ bD bI aI (upd dQ p0.toNatClampNeg p1)) := hD
          refine lv_iload_n hx hb eX9_set_28.2.2.2.2.2.2.2.2.2.2.2.2.2.1 rfl (lv_at hl 0 rfl) ?_
          exact W.iret (v := v_1) hx hb hr (fun t ht hW => ⟨⟨v_1, (upd dQ p0.toNatClampNeg p1), rfl, hp, by rw [ht]; exact hP, va_K.moved hW.alike hK, hD⟩, hS.F ht⟩) hS.2.2 eX9_set_28.2.2.2.2.2.2.2.2.2.2.2.2.2.2
        · have hp := hp.2 hc
          refine lv_iconst (v := (-1)) hx hb eX9_set_0.2.2.2.2.2.2.2.2.2.2.2.2.2.2.2 ic_m1 ?_
          exact W.iret (v := (-1)) hx hb hr (fun t ht hW => ⟨⟨(-1), dQ, rfl, hp, by rw [ht]; exact hP, va_K.moved hW.alike hK, hD⟩, hS.F ht⟩) hS.2.2 eX9_set_28.1
noncomputable abbrev wd_X3_fillWorths (cI cC cZ cB cJ : ClassId) (wJ tX jE mX pD oO oQ eG : Nat) (bZ bD bI aI : Int32) (pE : Nat → Int32) : va_W := [(wJ, .inr (3, [.ref tX, .ref jE, .ref mX, .ref pD, .ref oO, .ref oQ, .ref eG, .int bZ, .int bD, .int bI, .int aI])), (mX, .inl (cI, 16, .inl pE))]
noncomputable abbrev q_X3_fillWorths (dC : Nat → ClassId) (dI : Nat → Nat → Nat) (cI cC cZ cB cJ : ClassId) (A : Nat → Prop) (wJ tX jE mX pD oO oQ eG : Nat) (bZ bD bI aI : Int32) (post : Int32 → (Nat → Int32) → Prop) : Array Value → State → Outcome → State → Prop := va_Qi (fun (r : Int32) (u : (Nat → Int32)) => post r u) (fun u t => gB (dC, dI) (tyl cI cC cZ cB cJ) A (wd_X3_fillWorths cI cC cZ cB cJ wJ tX jE mX pD oO oQ eG bZ bD bI aI u) t) A
noncomputable abbrev rm_X3_fillWorths : Room := { frames := 1, cells := 0, slots := 0, locals := 21 }
section S_X3_fillWorths
variable {p : Program} {l : Launch} {e : Env} {s : State} {m : MethodId} {args : Array Value} {below : List Frame} {meth : Method} {c : Code} {dC : Nat → ClassId} {dI : Nat → Nat → Nat} {cI cC cZ cB cJ : ClassId} {A : Nat → Prop} {wJ tX jE mX pD oO oQ eG : Nat} {bZ bD bI aI : Int32} {post : Int32 → (Nat → Int32) → Prop}
noncomputable def ws_X3_fillWorths_70 (post : Int32 → (Nat → Int32) → Prop) (K9 : Int32 → Int32 → Int32 → Int32 → Int32 → Int32 → (Nat → Int32) → Prop) (bZ x1 x2 x4 x5 x6 x7 k1 k2 : Int32) (pE : Nat → Int32) : Prop := vp_in k1 16 ∧ (vp_in x7 16 ∧ (∀ v_1 : Int32, v_1 = x5 + ((upd pE k1.toNatClampNeg k2) x7.toNatClampNeg) → ∀ v_2 : Int32, v_2 = x6 + x4 → ∀ v_3 : Int32, v_3 = x7 + 1 → K9 x1 x2 x4 v_1 v_2 v_3 (upd pE k1.toNatClampNeg k2)))
set_option maxHeartbeats 4000000 in
set_option maxRecDepth 100000 in
theorem ks_X3_fillWorths_70 (C0 : gc cX3_fillWorths (some .int) 9 RX3 (dC, dI) (tyl cI cC cZ cB cJ) A p s m args meth c) {K9 : Int32 → Int32 → Int32 → Int32 → Int32 → Int32 → (Nat → Int32) → Prop} (hK9 : ∀ (x1 : Int32) (x2 : Int32) (x4 : Int32) (x5 : Int32) (x6 : Int32) (x7 : Int32) (pE : Nat → Int32) (H : Heap) (locs : List Loc) (ls : Array Slot), K9 x1 x2 x4 x5 x6 x7 pE → va_P (dC, dI) classes (wd_X3_fillWorths cI cC cZ cB cJ wJ tX jE mX pD oO oQ eG bZ bD bI aI pE) H → va_D A (wd_X3_fillWorths cI cC cZ cB cJ wJ tX jE mX pD oO oQ eG bZ bD bI aI pE) → va_S A s.heap H locs → lv_has ls 9 [(0, .ref wJ), (1, .int x1), (2, .int x2), (4, .int x4), (5, .int x5), (6, .int x6), (7, .int x7)] → W p l e rm_X3_fillWorths s m args below meth c H locs 0 0 (MQ below (q_X3_fillWorths dC dI cI cC cZ cB cJ A wJ tX jE mX pD oO oQ eG bZ bD bI aI post) args s 0 0 A) (F0 m 9 ls [])) : ∀ (x1 x2 x4 x5 x6 x7 k1 k2 : Int32) (pE : Nat → Int32) (H : Heap) (locs : List Loc) (ls : Array Slot), (ws_X3_fillWorths_70 post K9 bZ) x1 x2 x4 x5 x6 x7 k1 k2 pE → va_P (dC, dI) classes (wd_X3_fillWorths cI cC cZ cB cJ wJ tX jE mX pD oO oQ eG bZ bD bI aI pE) H → va_D A (wd_X3_fillWorths cI cC cZ cB cJ wJ tX jE mX pD oO oQ eG bZ bD bI aI pE) → va_S A s.heap H locs → lv_has ls 9 [(0, .ref wJ), (1, .int x1), (2, .int x2), (4, .int x4), (5, .int x5), (6, .int x6), (7, .int x7)] → W p l e rm_X3_fillWorths s m args below meth c H locs 0 0 (MQ below (q_X3_fillWorths dC dI cI cC cZ cB cJ A wJ tX jE mX pD oO oQ eG bZ bD bI aI post) args s 0 0 A) (F0 m 70 ls [.int k2, .int k1, .ref mX]) := by
  obtain ⟨hx, hb, hr, hml, hown, hts, hlocks, hA, hK, hN, tL, tM, hZL, hTL, hZM, hTM, hZX⟩ := id C0
  intro x1 x2 x4 x5 x6 x7 k1 k2 pE H locs ls hp hP hD hS hl
  unfold ws_X3_fillWorths_70 at hp
  have hin := hp.1
  have hp := hp.2
  refine va_iast hx hb hK hP hD hS 1 0 rfl rfl hin eX3_fillWorths_60.2.2.2.2.1 (fun H locs hP hD hS => ?_)
  have hP : va_P (dC, dI) classes (wd_X3_fillWorths cI cC cZ cB cJ wJ tX jE mX pD oO oQ eG bZ bD bI aI (upd pE k1.toNatClampNeg k2)) H := hP
  have hD : va_D A (wd_X3_fillWorths cI cC cZ cB cJ wJ tX jE mX pD oO oQ eG bZ bD bI aI (upd pE k1.toNatClampNeg k2)) := hD
  refine lv_iload hx hb eX3_fillWorths_60.2.2.2.2.2.1 (lv_at hl 4 rfl) ?_
  refine lv_aload_n hx hb eX3_fillWorths_60.2.2.2.2.2.2.1 rfl (lv_at hl 0 rfl) ?_
  refine va_get (D := (dC, dI)) (ci := 3) (v := .ref mX) (C := RX3) (T := TX3) (N := 11) hx hb hts i_X3 hown hK hP 0 rfl rfl 2 (Nat.le_of_ble_eq_true rfl) (hts _ q_51) (fun _ h9 => h9) rfl eX3_fillWorths_60.2.2.2.2.2.2.2.1 ?_
  refine lv_iload hx hb eX3_fillWorths_60.2.2.2.2.2.2.2.2.1 (lv_at hl 6 rfl) ?_
  have hin := hp.1
  have hp := hp.2
  refine va_iald hx hb hK hP 1 0 rfl rfl hin eX3_fillWorths_60.2.2.2.2.2.2.2.2.2.1 ?_
  refine lv_iadd hx hb eX3_fillWorths_60.2.2.2.2.2.2.2.2.2.2.1 ?_
  refine lv_topi (fun v_1 ev_1 => ?_)
  have hp := hp v_1 ev_1
  refine lv_istore (lv' := [(5, .int v_1), (0, .ref wJ), (1, .int x1), (2, .int x2), (4, .int x4), (6, .int x6), (7, .int x7)]) hx hb eX3_fillWorths_60.2.2.2.2.2.2.2.2.2.2.2.1 hl (by decide) rfl (fun ls hl => ?_)
  refine lv_iload hx hb eX3_fillWorths_60.2.2.2.2.2.2.2.2.2.2.2.2.1 (lv_at hl 5 rfl) ?_
  refine lv_iload hx hb eX3_fillWorths_60.2.2.2.2.2.2.2.2.2.2.2.2.2.1 (lv_at hl 4 rfl) ?_
  refine lv_iadd hx hb eX3_fillWorths_60.2.2.2.2.2.2.2.2.2.2.2.2.2.2.1 ?_
  refine lv_topi (fun v_2 ev_2 => ?_)
  have hp := hp v_2 ev_2
  refine lv_istore (lv' := [(6, .int v_2), (5, .int v_1), (0, .ref wJ), (1, .int x1), (2, .int x2), (4, .int x4), (7, .int x7)]) hx hb eX3_fillWorths_60.2.2.2.2.2.2.2.2.2.2.2.2.2.2.2 hl (by decide) rfl (fun ls hl => ?_)
  obtain ⟨v_3, ev_3⟩ : ∃ y : Int32, y = x7 + 1 := ⟨_, rfl⟩
  refine lv_iinc (v := v_3) (lv' := [(7, .int v_3), (6, .int v_2), (5, .int v_1), (0, .ref wJ), (1, .int x1), (2, .int x2), (4, .int x4)]) hx hb eX3_fillWorths_90.1 hl (k := 6) rfl (by rw [ev_3]; rfl) (by decide) rfl (fun ls hl => ?_)
  have hp := hp v_3 ev_3
  refine lv_goto (tgt := 9) hx hb eX3_fillWorths_90.2.1 (by decide) ?_
  exact hK9 x1 x2 x4 v_1 v_2 v_3 (upd pE k1.toNatClampNeg k2) H locs ls hp hP hD hS (lv_sub hl [3, 4, 5, 6, 2, 1, 0] rfl)
noncomputable def ws_X3_fillWorths_41 (post : Int32 → (Nat → Int32) → Prop) (K9 : Int32 → Int32 → Int32 → Int32 → Int32 → Int32 → (Nat → Int32) → Prop) (bZ x1 x2 x4 x5 x6 x7 k0 : Int32) (pE : Nat → Int32) : Prop := (x2 ≤ x7 → ws_X3_fillWorths_70 post K9 bZ x1 x2 x4 x5 x6 x7 x7 0 pE) ∧ (¬ x2 ≤ x7 → ∀ v_4 : Int32, v_4 = (if k0 < 9 then k0 else 9) → ∀ v_5 : Int32, v_5 = (if 0 < v_4 then v_4 else 0) → ws_X3_fillWorths_70 post K9 bZ x1 x2 x4 x5 x6 x7 x7 v_5 pE)
set_option maxHeartbeats 4000000 in
set_option maxRecDepth 100000 in
theorem ks_X3_fillWorths_41 (C0 : gc cX3_fillWorths (some .int) 9 RX3 (dC, dI) (tyl cI cC cZ cB cJ) A p s m args meth c) {K9 : Int32 → Int32 → Int32 → Int32 → Int32 → Int32 → (Nat → Int32) → Prop} (hK9 : ∀ (x1 : Int32) (x2 : Int32) (x4 : Int32) (x5 : Int32) (x6 : Int32) (x7 : Int32) (pE : Nat → Int32) (H : Heap) (locs : List Loc) (ls : Array Slot), K9 x1 x2 x4 x5 x6 x7 pE → va_P (dC, dI) classes (wd_X3_fillWorths cI cC cZ cB cJ wJ tX jE mX pD oO oQ eG bZ bD bI aI pE) H → va_D A (wd_X3_fillWorths cI cC cZ cB cJ wJ tX jE mX pD oO oQ eG bZ bD bI aI pE) → va_S A s.heap H locs → lv_has ls 9 [(0, .ref wJ), (1, .int x1), (2, .int x2), (4, .int x4), (5, .int x5), (6, .int x6), (7, .int x7)] → W p l e rm_X3_fillWorths s m args below meth c H locs 0 0 (MQ below (q_X3_fillWorths dC dI cI cC cZ cB cJ A wJ tX jE mX pD oO oQ eG bZ bD bI aI post) args s 0 0 A) (F0 m 9 ls [])) : ∀ (x1 x2 x4 x5 x6 x7 k0 : Int32) (pE : Nat → Int32) (H : Heap) (locs : List Loc) (ls : Array Slot), (ws_X3_fillWorths_41 post K9 bZ) x1 x2 x4 x5 x6 x7 k0 pE → va_P (dC, dI) classes (wd_X3_fillWorths cI cC cZ cB cJ wJ tX jE mX pD oO oQ eG bZ bD bI aI pE) H → va_D A (wd_X3_fillWorths cI cC cZ cB cJ wJ tX jE mX pD oO oQ eG bZ bD bI aI pE) → va_S A s.heap H locs → lv_has ls 9 [(0, .ref wJ), (1, .int x1), (2, .int x2), (4, .int x4), (5, .int x5), (6, .int x6), (7, .int x7)] → W p l e rm_X3_fillWorths s m args below meth c H locs 0 0 (MQ below (q_X3_fillWorths dC dI cI cC cZ cB cJ A wJ tX jE mX pD oO oQ eG bZ bD bI aI post) args s 0 0 A) (F0 m 41 ls [.int k0]) := by
  obtain ⟨hx, hb, hr, hml, hown, hts, hlocks, hA, hK, hN, tL, tM, hZL, hTL, hZM, hTM, hZX⟩ := id C0
  intro x1 x2 x4 x5 x6 x7 k0 pE H locs ls hp hP hD hS hl
  unfold ws_X3_fillWorths_41 at hp
  refine lv_istore (lv' := [(8, .int k0), (0, .ref wJ), (1, .int x1), (2, .int x2), (4, .int x4), (5, .int x5), (6, .int x6), (7, .int x7)]) hx hb eX3_fillWorths_29.2.2.2.2.2.2.1 hl (by decide) rfl (fun ls hl => ?_)
  refine lv_aload_n hx hb eX3_fillWorths_29.2.2.2.2.2.2.2.1 rfl (lv_at hl 1 rfl) ?_
  refine va_get (D := (dC, dI)) (ci := 3) (v := .ref mX) (C := RX3) (T := TX3) (N := 11) hx hb hts i_X3 hown hK hP 0 rfl rfl 2 (Nat.le_of_ble_eq_true rfl) (hts _ q_51) (fun _ h9 => h9) rfl eX3_fillWorths_29.2.2.2.2.2.2.2.2.1 ?_
  refine lv_iload hx hb eX3_fillWorths_29.2.2.2.2.2.2.2.2.2.1 (lv_at hl 7 rfl) ?_
  refine lv_iload hx hb eX3_fillWorths_29.2.2.2.2.2.2.2.2.2.2.1 (lv_at hl 7 rfl) ?_
  refine lv_iload_n hx hb eX3_fillWorths_29.2.2.2.2.2.2.2.2.2.2.2.1 rfl (lv_at hl 3 rfl) ?_
  refine lv_icmp_ge (tgt := 69) hx hb eX3_fillWorths_29.2.2.2.2.2.2.2.2.2.2.2.2.1 (by decide) (fun hc => ?_) (fun hc => ?_)
  · have hp := hp.1 hc
    refine lv_iconst (v := 0) hx hb eX3_fillWorths_60.2.2.2.1 ic_0 ?_
    exact ks_X3_fillWorths_70 C0 hK9 x1 x2 x4 x5 x6 x7 x7 0 pE H locs ls hp hP hD hS (lv_sub hl [1, 2, 3, 4, 5, 6, 7] rfl)
  · have hp := hp.2 hc
    refine lv_iconst (v := 0) hx hb eX3_fillWorths_29.2.2.2.2.2.2.2.2.2.2.2.2.2.1 ic_0 ?_
    refine lv_bipush (v := 9) hx hb eX3_fillWorths_29.2.2.2.2.2.2.2.2.2.2.2.2.2.2.1 bp_9 ?_
    refine lv_iload hx hb eX3_fillWorths_29.2.2.2.2.2.2.2.2.2.2.2.2.2.2.2 (lv_at hl 0 rfl) ?_
    refine va_mmin hx hb (by rw [hml]; exact hl.1.symm) hown (hts _ q_208) (hts _ q_15) (hts _ q_16) (hts _ q_17) (Nat.le_of_ble_eq_true rfl) (Nat.le_of_ble_eq_true rfl) (Nat.zero_le _) (Nat.zero_le _) eX3_fillWorths_60.1 ?_
    refine lv_topi (fun v_4 ev_4 => ?_)
    have hp := hp v_4 ev_4
    refine va_mmax hx hb (by rw [hml]; exact hl.1.symm) hown (hts _ q_209) (hts _ q_134) (hts _ q_16) (hts _ q_135) (Nat.le_of_ble_eq_true rfl) (Nat.le_of_ble_eq_true rfl) (Nat.zero_le _) (Nat.zero_le _) eX3_fillWorths_60.2.1 ?_
    refine lv_topi (fun v_5 ev_5 => ?_)
    have hp := hp v_5 ev_5
    refine lv_goto (tgt := 70) hx hb eX3_fillWorths_60.2.2.1 (by decide) ?_
    exact ks_X3_fillWorths_70 C0 hK9 x1 x2 x4 x5 x6 x7 x7 v_5 pE H locs ls hp hP hD hS (lv_sub hl [1, 2, 3, 4, 5, 6, 7] rfl)
noncomputable def ws_X3_fillWorths_9 (post : Int32 → (Nat → Int32) → Prop) (next : Int32 → Int32 → Int32 → Int32 → Int32 → Int32 → (Nat → Int32) → Prop) (bZ x1 x2 x4 x5 x6 x7 : Int32) (pE : Nat → Int32) : Prop := (bZ ≤ x7 → post x5 pE) ∧ (¬ bZ ≤ x7 → (¬ x1 = 0 → (¬ x1 = 1 → ws_X3_fillWorths_41 post next bZ x1 x2 x4 x5 x6 x7 x6 pE) ∧ (x1 = 1 → ∀ v_6 : Int32, v_6 = x6.toInt16.toInt32 → ws_X3_fillWorths_41 post next bZ x1 x2 x4 x5 x6 x7 v_6 pE)) ∧ (x1 = 0 → ∀ v_7 : Int32, v_7 = x6.toInt8.toInt32 → ws_X3_fillWorths_41 post next bZ x1 x2 x4 x5 x6 x7 v_7 pE))
noncomputable def wb_X3_fillWorths_9 (post : Int32 → (Nat → Int32) → Prop) (bZ : Int32) : Nat → Int32 → Int32 → Int32 → Int32 → Int32 → Int32 → (Nat → Int32) → Prop := fun n => Nat.rec (motive := fun _ => Int32 → Int32 → Int32 → Int32 → Int32 → Int32 → (Nat → Int32) → Prop) (fun _ _ _ _ _ _ _ => False) (fun _ ih => ws_X3_fillWorths_9 post ih bZ) n
set_option maxHeartbeats 4000000 in
set_option maxRecDepth 100000 in
theorem ks_X3_fillWorths_9 (C0 : gc cX3_fillWorths (some .int) 9 RX3 (dC, dI) (tyl cI cC cZ cB cJ) A p s m args meth c) {next : Int32 → Int32 → Int32 → Int32 → Int32 → Int32 → (Nat → Int32) → Prop} (hKn : ∀ (x1 : Int32) (x2 : Int32) (x4 : Int32) (x5 : Int32) (x6 : Int32) (x7 : Int32) (pE : Nat → Int32) (H : Heap) (locs : List Loc) (ls : Array Slot), next x1 x2 x4 x5 x6 x7 pE → va_P (dC, dI) classes (wd_X3_fillWorths cI cC cZ cB cJ wJ tX jE mX pD oO oQ eG bZ bD bI aI pE) H → va_D A (wd_X3_fillWorths cI cC cZ cB cJ wJ tX jE mX pD oO oQ eG bZ bD bI aI pE) → va_S A s.heap H locs → lv_has ls 9 [(0, .ref wJ), (1, .int x1), (2, .int x2), (4, .int x4), (5, .int x5), (6, .int x6), (7, .int x7)] → W p l e rm_X3_fillWorths s m args below meth c H locs 0 0 (MQ below (q_X3_fillWorths dC dI cI cC cZ cB cJ A wJ tX jE mX pD oO oQ eG bZ bD bI aI post) args s 0 0 A) (F0 m 9 ls [])) : ∀ (x1 x2 x4 x5 x6 x7 : Int32) (pE : Nat → Int32) (H : Heap) (locs : List Loc) (ls : Array Slot), (ws_X3_fillWorths_9 post next bZ) x1 x2 x4 x5 x6 x7 pE → va_P (dC, dI) classes (wd_X3_fillWorths cI cC cZ cB cJ wJ tX jE mX pD oO oQ eG bZ bD bI aI pE) H → va_D A (wd_X3_fillWorths cI cC cZ cB cJ wJ tX jE mX pD oO oQ eG bZ bD bI aI pE) → va_S A s.heap H locs → lv_has ls 9 [(0, .ref wJ), (1, .int x1), (2, .int x2), (4, .int x4), (5, .int x5), (6, .int x6), (7, .int x7)] → W p l e rm_X3_fillWorths s m args below meth c H locs 0 0 (MQ below (q_X3_fillWorths dC dI cI cC cZ cB cJ A wJ tX jE mX pD oO oQ eG bZ bD bI aI post) args s 0 0 A) (F0 m 9 ls []) := by
  obtain ⟨hx, hb, hr, hml, hown, hts, hlocks, hA, hK, hN, tL, tM, hZL, hTL, hZM, hTM, hZX⟩ := id C0
  intro x1 x2 x4 x5 x6 x7 pE H locs ls hp hP hD hS hl
  unfold ws_X3_fillWorths_9 at hp
  refine lv_iload hx hb eX3_fillWorths_0.2.2.2.2.2.2.1 (lv_at hl 6 rfl) ?_
  refine lv_aload_n hx hb eX3_fillWorths_0.2.2.2.2.2.2.2.1 rfl (lv_at hl 0 rfl) ?_
  refine va_get (D := (dC, dI)) (ci := 3) (v := .int bZ) (C := RX3) (T := TX3) (N := 11) hx hb hts i_X3 hown hK hP 0 rfl rfl 7 (Nat.le_of_ble_eq_true rfl) (hts _ q_20) (fun _ h9 => h9) rfl eX3_fillWorths_0.2.2.2.2.2.2.2.2.1 ?_
  refine lv_icmp_ge (tgt := 96) hx hb eX3_fillWorths_0.2.2.2.2.2.2.2.2.2.1 (by decide) (fun hc => ?_) (fun hc => ?_)
  · have hp := hp.1 hc
    refine lv_iload hx hb eX3_fillWorths_90.2.2.1 (lv_at hl 4 rfl) ?_
    exact W.iret (v := x5) hx hb hr (fun t ht hW => ⟨⟨x5, pE, rfl, hp, by rw [ht]; exact hP, va_K.moved hW.alike hK, hD⟩, hS.F ht⟩) hS.2.2 eX3_fillWorths_90.2.2.2
  · have hp := hp.2 hc
    refine lv_iload_n hx hb eX3_fillWorths_0.2.2.2.2.2.2.2.2.2.2.1 rfl (lv_at hl 1 rfl) ?_
    refine lv_if_ne (tgt := 28) hx hb eX3_fillWorths_0.2.2.2.2.2.2.2.2.2.2.2.1 (by decide) (fun hc => ?_) (fun hc => ?_)
    · have hp := hp.1 hc
      refine lv_iload_n hx hb eX3_fillWorths_0.2.2.2.2.2.2.2.2.2.2.2.2.2.2.2 rfl (lv_at hl 1 rfl) ?_
      refine lv_iconst (v := 1) hx hb eX3_fillWorths_29.1 ic_1 ?_
      refine lv_icmp_ne (tgt := 39) hx hb eX3_fillWorths_29.2.1 (by decide) (fun hc => ?_) (fun hc => ?_)
      · have hp := hp.1 hc
        refine lv_iload hx hb eX3_fillWorths_29.2.2.2.2.2.1 (lv_at hl 5 rfl) ?_
        exact ks_X3_fillWorths_41 C0 hKn x1 x2 x4 x5 x6 x7 x6 pE H locs ls hp hP hD hS (lv_sub hl [0, 1, 2, 3, 4, 5, 6] rfl)
      · have hp := hp.2 hc
        refine lv_iload hx hb eX3_fillWorths_29.2.2.1 (lv_at hl 5 rfl) ?_
        refine lv_i2s hx hb eX3_fillWorths_29.2.2.2.1 rfl ?_
        refine lv_topi (fun v_6 ev_6 => ?_)
        have hp := hp v_6 ev_6
        refine lv_goto (tgt := 41) hx hb eX3_fillWorths_29.2.2.2.2.1 (by decide) ?_
        exact ks_X3_fillWorths_41 C0 hKn x1 x2 x4 x5 x6 x7 v_6 pE H locs ls hp hP hD hS (lv_sub hl [0, 1, 2, 3, 4, 5, 6] rfl)
    · have hp := hp.2 hc
      refine lv_iload hx hb eX3_fillWorths_0.2.2.2.2.2.2.2.2.2.2.2.2.1 (lv_at hl 5 rfl) ?_
      refine lv_i2b hx hb eX3_fillWorths_0.2.2.2.2.2.2.2.2.2.2.2.2.2.1 rfl ?_
      refine lv_topi (fun v_7 ev_7 => ?_)
      have hp := hp v_7 ev_7
      refine lv_goto (tgt := 41) hx hb eX3_fillWorths_0.2.2.2.2.2.2.2.2.2.2.2.2.2.2.1 (by decide) ?_
      exact ks_X3_fillWorths_41 C0 hKn x1 x2 x4 x5 x6 x7 v_7 pE H locs ls hp hP hD hS (lv_sub hl [0, 1, 2, 3, 4, 5, 6] rfl)
set_option maxHeartbeats 4000000 in
set_option maxRecDepth 100000 in
theorem kb_X3_fillWorths_9 (C0 : gc cX3_fillWorths (some .int) 9 RX3 (dC, dI) (tyl cI cC cZ cB cJ) A p s m args meth c) : ∀ (n : Nat), ∀ (x1 x2 x4 x5 x6 x7 : Int32) (pE : Nat → Int32) (H : Heap) (locs : List Loc) (ls : Array Slot), (wb_X3_fillWorths_9 post bZ n) x1 x2 x4 x5 x6 x7 pE → va_P (dC, dI) classes (wd_X3_fillWorths cI cC cZ cB cJ wJ tX jE mX pD oO oQ eG bZ bD bI aI pE) H → va_D A (wd_X3_fillWorths cI cC cZ cB cJ wJ tX jE mX pD oO oQ eG bZ bD bI aI pE) → va_S A s.heap H locs → lv_has ls 9 [(0, .ref wJ), (1, .int x1), (2, .int x2), (4, .int x4), (5, .int x5), (6, .int x6), (7, .int x7)] → W p l e rm_X3_fillWorths s m args below meth c H locs 0 0 (MQ below (q_X3_fillWorths dC dI cI cC cZ cB cJ A wJ tX jE mX pD oO oQ eG bZ bD bI aI post) args s 0 0 A) (F0 m 9 ls []) := by
  intro n
  induction n with
  | zero =>
    intro x1 x2 x4 x5 x6 x7 pE H locs ls hp
    exact False.elim hp
  | succ n ih =>
    intro x1 x2 x4 x5 x6 x7 pE H locs ls hp
    exact ks_X3_fillWorths_9 C0 ih x1 x2 x4 x5 x6 x7 pE H locs ls hp
end S_X3_fillWorths
noncomputable def wp_X3_fillWorths (post : Int32 → (Nat → Int32) → Prop) (p0 p1 p2 p3 bZ : Int32) (pE : Nat → Int32) : Prop := ∃ n : Nat, wb_X3_fillWorths_9 post bZ n p0 p1 p3 0 p2 0 pE
set_option maxHeartbeats 4000000 in
set_option maxRecDepth 100000 in
theorem c_X3_fillWorths (l : Launch) (dC : Nat → ClassId) (dI : Nat → Nat → Nat) (cI cC cZ cB cJ : ClassId) (wJ tX jE mX pD oO oQ eG sz : Nat) (p0 p1 p2 p3 bZ bD bI aI : Int32) (pE : Nat → Int32) (post : Int32 → (Nat → Int32) → Prop) (hw : wp_X3_fillWorths post p0 p1 p2 p3 bZ pE) : Met l yX3_fillWorths (gw yX3_fillWorths cX3_fillWorths 9 (some .int)) rm_X3_fillWorths (va_Pc [.ref wJ, .int p0, .int p1, .int p2, .int p3] (gPre (dC, dI) (tyl cI cC cZ cB cJ) (wd_X3_fillWorths cI cC cZ cB cJ wJ tX jE mX pD oO oQ eG bZ bD bI aI pE) sz)) (q_X3_fillWorths dC dI cI cC cZ cB cJ (va_A (wd_X3_fillWorths cI cC cZ cB cJ wJ tX jE mX pD oO oQ eG bZ bD bI aI pE) sz) wJ tX jE mX pD oO oQ eG bZ bD bI aI post) 0 0 (va_A (wd_X3_fillWorths cI cC cZ cB cJ wJ tX jE mX pD oO oQ eG bZ bD bI aI pE) sz) := by
  refine g_enter (own := RX3) (dC, dI) (tyl cI cC cZ cB cJ) (wd_X3_fillWorths cI cC cZ cB cJ wJ tX jE mX pD oO oQ eG bZ bD bI aI pE) sz [.ref wJ, .int p0, .int p1, .int p2, .int p3] (fun A => q_X3_fillWorths dC dI cI cC cZ cB cJ A wJ tX jE mX pD oO oQ eG bZ bD bI aI post) pn_RX3 rfl (Nat.le_of_ble_eq_true rfl) ?_
  intro p e s m args below meth c A H locs ls C0 hP hD hS hl
  have hl : lv_has ls 9 [(0, .ref wJ), (1, .int p0), (2, .int p1), (3, .int p2), (4, .int p3)] := hl
  obtain ⟨hx, hb, hr, hml, hown, hts, hlocks, hA, hK, hN, tL, tM, hZL, hTL, hZM, hTM, hZX⟩ := id C0
  have hp := hw
  unfold wp_X3_fillWorths at hp
  refine lv_iconst (v := 0) hx hb eX3_fillWorths_0.1 ic_0 ?_
  refine lv_istore (lv' := [(5, .int 0), (0, .ref wJ), (1, .int p0), (2, .int p1), (3, .int p2), (4, .int p3)]) hx hb eX3_fillWorths_0.2.1 hl (by decide) rfl (fun ls hl => ?_)
  refine lv_iload_n hx hb eX3_fillWorths_0.2.2.1 rfl (lv_at hl 4 rfl) ?_
  refine lv_istore (lv' := [(6, .int p2), (5, .int 0), (0, .ref wJ), (1, .int p0), (2, .int p1), (3, .int p2), (4, .int p3)]) hx hb eX3_fillWorths_0.2.2.2.1 hl (by decide) rfl (fun ls hl => ?_)
  refine lv_iconst (v := 0) hx hb eX3_fillWorths_0.2.2.2.2.1 ic_0 ?_
  refine lv_istore (lv' := [(7, .int 0), (6, .int p2), (5, .int 0), (0, .ref wJ), (1, .int p0), (2, .int p1), (3, .int p2), (4, .int p3)]) hx hb eX3_fillWorths_0.2.2.2.2.2.1 hl (by decide) rfl (fun ls hl => ?_)
  obtain ⟨n9, hp⟩ := hp
  exact kb_X3_fillWorths_9 C0 n9 p0 p1 p3 0 p2 0 pE H locs ls hp hP hD hS (lv_sub hl [3, 4, 5, 7, 2, 1, 0] rfl)
noncomputable abbrev wd_X9_sheet (cI cC cZ cB cJ : ClassId) (a_x xG xD wY wJ wQ xI xK xJ tW tX jE mX pD oO oQ eG : Nat) (bZ bD bI aI : Int32) (pE : Nat → Int32) : va_W := [(a_x, .inr (9, [.ref xG, .ref xD, .ref wY, .ref wJ, .ref wQ, .ref xI, .ref xK, .ref xJ, .ref tW])), (wJ, .inr (3, [.ref tX, .ref jE, .ref mX, .ref pD, .ref oO, .ref oQ, .ref eG, .int bZ, .int bD, .int bI, .int aI])), (mX, .inl (cI, 16, .inl pE))]
noncomputable abbrev q_X9_sheet (dC : Nat → ClassId) (dI : Nat → Nat → Nat) (cI cC cZ cB cJ : ClassId) (A : Nat → Prop) (a_x xG xD wY wJ wQ xI xK xJ tW tX jE mX pD oO oQ eG : Nat) (bZ bD bI aI : Int32) (post : Int32 → (Nat → Int32) → Prop) : Array Value → State → Outcome → State → Prop := va_Qi (fun (r : Int32) (u : (Nat → Int32)) => post r u) (fun u t => gB (dC, dI) (tyl cI cC cZ cB cJ) A (wd_X9_sheet cI cC cZ cB cJ a_x xG xD wY wJ wQ xI xK xJ tW tX jE mX pD oO oQ eG bZ bD bI aI u) t) A
noncomputable abbrev rm_X9_sheet : Room := { frames := 2, cells := 0, slots := 0, locals := 49 }
noncomputable def wp_X9_sheet (post : Int32 → (Nat → Int32) → Prop) (p0 p1 p2 p3 bZ : Int32) (pE : Nat → Int32) : Prop := (p0 < 0 → post (-1) pE) ∧ (¬ p0 < 0 → (3 < p0 → post (-1) pE) ∧ (¬ 3 < p0 → (p1 ≤ 16 → (¬ p0 = 3 → (0 ≤ p1 → wp_X3_fillWorths (fun r_1 tr_worth_2 => post r_1 tr_worth_2) p0 p1 p2 p3 bZ pE) ∧ (¬ 0 ≤ p1 → post (-2) pE)) ∧ (p0 = 3 → wp_X3_fillWorths (fun r_3 tr_worth_4 => post (-3) tr_worth_4) 2 0 0 0 bZ pE)) ∧ (¬ p1 ≤ 16 → post (-1) pE)))
set_option maxHeartbeats 4000000 in
set_option maxRecDepth 100000 in
theorem c_X9_sheet (l : Launch) (dC : Nat → ClassId) (dI : Nat → Nat → Nat) (cI cC cZ cB cJ : ClassId) (a_x xG xD wY wJ wQ xI xK xJ tW tX jE mX pD oO oQ eG sz : Nat) (p0 p1 p2 p3 bZ bD bI aI : Int32) (pE : Nat → Int32) (post : Int32 → (Nat → Int32) → Prop) (hw : wp_X9_sheet post p0 p1 p2 p3 bZ pE) : Met l yX9_sheet (gw yX9_sheet cX9_sheet 5 (some .int)) rm_X9_sheet (va_Pc [.ref a_x, .int p0, .int p1, .int p2, .int p3] (gPre (dC, dI) (tyl cI cC cZ cB cJ) (wd_X9_sheet cI cC cZ cB cJ a_x xG xD wY wJ wQ xI xK xJ tW tX jE mX pD oO oQ eG bZ bD bI aI pE) sz)) (q_X9_sheet dC dI cI cC cZ cB cJ (va_A (wd_X9_sheet cI cC cZ cB cJ a_x xG xD wY wJ wQ xI xK xJ tW tX jE mX pD oO oQ eG bZ bD bI aI pE) sz) a_x xG xD wY wJ wQ xI xK xJ tW tX jE mX pD oO oQ eG bZ bD bI aI post) 0 0 (va_A (wd_X9_sheet cI cC cZ cB cJ a_x xG xD wY wJ wQ xI xK xJ tW tX jE mX pD oO oQ eG bZ bD bI aI pE) sz) := by
  refine g_enter (own := RX9) (dC, dI) (tyl cI cC cZ cB cJ) (wd_X9_sheet cI cC cZ cB cJ a_x xG xD wY wJ wQ xI xK xJ tW tX jE mX pD oO oQ eG bZ bD bI aI pE) sz [.ref a_x, .int p0, .int p1, .int p2, .int p3] (fun A => q_X9_sheet dC dI cI cC cZ cB cJ A a_x xG xD wY wJ wQ xI xK xJ tW tX jE mX pD oO oQ eG bZ bD bI aI post) pn_RX9 rfl (Nat.le_of_ble_eq_true rfl) ?_
  intro p e s m args below meth c A H locs ls C0 hP hD hS hl
  have hl : lv_has ls 5 [(0, .ref a_x), (1, .int p0), (2, .int p1), (3, .int p2), (4, .int p3)] := hl
  obtain ⟨hx, hb, hr, hml, hown, hts, hlocks, hA, hK, hN, tL, tM, hZL, hTL, hZM, hTM, hZX⟩ := id C0
  have hp := hw
  unfold wp_X9_sheet at hp
  refine lv_iload_n hx hb eX9_sheet_0.1 rfl (lv_at hl 1 rfl) ?_
  refine lv_if_lt (tgt := 15) hx hb eX9_sheet_0.2.1 (by decide) (fun hc => ?_) (fun hc => ?_)
  · have hp := hp.1 hc
    refine lv_iconst (v := (-1)) hx hb eX9_sheet_0.2.2.2.2.2.2.2.2.1 ic_m1 ?_
    exact W.iret (v := (-1)) hx hb hr (fun t ht hW => ⟨⟨(-1), pE, rfl, hp, by rw [ht]; exact hP, va_K.moved hW.alike hK, hD⟩, hS.F ht⟩) hS.2.2 eX9_sheet_0.2.2.2.2.2.2.2.2.2.1
  · have hp := hp.2 hc
    refine lv_iload_n hx hb eX9_sheet_0.2.2.1 rfl (lv_at hl 1 rfl) ?_
    refine lv_iconst (v := 3) hx hb eX9_sheet_0.2.2.2.1 ic_3 ?_
    refine lv_icmp_gt (tgt := 15) hx hb eX9_sheet_0.2.2.2.2.1 (by decide) (fun hc => ?_) (fun hc => ?_)
    · have hp := hp.1 hc
      refine lv_iconst (v := (-1)) hx hb eX9_sheet_0.2.2.2.2.2.2.2.2.1 ic_m1 ?_
      exact W.iret (v := (-1)) hx hb hr (fun t ht hW => ⟨⟨(-1), pE, rfl, hp, by rw [ht]; exact hP, va_K.moved hW.alike hK, hD⟩, hS.F ht⟩) hS.2.2 eX9_sheet_0.2.2.2.2.2.2.2.2.2.1
    · have hp := hp.2 hc
      refine lv_iload_n hx hb eX9_sheet_0.2.2.2.2.2.1 rfl (lv_at hl 2 rfl) ?_
      refine lv_bipush (v := 16) hx hb eX9_sheet_0.2.2.2.2.2.2.1 bp_16 ?_
      refine lv_icmp_le (tgt := 17) hx hb eX9_sheet_0.2.2.2.2.2.2.2.1 (by decide) (fun hc => ?_) (fun hc => ?_)
      · have hp := hp.1 hc
        refine lv_iload_n hx hb eX9_sheet_0.2.2.2.2.2.2.2.2.2.2.1 rfl (lv_at hl 1 rfl) ?_
        refine lv_iconst (v := 3) hx hb eX9_sheet_0.2.2.2.2.2.2.2.2.2.2.2.1 ic_3 ?_
        refine lv_icmp_ne (tgt := 37) hx hb eX9_sheet_0.2.2.2.2.2.2.2.2.2.2.2.2.1 (by decide) (fun hc => ?_) (fun hc => ?_)
        · have hp := hp.1 hc
          refine lv_iload_n hx hb eX9_sheet_27.2.2.2.2.2.2.2.1 rfl (lv_at hl 2 rfl) ?_
          refine lv_if_ge (tgt := 46) hx hb eX9_sheet_27.2.2.2.2.2.2.2.2.1 (by decide) (fun hc => ?_) (fun hc => ?_)
          · have hp := hp.1 hc
            refine lv_aload_n hx hb eX9_sheet_27.2.2.2.2.2.2.2.2.2.2.2.1 rfl (lv_at hl 0 rfl) ?_
            refine va_get (D := (dC, dI)) (ci := 9) (v := .ref wJ) (C := RX9) (T := TX9) (N := 9) hx hb hts i_X9 hown hK hP 0 rfl rfl 3 (Nat.le_of_ble_eq_true rfl) (hts _ q_74) (fun _ h9 => h9) rfl eX9_sheet_27.2.2.2.2.2.2.2.2.2.2.2.2.1 ?_
            refine lv_iload_n hx hb eX9_sheet_27.2.2.2.2.2.2.2.2.2.2.2.2.2.1 rfl (lv_at hl 1 rfl) ?_
            refine lv_iload_n hx hb eX9_sheet_27.2.2.2.2.2.2.2.2.2.2.2.2.2.2.1 rfl (lv_at hl 2 rfl) ?_
            refine lv_iload_n hx hb eX9_sheet_27.2.2.2.2.2.2.2.2.2.2.2.2.2.2.2 rfl (lv_at hl 3 rfl) ?_
            refine lv_iload hx hb eX9_sheet_53.1 (lv_at hl 4 rfl) ?_
            have hm := mgk (wc := (wd_X3_fillWorths cI cC cZ cB cJ wJ tX jE mX pD oO oQ eG bZ bD bI aI pE)) hP mk_0 3 rfl rfl rfl
            refine g_calli hP hD hS hA (mixT mk_0) (mixF mk_0) hm.1 hm.2 (nd_F _) (dis_g _) (g_runV (As := [.int p0, .int p1, .int p2, .int p3]) (rest := []) C0 hP hD hS (mixT mk_0) hm.1 (nd_T _) 1 3 rfl rfl (c_X3_fillWorths l dC dI cI cC cZ cB cJ wJ tX jE mX pD oO oQ eG H.size p0 p1 p2 p3 bZ bD bI aI pE _ hp) q_210 q_213 q_211 q_212 q_48 h_X3_fillWorths rfl rfl ⟨Nat.le_of_ble_eq_true rfl, Nat.le_of_ble_eq_true rfl⟩ rfl rfl hl.1 rfl (lv_room (Nat.le_of_ble_eq_true rfl)) eX9_sheet_53.2.1 ⟨Nat.zero_le _, Nat.zero_le _⟩) (fun r_1 u H locs hp hP hD hS => ?_)
            obtain ⟨tr_worth_2, rfl⟩ : ∃ z, z = u := ⟨_, rfl⟩
            have hPD := PDm (ws' := (wd_X9_sheet cI cC cZ cB cJ a_x xG xD wY wJ wQ xI xK xJ tW tX jE mX pD oO oQ eG bZ bD bI aI tr_worth_2)) hP hD 3 rfl rfl rfl
            have hP := hPD.1
            have hD := hPD.2
            exact W.iret (v := r_1) hx hb hr (fun t ht hW => ⟨⟨r_1, tr_worth_2, rfl, hp, by rw [ht]; exact hP, va_K.moved hW.alike hK, hD⟩, hS.F ht⟩) hS.2.2 eX9_sheet_53.2.2
          · have hp := hp.2 hc
            refine lv_bipush (v := (-2)) hx hb eX9_sheet_27.2.2.2.2.2.2.2.2.2.1 bp_m2 ?_
            refine lv_goto (tgt := 58) hx hb eX9_sheet_27.2.2.2.2.2.2.2.2.2.2.1 (by decide) ?_
            exact W.iret (v := (-2)) hx hb hr (fun t ht hW => ⟨⟨(-2), pE, rfl, hp, by rw [ht]; exact hP, va_K.moved hW.alike hK, hD⟩, hS.F ht⟩) hS.2.2 eX9_sheet_53.2.2
        · have hp := hp.2 hc
          refine lv_aload_n hx hb eX9_sheet_0.2.2.2.2.2.2.2.2.2.2.2.2.2.1 rfl (lv_at hl 0 rfl) ?_
          refine va_get (D := (dC, dI)) (ci := 9) (v := .ref wJ) (C := RX9) (T := TX9) (N := 9) hx hb hts i_X9 hown hK hP 0 rfl rfl 3 (Nat.le_of_ble_eq_true rfl) (hts _ q_74) (fun _ h9 => h9) rfl eX9_sheet_0.2.2.2.2.2.2.2.2.2.2.2.2.2.2.1 ?_
          refine lv_iconst (v := 2) hx hb eX9_sheet_0.2.2.2.2.2.2.2.2.2.2.2.2.2.2.2 ic_2 ?_
          refine lv_iconst (v := 0) hx hb eX9_sheet_27.1 ic_0 ?_
          refine lv_iconst (v := 0) hx hb eX9_sheet_27.2.1 ic_0 ?_
          refine lv_iconst (v := 0) hx hb eX9_sheet_27.2.2.1 ic_0 ?_
          have hm := mgk (wc := (wd_X3_fillWorths cI cC cZ cB cJ wJ tX jE mX pD oO oQ eG bZ bD bI aI pE)) hP mk_0 3 rfl rfl rfl
          refine g_calli hP hD hS hA (mixT mk_0) (mixF mk_0) hm.1 hm.2 (nd_F _) (dis_g _) (g_runV (As := [.int 2, .int 0, .int 0, .int 0]) (rest := []) C0 hP hD hS (mixT mk_0) hm.1 (nd_T _) 1 3 rfl rfl (c_X3_fillWorths l dC dI cI cC cZ cB cJ wJ tX jE mX pD oO oQ eG H.size 2 0 0 0 bZ bD bI aI pE _ hp) q_210 q_213 q_211 q_212 q_48 h_X3_fillWorths rfl rfl ⟨Nat.le_of_ble_eq_true rfl, Nat.le_of_ble_eq_true rfl⟩ rfl rfl hl.1 rfl (lv_room (Nat.le_of_ble_eq_true rfl)) eX9_sheet_27.2.2.2.1 ⟨Nat.zero_le _, Nat.zero_le _⟩) (fun r_3 u H locs hp hP hD hS => ?_)
          obtain ⟨tr_worth_4, rfl⟩ : ∃ z, z = u := ⟨_, rfl⟩
          have hPD := PDm (ws' := (wd_X9_sheet cI cC cZ cB cJ a_x xG xD wY wJ wQ xI xK xJ tW tX jE mX pD oO oQ eG bZ bD bI aI tr_worth_4)) hP hD 3 rfl rfl rfl
          have hP := hPD.1
          have hD := hPD.2
          refine lv_pop hx hb eX9_sheet_27.2.2.2.2.1 rfl ?_
          refine lv_bipush (v := (-3)) hx hb eX9_sheet_27.2.2.2.2.2.1 bp_m3 ?_
          exact W.iret (v := (-3)) hx hb hr (fun t ht hW => ⟨⟨(-3), tr_worth_4, rfl, hp, by rw [ht]; exact hP, va_K.moved hW.alike hK, hD⟩, hS.F ht⟩) hS.2.2 eX9_sheet_27.2.2.2.2.2.2.1
      · have hp := hp.2 hc
        refine lv_iconst (v := (-1)) hx hb eX9_sheet_0.2.2.2.2.2.2.2.2.1 ic_m1 ?_
        exact W.iret (v := (-1)) hx hb hr (fun t ht hW => ⟨⟨(-1), pE, rfl, hp, by rw [ht]; exact hP, va_K.moved hW.alike hK, hD⟩, hS.F ht⟩) hS.2.2 eX9_sheet_0.2.2.2.2.2.2.2.2.2.1
noncomputable abbrev wd_X2_write (cI cC cZ cB cJ : ClassId) (wQ vX : Nat) (jC eO eW dO fJ fY jD nG : Int32) (sG : Nat → Int32) : va_W := [(wQ, .inr (2, [.int jC, .int eO, .int eW, .int dO, .int fJ, .int fY, .int jD, .int nG])), (vX, .inl (cI, 104, .inl sG))]
noncomputable abbrev q_X2_write (dC : Nat → ClassId) (dI : Nat → Nat → Nat) (cI cC cZ cB cJ : ClassId) (A : Nat → Prop) (wQ vX : Nat) (jC eO eW dO fJ fY jD nG : Int32) (post : (Nat → Int32) → Prop) : Array Value → State → Outcome → State → Prop := va_Qv (fun (u : (Nat → Int32)) => post u) (fun u t => gB (dC, dI) (tyl cI cC cZ cB cJ) A (wd_X2_write cI cC cZ cB cJ wQ vX jC eO eW dO fJ fY jD nG u) t) A
noncomputable abbrev rm_X2_write : Room := { frames := 0, cells := 0, slots := 0, locals := 0 }
noncomputable def wp_X2_write (post : (Nat → Int32) → Prop) (p1 jC eO eW dO fJ fY jD nG : Int32) (sG : Nat → Int32) : Prop := (p1 < 0 → post sG) ∧ (¬ p1 < 0 → (p1 ≤ (104 - 8) → vp_in p1 104 ∧ (∀ v_1 : Int32, v_1 = p1 + 1 → vp_in v_1 104 ∧ (∀ v_2 : Int32, v_2 = p1 + 2 → vp_in v_2 104 ∧ (∀ v_3 : Int32, v_3 = p1 + 3 → vp_in v_3 104 ∧ (∀ v_4 : Int32, v_4 = p1 + 4 → vp_in v_4 104 ∧ (∀ v_5 : Int32, v_5 = p1 + 5 → vp_in v_5 104 ∧ (∀ v_6 : Int32, v_6 = p1 + 6 → vp_in v_6 104 ∧ (∀ v_7 : Int32, v_7 = p1 + 7 → vp_in v_7 104 ∧ (post (upd (upd (upd (upd (upd (upd (upd (upd sG p1.toNatClampNeg jC) v_1.toNatClampNeg eO) v_2.toNatClampNeg eW) v_3.toNatClampNeg dO) v_4.toNatClampNeg fJ) v_5.toNatClampNeg fY) v_6.toNatClampNeg jD) v_7.toNatClampNeg nG)))))))))) ∧ (¬ p1 ≤ (104 - 8) → post sG))
set_option maxHeartbeats 4000000 in
set_option maxRecDepth 100000 in
theorem c_X2_write (l : Launch) (dC : Nat → ClassId) (dI : Nat → Nat → Nat) (cI cC cZ cB cJ : ClassId) (wQ vX sz : Nat) (p1 jC eO eW dO fJ fY jD nG : Int32) (sG : Nat → Int32) (post : (Nat → Int32) → Prop) (hw : wp_X2_write post p1 jC eO eW dO fJ fY jD nG sG) : Met l yX2_write (gw yX2_write cX2_write 3 none) rm_X2_write (va_Pc [.ref wQ, .ref vX, .int p1] (gPre (dC, dI) (tyl cI cC cZ cB cJ) (wd_X2_write cI cC cZ cB cJ wQ vX jC eO eW dO fJ fY jD nG sG) sz)) (q_X2_write dC dI cI cC cZ cB cJ (va_A (wd_X2_write cI cC cZ cB cJ wQ vX jC eO eW dO fJ fY jD nG sG) sz) wQ vX jC eO eW dO fJ fY jD nG post) 0 0 (va_A (wd_X2_write cI cC cZ cB cJ wQ vX jC eO eW dO fJ fY jD nG sG) sz) := by
  refine g_enter (own := RX2) (dC, dI) (tyl cI cC cZ cB cJ) (wd_X2_write cI cC cZ cB cJ wQ vX jC eO eW dO fJ fY jD nG sG) sz [.ref wQ, .ref vX, .int p1] (fun A => q_X2_write dC dI cI cC cZ cB cJ A wQ vX jC eO eW dO fJ fY jD nG post) pn_RX2 rfl (Nat.le_of_ble_eq_true rfl) ?_
  intro p e s m args below meth c A H locs ls C0 hP hD hS hl
  have hl : lv_has ls 3 [(0, .ref wQ), (1, .ref vX), (2, .int p1)] := hl
  obtain ⟨hx, hb, hr, hml, hown, hts, hlocks, hA, hK, hN, tL, tM, hZL, hTL, hZM, hTM, hZX⟩ := id C0
  have hp := hw
  unfold wp_X2_write at hp
  refine lv_iload_n hx hb eX2_write_0.1 rfl (lv_at hl 2 rfl) ?_
  refine lv_if_lt (tgt := 13) hx hb eX2_write_0.2.1 (by decide) (fun hc => ?_) (fun hc => ?_)
  · have hp := hp.1 hc
    exact W.vret hx hb hr (fun t ht hW => ⟨⟨sG, rfl, hp, by rw [ht]; exact hP, va_K.moved hW.alike hK, hD⟩, hS.F ht⟩) hS.2.2 eX2_write_0.2.2.2.2.2.2.2.2.1
  · have hp := hp.2 hc
    refine lv_iload_n hx hb eX2_write_0.2.2.1 rfl (lv_at hl 2 rfl) ?_
    refine lv_aload_n hx hb eX2_write_0.2.2.2.1 rfl (lv_at hl 1 rfl) ?_
    refine va_alen (v := 104) hx hb hK hP 1 0 rfl rfl rfl eX2_write_0.2.2.2.2.1 ?_
    refine lv_bipush (v := 8) hx hb eX2_write_0.2.2.2.2.2.1 bp_8 ?_
    refine lv_isub hx hb eX2_write_0.2.2.2.2.2.2.1 ?_
    refine lv_icmp_le (tgt := 14) hx hb eX2_write_0.2.2.2.2.2.2.2.1 (by decide) (fun hc => ?_) (fun hc => ?_)
    · have hp := hp.1 hc
      refine lv_aload_n hx hb eX2_write_0.2.2.2.2.2.2.2.2.2.1 rfl (lv_at hl 1 rfl) ?_
      refine lv_iload_n hx hb eX2_write_0.2.2.2.2.2.2.2.2.2.2.1 rfl (lv_at hl 2 rfl) ?_
      refine lv_aload_n hx hb eX2_write_0.2.2.2.2.2.2.2.2.2.2.2.1 rfl (lv_at hl 0 rfl) ?_
      refine va_get (D := (dC, dI)) (ci := 2) (v := .int jC) (C := RX2) (T := TX2) (N := 8) hx hb hts i_X2 hown hK hP 0 rfl rfl 0 (Nat.le_of_ble_eq_true rfl) (hts _ q_168) (fun _ h9 => h9) rfl eX2_write_0.2.2.2.2.2.2.2.2.2.2.2.2.1 ?_
      have hin := hp.1
      have hp := hp.2
      refine va_iast hx hb hK hP hD hS 1 0 rfl rfl hin eX2_write_0.2.2.2.2.2.2.2.2.2.2.2.2.2.1 (fun H locs hP hD hS => ?_)
      have hP : va_P (dC, dI) classes (wd_X2_write cI cC cZ cB cJ wQ vX jC eO eW dO fJ fY jD nG (upd sG p1.toNatClampNeg jC)) H := hP
      have hD : va_D A (wd_X2_write cI cC cZ cB cJ wQ vX jC eO eW dO fJ fY jD nG (upd sG p1.toNatClampNeg jC)) := hD
      refine lv_aload_n hx hb eX2_write_0.2.2.2.2.2.2.2.2.2.2.2.2.2.2.1 rfl (lv_at hl 1 rfl) ?_
      refine lv_iload_n hx hb eX2_write_0.2.2.2.2.2.2.2.2.2.2.2.2.2.2.2 rfl (lv_at hl 2 rfl) ?_
      refine lv_iconst (v := 1) hx hb eX2_write_23.1 ic_1 ?_
      refine lv_iadd hx hb eX2_write_23.2.1 ?_
      refine lv_topi (fun v_1 ev_1 => ?_)
      have hp := hp v_1 ev_1
      refine lv_aload_n hx hb eX2_write_23.2.2.1 rfl (lv_at hl 0 rfl) ?_
      refine va_get (D := (dC, dI)) (ci := 2) (v := .int eO) (C := RX2) (T := TX2) (N := 8) hx hb hts i_X2 hown hK hP 0 rfl rfl 1 (Nat.le_of_ble_eq_true rfl) (hts _ q_169) (fun _ h9 => h9) rfl eX2_write_23.2.2.2.1 ?_
      have hin := hp.1
      have hp := hp.2
      refine va_iast hx hb hK hP hD hS 1 0 rfl rfl hin eX2_write_23.2.2.2.2.1 (fun H locs hP hD hS => ?_)
      have hP : va_P (dC, dI) classes (wd_X2_write cI cC cZ cB cJ wQ vX jC eO eW dO fJ fY jD nG (upd (upd sG p1.toNatClampNeg jC) v_1.toNatClampNeg eO)) H := hP
      have hD : va_D A (wd_X2_write cI cC cZ cB cJ wQ vX jC eO eW dO fJ fY jD nG (upd (upd sG p1.toNatClampNeg jC) v_1.toNatClampNeg eO)) := hD
      refine lv_aload_n hx hb eX2_write_23.2.2.2.2.2.1 rfl (lv_at hl 1 rfl) ?_
      refine lv_iload_n hx hb eX2_write_23.2.2.2.2.2.2.1 rfl (lv_at hl 2 rfl) ?_
      refine lv_iconst (v := 2) hx hb eX2_write_23.2.2.2.2.2.2.2.1 ic_2 ?_
      refine lv_iadd hx hb eX2_write_23.2.2.2.2.2.2.2.2.1 ?_
      refine lv_topi (fun v_2 ev_2 => ?_)
      have hp := hp v_2 ev_2
      refine lv_aload_n hx hb eX2_write_23.2.2.2.2.2.2.2.2.2.1 rfl (lv_at hl 0 rfl) ?_
      refine va_get (D := (dC, dI)) (ci := 2) (v := .int eW) (C := RX2) (T := TX2) (N := 8) hx hb hts i_X2 hown hK hP 0 rfl rfl 2 (Nat.le_of_ble_eq_true rfl) (hts _ q_170) (fun _ h9 => h9) rfl eX2_write_23.2.2.2.2.2.2.2.2.2.2.1 ?_
      have hin := hp.1
      have hp := hp.2
      refine va_iast hx hb hK hP hD hS 1 0 rfl rfl hin eX2_write_23.2.2.2.2.2.2.2.2.2.2.2.1 (fun H locs hP hD hS => ?_)
      have hP : va_P (dC, dI) classes (wd_X2_write cI cC cZ cB cJ wQ vX jC eO eW dO fJ fY jD nG (upd (upd (upd sG p1.toNatClampNeg jC) v_1.toNatClampNeg eO) v_2.toNatClampNeg eW)) H := hP
      have hD : va_D A (wd_X2_write cI cC cZ cB cJ wQ vX jC eO eW dO fJ fY jD nG (upd (upd (upd sG p1.toNatClampNeg jC) v_1.toNatClampNeg eO) v_2.toNatClampNeg eW)) := hD
      refine lv_aload_n hx hb eX2_write_23.2.2.2.2.2.2.2.2.2.2.2.2.1 rfl (lv_at hl 1 rfl) ?_
      refine lv_iload_n hx hb eX2_write_23.2.2.2.2.2.2.2.2.2.2.2.2.2.1 rfl (lv_at hl 2 rfl) ?_
      refine lv_iconst (v := 3) hx hb eX2_write_23.2.2.2.2.2.2.2.2.2.2.2.2.2.2.1 ic_3 ?_
      refine lv_iadd hx hb eX2_write_23.2.2.2.2.2.2.2.2.2.2.2.2.2.2.2 ?_
      refine lv_topi (fun v_3 ev_3 => ?_)
      have hp := hp v_3 ev_3
      refine lv_aload_n hx hb eX2_write_43.1 rfl (lv_at hl 0 rfl) ?_
      refine va_get (D := (dC, dI)) (ci := 2) (v := .int dO) (C := RX2) (T := TX2) (N := 8) hx hb hts i_X2 hown hK hP 0 rfl rfl 3 (Nat.le_of_ble_eq_true rfl) (hts _ q_214) (fun _ h9 => h9) rfl eX2_write_43.2.1 ?_
      have hin := hp.1
      have hp := hp.2
      refine va_iast hx hb hK hP hD hS 1 0 rfl rfl hin eX2_write_43.2.2.1 (fun H locs hP hD hS => ?_)
      have hP : va_P (dC, dI) classes (wd_X2_write cI cC cZ cB cJ wQ vX jC eO eW dO fJ fY jD nG (upd (upd (upd (upd sG p1.toNatClampNeg jC) v_1.toNatClampNeg eO) v_2.toNatClampNeg eW) v_3.toNatClampNeg dO)) H := hP
      have hD : va_D A (wd_X2_write cI cC cZ cB cJ wQ vX jC eO eW dO fJ fY jD nG (upd (upd (upd (upd sG p1.toNatClampNeg jC) v_1.toNatClampNeg eO) v_2.toNatClampNeg eW) v_3.toNatClampNeg dO)) := hD
      refine lv_aload_n hx hb eX2_write_43.2.2.2.1 rfl (lv_at hl 1 rfl) ?_
      refine lv_iload_n hx hb eX2_write_43.2.2.2.2.1 rfl (lv_at hl 2 rfl) ?_
      refine lv_iconst (v := 4) hx hb eX2_write_43.2.2.2.2.2.1 ic_4 ?_
      refine lv_iadd hx hb eX2_write_43.2.2.2.2.2.2.1 ?_
      refine lv_topi (fun v_4 ev_4 => ?_)
      have hp := hp v_4 ev_4
      refine lv_aload_n hx hb eX2_write_43.2.2.2.2.2.2.2.1 rfl (lv_at hl 0 rfl) ?_
      refine va_get (D := (dC, dI)) (ci := 2) (v := .int fJ) (C := RX2) (T := TX2) (N := 8) hx hb hts i_X2 hown hK hP 0 rfl rfl 4 (Nat.le_of_ble_eq_true rfl) (hts _ q_215) (fun _ h9 => h9) rfl eX2_write_43.2.2.2.2.2.2.2.2.1 ?_
      have hin := hp.1
      have hp := hp.2
      refine va_iast hx hb hK hP hD hS 1 0 rfl rfl hin eX2_write_43.2.2.2.2.2.2.2.2.2.1 (fun H locs hP hD hS => ?_)
      have hP : va_P (dC, dI) classes (wd_X2_write cI cC cZ cB cJ wQ vX jC eO eW dO fJ fY jD nG (upd (upd (upd (upd (upd sG p1.toNatClampNeg jC) v_1.toNatClampNeg eO) v_2.toNatClampNeg eW) v_3.toNatClampNeg dO) v_4.toNatClampNeg fJ)) H := hP
      have hD : va_D A (wd_X2_write cI cC cZ cB cJ wQ vX jC eO eW dO fJ fY jD nG (upd (upd (upd (upd (upd sG p1.toNatClampNeg jC) v_1.toNatClampNeg eO) v_2.toNatClampNeg eW) v_3.toNatClampNeg dO) v_4.toNatClampNeg fJ)) := hD
      refine lv_aload_n hx hb eX2_write_43.2.2.2.2.2.2.2.2.2.2.1 rfl (lv_at hl 1 rfl) ?_
      refine lv_iload_n hx hb eX2_write_43.2.2.2.2.2.2.2.2.2.2.2.1 rfl (lv_at hl 2 rfl) ?_
      refine lv_iconst (v := 5) hx hb eX2_write_43.2.2.2.2.2.2.2.2.2.2.2.2.1 ic_5 ?_
      refine lv_iadd hx hb eX2_write_43.2.2.2.2.2.2.2.2.2.2.2.2.2.1 ?_
      refine lv_topi (fun v_5 ev_5 => ?_)
      have hp := hp v_5 ev_5
      refine lv_aload_n hx hb eX2_write_43.2.2.2.2.2.2.2.2.2.2.2.2.2.2.1 rfl (lv_at hl 0 rfl) ?_
      refine va_get (D := (dC, dI)) (ci := 2) (v := .int fY) (C := RX2) (T := TX2) (N := 8) hx hb hts i_X2 hown hK hP 0 rfl rfl 5 (Nat.le_of_ble_eq_true rfl) (hts _ q_216) (fun _ h9 => h9) rfl eX2_write_43.2.2.2.2.2.2.2.2.2.2.2.2.2.2.2 ?_
      have hin := hp.1
      have hp := hp.2
      refine va_iast hx hb hK hP hD hS 1 0 rfl rfl hin eX2_write_65.1 (fun H locs hP hD hS => ?_)
      have hP : va_P (dC, dI) classes (wd_X2_write cI cC cZ cB cJ wQ vX jC eO eW dO fJ fY jD nG (upd (upd (upd (upd (upd (upd sG p1.toNatClampNeg jC) v_1.toNatClampNeg eO) v_2.toNatClampNeg eW) v_3.toNatClampNeg dO) v_4.toNatClampNeg fJ) v_5.toNatClampNeg fY)) H := hP
      have hD : va_D A (wd_X2_write cI cC cZ cB cJ wQ vX jC eO eW dO fJ fY jD nG (upd (upd (upd (upd (upd (upd sG p1.toNatClampNeg jC) v_1.toNatClampNeg eO) v_2.toNatClampNeg eW) v_3.toNatClampNeg dO) v_4.toNatClampNeg fJ) v_5.toNatClampNeg fY)) := hD
      refine lv_aload_n hx hb eX2_write_65.2.1 rfl (lv_at hl 1 rfl) ?_
      refine lv_iload_n hx hb eX2_write_65.2.2.1 rfl (lv_at hl 2 rfl) ?_
      refine lv_bipush (v := 6) hx hb eX2_write_65.2.2.2.1 bp_6 ?_
      refine lv_iadd hx hb eX2_write_65.2.2.2.2.1 ?_
      refine lv_topi (fun v_6 ev_6 => ?_)
      have hp := hp v_6 ev_6
      refine lv_aload_n hx hb eX2_write_65.2.2.2.2.2.1 rfl (lv_at hl 0 rfl) ?_
      refine va_get (D := (dC, dI)) (ci := 2) (v := .int jD) (C := RX2) (T := TX2) (N := 8) hx hb hts i_X2 hown hK hP 0 rfl rfl 6 (Nat.le_of_ble_eq_true rfl) (hts _ q_217) (fun _ h9 => h9) rfl eX2_write_65.2.2.2.2.2.2.1 ?_
      have hin := hp.1
      have hp := hp.2
      refine va_iast hx hb hK hP hD hS 1 0 rfl rfl hin eX2_write_65.2.2.2.2.2.2.2.1 (fun H locs hP hD hS => ?_)
      have hP : va_P (dC, dI) classes (wd_X2_write cI cC cZ cB cJ wQ vX jC eO eW dO fJ fY jD nG (upd (upd (upd (upd (upd (upd (upd sG p1.toNatClampNeg jC) v_1.toNatClampNeg eO) v_2.toNatClampNeg eW) v_3.toNatClampNeg dO) v_4.toNatClampNeg fJ) v_5.toNatClampNeg fY) v_6.toNatClampNeg jD)) H := hP
      have hD : va_D A (wd_X2_write cI cC cZ cB cJ wQ vX jC eO eW dO fJ fY jD nG (upd (upd (upd (upd (upd (upd (upd sG p1.toNatClampNeg jC) v_1.toNatClampNeg eO) v_2.toNatClampNeg eW) v_3.toNatClampNeg dO) v_4.toNatClampNeg fJ) v_5.toNatClampNeg fY) v_6.toNatClampNeg jD)) := hD
      refine lv_aload_n hx hb eX2_write_65.2.2.2.2.2.2.2.2.1 rfl (lv_at hl 1 rfl) ?_
      refine lv_iload_n hx hb eX2_write_65.2.2.2.2.2.2.2.2.2.1 rfl (lv_at hl 2 rfl) ?_
      refine lv_bipush (v := 7) hx hb eX2_write_65.2.2.2.2.2.2.2.2.2.2.1 bp_7 ?_
      refine lv_iadd hx hb eX2_write_65.2.2.2.2.2.2.2.2.2.2.2.1 ?_
      refine lv_topi (fun v_7 ev_7 => ?_)
      have hp := hp v_7 ev_7
      refine lv_aload_n hx hb eX2_write_65.2.2.2.2.2.2.2.2.2.2.2.2.1 rfl (lv_at hl 0 rfl) ?_
      refine va_get (D := (dC, dI)) (ci := 2) (v := .int nG) (C := RX2) (T := TX2) (N := 8) hx hb hts i_X2 hown hK hP 0 rfl rfl 7 (Nat.le_of_ble_eq_true rfl) (hts _ q_218) (fun _ h9 => h9) rfl eX2_write_65.2.2.2.2.2.2.2.2.2.2.2.2.2.1 ?_
      have hin := hp.1
      have hp := hp.2
      refine va_iast hx hb hK hP hD hS 1 0 rfl rfl hin eX2_write_65.2.2.2.2.2.2.2.2.2.2.2.2.2.2.1 (fun H locs hP hD hS => ?_)
      have hP : va_P (dC, dI) classes (wd_X2_write cI cC cZ cB cJ wQ vX jC eO eW dO fJ fY jD nG (upd (upd (upd (upd (upd (upd (upd (upd sG p1.toNatClampNeg jC) v_1.toNatClampNeg eO) v_2.toNatClampNeg eW) v_3.toNatClampNeg dO) v_4.toNatClampNeg fJ) v_5.toNatClampNeg fY) v_6.toNatClampNeg jD) v_7.toNatClampNeg nG)) H := hP
      have hD : va_D A (wd_X2_write cI cC cZ cB cJ wQ vX jC eO eW dO fJ fY jD nG (upd (upd (upd (upd (upd (upd (upd (upd sG p1.toNatClampNeg jC) v_1.toNatClampNeg eO) v_2.toNatClampNeg eW) v_3.toNatClampNeg dO) v_4.toNatClampNeg fJ) v_5.toNatClampNeg fY) v_6.toNatClampNeg jD) v_7.toNatClampNeg nG)) := hD
      exact W.vret hx hb hr (fun t ht hW => ⟨⟨(upd (upd (upd (upd (upd (upd (upd (upd sG p1.toNatClampNeg jC) v_1.toNatClampNeg eO) v_2.toNatClampNeg eW) v_3.toNatClampNeg dO) v_4.toNatClampNeg fJ) v_5.toNatClampNeg fY) v_6.toNatClampNeg jD) v_7.toNatClampNeg nG), rfl, hp, by rw [ht]; exact hP, va_K.moved hW.alike hK, hD⟩, hS.F ht⟩) hS.2.2 eX2_write_65.2.2.2.2.2.2.2.2.2.2.2.2.2.2.2
    · have hp := hp.2 hc
      exact W.vret hx hb hr (fun t ht hW => ⟨⟨sG, rfl, hp, by rw [ht]; exact hP, va_K.moved hW.alike hK, hD⟩, hS.F ht⟩) hS.2.2 eX2_write_0.2.2.2.2.2.2.2.2.1
noncomputable abbrev wd_X4_note (cI cC cZ cB cJ : ClassId) (wQ xI vX uO vQ : Nat) (jC eO eW dO fJ fY jD nG oE uF : Int32) (sG : Nat → Int32) : va_W := [(wQ, .inr (2, [.int jC, .int eO, .int eW, .int dO, .int fJ, .int fY, .int jD, .int nG])), (xI, .inr (4, [.ref vX, .ref uO, .ref vQ, .int oE, .int uF])), (vX, .inl (cI, 104, .inl sG))]
noncomputable abbrev q_X4_note (dC : Nat → ClassId) (dI : Nat → Nat → Nat) (cI cC cZ cB cJ : ClassId) (A : Nat → Prop) (wQ xI vX uO vQ : Nat) (jC eO eW dO fJ fY jD nG oE uF : Int32) (post : (Nat → Int32) → Prop) : Array Value → State → Outcome → State → Prop := va_Qv (fun (u : (Nat → Int32)) => post u) (fun u t => gB (dC, dI) (tyl cI cC cZ cB cJ) A (wd_X4_note cI cC cZ cB cJ wQ xI vX uO vQ jC eO eW dO fJ fY jD nG oE uF u) t) A
noncomputable abbrev rm_X4_note : Room := { frames := 1, cells := 0, slots := 0, locals := 22 }
noncomputable def wp_X4_note (post : (Nat → Int32) → Prop) (jC eO eW dO fJ fY jD nG uF : Int32) (sG : Nat → Int32) : Prop := ∀ v_1 : Int32, v_1 = uF * 8 → wp_X2_write (fun pa_cells_2 => post pa_cells_2) v_1 jC eO eW dO fJ fY jD nG sG
set_option maxHeartbeats 4000000 in
set_option maxRecDepth 100000 in
theorem c_X4_note (l : Launch) (dC : Nat → ClassId) (dI : Nat → Nat → Nat) (cI cC cZ cB cJ : ClassId) (wQ xI vX uO vQ sz : Nat) (jC eO eW dO fJ fY jD nG oE uF : Int32) (sG : Nat → Int32) (post : (Nat → Int32) → Prop) (hw : wp_X4_note post jC eO eW dO fJ fY jD nG uF sG) : Met l yX4_note (gw yX4_note cX4_note 2 none) rm_X4_note (va_Pc [.ref xI, .ref wQ] (gPre (dC, dI) (tyl cI cC cZ cB cJ) (wd_X4_note cI cC cZ cB cJ wQ xI vX uO vQ jC eO eW dO fJ fY jD nG oE uF sG) sz)) (q_X4_note dC dI cI cC cZ cB cJ (va_A (wd_X4_note cI cC cZ cB cJ wQ xI vX uO vQ jC eO eW dO fJ fY jD nG oE uF sG) sz) wQ xI vX uO vQ jC eO eW dO fJ fY jD nG oE uF post) 0 0 (va_A (wd_X4_note cI cC cZ cB cJ wQ xI vX uO vQ jC eO eW dO fJ fY jD nG oE uF sG) sz) := by
  refine g_enter (own := RX4) (dC, dI) (tyl cI cC cZ cB cJ) (wd_X4_note cI cC cZ cB cJ wQ xI vX uO vQ jC eO eW dO fJ fY jD nG oE uF sG) sz [.ref xI, .ref wQ] (fun A => q_X4_note dC dI cI cC cZ cB cJ A wQ xI vX uO vQ jC eO eW dO fJ fY jD nG oE uF post) pn_RX4 rfl (Nat.le_of_ble_eq_true rfl) ?_
  intro p e s m args below meth c A H locs ls C0 hP hD hS hl
  have hl : lv_has ls 2 [(0, .ref xI), (1, .ref wQ)] := hl
  obtain ⟨hx, hb, hr, hml, hown, hts, hlocks, hA, hK, hN, tL, tM, hZL, hTL, hZM, hTM, hZX⟩ := id C0
  have hp := hw
  unfold wp_X4_note at hp
  refine lv_aload_n hx hb eX4_note_0.1 rfl (lv_at hl 1 rfl) ?_
  refine lv_aload_n hx hb eX4_note_0.2.1 rfl (lv_at hl 0 rfl) ?_
  refine va_get (D := (dC, dI)) (ci := 4) (v := .ref vX) (C := RX4) (T := TX4) (N := 5) hx hb hts i_X4 hown hK hP 1 rfl rfl 0 (Nat.le_of_ble_eq_true rfl) (hts _ q_219) (fun _ h9 => h9) rfl eX4_note_0.2.2.1 ?_
  refine lv_aload_n hx hb eX4_note_0.2.2.2.1 rfl (lv_at hl 0 rfl) ?_
  refine va_get (D := (dC, dI)) (ci := 4) (v := .int uF) (C := RX4) (T := TX4) (N := 5) hx hb hts i_X4 hown hK hP 1 rfl rfl 4 (Nat.le_of_ble_eq_true rfl) (hts _ q_220) (fun _ h9 => h9) rfl eX4_note_0.2.2.2.2.1 ?_
  refine lv_bipush (v := 8) hx hb eX4_note_0.2.2.2.2.2.1 bp_8 ?_
  refine lv_imul hx hb eX4_note_0.2.2.2.2.2.2.1 ?_
  refine lv_topi (fun v_1 ev_1 => ?_)
  have hp := hp v_1 ev_1
  have hm := mgk (wc := (wd_X2_write cI cC cZ cB cJ wQ vX jC eO eW dO fJ fY jD nG sG)) hP aGw 3 rfl rfl rfl
  refine g_callv hP hD hS hA (mixT aGw) (mixF aGw) hm.1 hm.2 (nd_F _) (dis_g _) (g_runV (As := [.ref vX, .int v_1]) (rest := []) C0 hP hD hS (mixT aGw) hm.1 (nd_T _) 0 2 rfl rfl (c_X2_write l dC dI cI cC cZ cB cJ wQ vX H.size v_1 jC eO eW dO fJ fY jD nG sG _ hp) q_221 q_224 q_222 q_223 q_181 h_X2_write rfl rfl ⟨Nat.le_of_ble_eq_true rfl, Nat.le_of_ble_eq_true rfl⟩ rfl rfl hl.1 rfl (lv_room (Nat.le_of_ble_eq_true rfl)) eX4_note_0.2.2.2.2.2.2.2.1 ⟨Nat.zero_le _, Nat.zero_le _⟩) (fun u H locs hp hP hD hS => ?_)
  obtain ⟨pa_cells_2, rfl⟩ : ∃ z, z = u := ⟨_, rfl⟩
  have hPD := PDm (ws' := (wd_X4_note cI cC cZ cB cJ wQ xI vX uO vQ jC eO eW dO fJ fY jD nG oE uF pa_cells_2)) hP hD 3 rfl rfl rfl
  have hP := hPD.1
  have hD := hPD.2
  exact W.vret hx hb hr (fun t ht hW => ⟨⟨pa_cells_2, rfl, hp, by rw [ht]; exact hP, va_K.moved hW.alike hK, hD⟩, hS.F ht⟩) hS.2.2 eX4_note_0.2.2.2.2.2.2.2.2
noncomputable abbrev wd_X3_moveSeconds (cI cC cZ cB cJ : ClassId) (wJ tX jE mX pD oO oQ eG : Nat) (bZ bD bI aI : Int32) (nJ dQ : Nat → Int32) : va_W := [(wJ, .inr (3, [.ref tX, .ref jE, .ref mX, .ref pD, .ref oO, .ref oQ, .ref eG, .int bZ, .int bD, .int bI, .int aI])), (oO, .inl (cI, 8, .inl nJ)), (eG, .inl (cI, 5, .inl dQ))]
noncomputable abbrev q_X3_moveSeconds (dC : Nat → ClassId) (dI : Nat → Nat → Nat) (cI cC cZ cB cJ : ClassId) (A : Nat → Prop) (wJ tX jE mX pD oO oQ eG : Nat) (bZ bD bI aI : Int32) (nJ dQ : Nat → Int32) (post : Int32 → Prop) : Array Value → State → Outcome → State → Prop := va_Qi (fun (r : Int32) (u : Unit) => post r) (fun u t => gB (dC, dI) (tyl cI cC cZ cB cJ) A (wd_X3_moveSeconds cI cC cZ cB cJ wJ tX jE mX pD oO oQ eG bZ bD bI aI nJ dQ) t) A
noncomputable abbrev rm_X3_moveSeconds : Room := { frames := 1, cells := 0, slots := 0, locals := 21 }
noncomputable def wp_X3_moveSeconds (post : Int32 → Prop) (p0 p1 : Int32) (nJ dQ : Nat → Int32) : Prop := (¬ p0 = (-1) → ∀ v_1 : Int32, v_1 = dQ (3 : Int32).toNatClampNeg → vp_in p0 8 ∧ (∀ v_2 : Int32, v_2 = nJ p0.toNatClampNeg → vp_in p1 8 ∧ (∀ v_3 : Int32, v_3 = v_2 - (nJ p1.toNatClampNeg) → ∀ v_4 : Int32, v_4 = (if 0 ≤ v_3 then v_3 else 0 - v_3) → post (9 + (v_1 * v_4))))) ∧ (p0 = (-1) → post 9)
set_option maxHeartbeats 4000000 in
set_option maxRecDepth 100000 in
theorem c_X3_moveSeconds (l : Launch) (dC : Nat → ClassId) (dI : Nat → Nat → Nat) (cI cC cZ cB cJ : ClassId) (wJ tX jE mX pD oO oQ eG sz : Nat) (p0 p1 bZ bD bI aI : Int32) (nJ dQ : Nat → Int32) (post : Int32 → Prop) (hw : wp_X3_moveSeconds post p0 p1 nJ dQ) : Met l yX3_moveSeconds (gw yX3_moveSeconds cX3_moveSeconds 3 (some .int)) rm_X3_moveSeconds (va_Pc [.ref wJ, .int p0, .int p1] (gPre (dC, dI) (tyl cI cC cZ cB cJ) (wd_X3_moveSeconds cI cC cZ cB cJ wJ tX jE mX pD oO oQ eG bZ bD bI aI nJ dQ) sz)) (q_X3_moveSeconds dC dI cI cC cZ cB cJ (va_A (wd_X3_moveSeconds cI cC cZ cB cJ wJ tX jE mX pD oO oQ eG bZ bD bI aI nJ dQ) sz) wJ tX jE mX pD oO oQ eG bZ bD bI aI nJ dQ post) 0 0 (va_A (wd_X3_moveSeconds cI cC cZ cB cJ wJ tX jE mX pD oO oQ eG bZ bD bI aI nJ dQ) sz) := by
  refine g_enter (own := RX3) (dC, dI) (tyl cI cC cZ cB cJ) (wd_X3_moveSeconds cI cC cZ cB cJ wJ tX jE mX pD oO oQ eG bZ bD bI aI nJ dQ) sz [.ref wJ, .int p0, .int p1] (fun A => q_X3_moveSeconds dC dI cI cC cZ cB cJ A wJ tX jE mX pD oO oQ eG bZ bD bI aI nJ dQ post) pn_RX3 rfl (Nat.le_of_ble_eq_true rfl) ?_
  intro p e s m args below meth c A H locs ls C0 hP hD hS hl
  have hl : lv_has ls 3 [(0, .ref wJ), (1, .int p0), (2, .int p1)] := hl
  obtain ⟨hx, hb, hr, hml, hown, hts, hlocks, hA, hK, hN, tL, tM, hZL, hTL, hZM, hTM, hZX⟩ := id C0
  have hp := hw
  unfold wp_X3_moveSeconds at hp
  refine lv_iload_n hx hb eX3_moveSeconds_0.1 rfl (lv_at hl 1 rfl) ?_
  refine lv_iconst (v := (-1)) hx hb eX3_moveSeconds_0.2.1 ic_m1 ?_
  refine lv_icmp_ne (tgt := 10) hx hb eX3_moveSeconds_0.2.2.1 (by decide) (fun hc => ?_) (fun hc => ?_)
  · have hp := hp.1 hc
    refine lv_bipush (v := 9) hx hb eX3_moveSeconds_0.2.2.2.2.2.1 bp_9 ?_
    refine lv_aload_n hx hb eX3_moveSeconds_0.2.2.2.2.2.2.1 rfl (lv_at hl 0 rfl) ?_
    refine va_get (D := (dC, dI)) (ci := 3) (v := .ref eG) (C := RX3) (T := TX3) (N := 11) hx hb hts i_X3 hown hK hP 0 rfl rfl 6 (Nat.le_of_ble_eq_true rfl) (hts _ q_225) (fun _ h9 => h9) rfl eX3_moveSeconds_0.2.2.2.2.2.2.2.1 ?_
    refine lv_iconst (v := 3) hx hb eX3_moveSeconds_0.2.2.2.2.2.2.2.2.1 ic_3 ?_
    refine va_iald hx hb hK hP 2 0 rfl rfl (g_in rfl) eX3_moveSeconds_0.2.2.2.2.2.2.2.2.2.1 ?_
    refine lv_topi (fun v_1 ev_1 => ?_)
    have hp := hp v_1 ev_1
    refine lv_aload_n hx hb eX3_moveSeconds_0.2.2.2.2.2.2.2.2.2.2.1 rfl (lv_at hl 0 rfl) ?_
    refine va_get (D := (dC, dI)) (ci := 3) (v := .ref oO) (C := RX3) (T := TX3) (N := 11) hx hb hts i_X3 hown hK hP 0 rfl rfl 4 (Nat.le_of_ble_eq_true rfl) (hts _ q_53) (fun _ h9 => h9) rfl eX3_moveSeconds_0.2.2.2.2.2.2.2.2.2.2.2.1 ?_
    refine lv_iload_n hx hb eX3_moveSeconds_0.2.2.2.2.2.2.2.2.2.2.2.2.1 rfl (lv_at hl 1 rfl) ?_
    have hin := hp.1
    have hp := hp.2
    refine va_iald hx hb hK hP 1 0 rfl rfl hin eX3_moveSeconds_0.2.2.2.2.2.2.2.2.2.2.2.2.2.1 ?_
    refine lv_topi (fun v_2 ev_2 => ?_)
    have hp := hp v_2 ev_2
    refine lv_aload_n hx hb eX3_moveSeconds_0.2.2.2.2.2.2.2.2.2.2.2.2.2.2.1 rfl (lv_at hl 0 rfl) ?_
    refine va_get (D := (dC, dI)) (ci := 3) (v := .ref oO) (C := RX3) (T := TX3) (N := 11) hx hb hts i_X3 hown hK hP 0 rfl rfl 4 (Nat.le_of_ble_eq_true rfl) (hts _ q_53) (fun _ h9 => h9) rfl eX3_moveSeconds_0.2.2.2.2.2.2.2.2.2.2.2.2.2.2.2 ?_
    refine lv_iload_n hx hb eX3_moveSeconds_28.1 rfl (lv_at hl 2 rfl) ?_
    have hin := hp.1
    have hp := hp.2
    refine va_iald hx hb hK hP 1 0 rfl rfl hin eX3_moveSeconds_28.2.1 ?_
    refine lv_isub hx hb eX3_moveSeconds_28.2.2.1 ?_
    refine lv_topi (fun v_3 ev_3 => ?_)
    have hp := hp v_3 ev_3
    refine va_mabs hx hb (by rw [hml]; exact hl.1.symm) hown (hts _ q_165) (hts _ q_166) (hts _ q_16) (hts _ q_167) (Nat.le_of_ble_eq_true rfl) (Nat.le_of_ble_eq_true rfl) (Nat.zero_le _) (Nat.zero_le _) eX3_moveSeconds_28.2.2.2.1 ?_
    refine lv_topi (fun v_4 ev_4 => ?_)
    have hp := hp v_4 ev_4
    refine lv_imul hx hb eX3_moveSeconds_28.2.2.2.2.1 ?_
    refine lv_iadd hx hb eX3_moveSeconds_28.2.2.2.2.2.1 ?_
    exact W.iret (v := 9 + (v_1 * v_4)) hx hb hr (fun t ht hW => ⟨⟨9 + (v_1 * v_4), (), rfl, hp, by rw [ht]; exact hP, va_K.moved hW.alike hK, hD⟩, hS.F ht⟩) hS.2.2 eX3_moveSeconds_28.2.2.2.2.2.2
  · have hp := hp.2 hc
    refine lv_bipush (v := 9) hx hb eX3_moveSeconds_0.2.2.2.1 bp_9 ?_
    refine lv_goto (tgt := 36) hx hb eX3_moveSeconds_0.2.2.2.2.1 (by decide) ?_
    exact W.iret (v := 9) hx hb hr (fun t ht hW => ⟨⟨9, (), rfl, hp, by rw [ht]; exact hP, va_K.moved hW.alike hK, hD⟩, hS.F ht⟩) hS.2.2 eX3_moveSeconds_28.2.2.2.2.2.2
noncomputable abbrev wd_X2_emptyApron (cI cC cZ cB cJ : ClassId) (wQ : Nat) (jC eO eW dO fJ fY jD nG : Int32) : va_W := [(wQ, .inr (2, [.int jC, .int eO, .int eW, .int dO, .int fJ, .int fY, .int jD, .int nG]))]
noncomputable abbrev q_X2_emptyApron (dC : Nat → ClassId) (dI : Nat → Nat → Nat) (cI cC cZ cB cJ : ClassId) (A : Nat → Prop) (wQ : Nat) (eW dO fJ fY jD nG : Int32) (post : Int32 → Int32 → Prop) : Array Value → State → Outcome → State → Prop := va_Qv (fun (u : Int32 × Int32) => post u.1 u.2) (fun u t => gB (dC, dI) (tyl cI cC cZ cB cJ) A (wd_X2_emptyApron cI cC cZ cB cJ wQ u.1 u.2 eW dO fJ fY jD nG) t) A
noncomputable abbrev rm_X2_emptyApron : Room := { frames := 0, cells := 0, slots := 0, locals := 0 }
noncomputable def wp_X2_emptyApron (post : Int32 → Int32 → Prop) (jC eO : Int32) : Prop := ∀ v_1 : Int32, v_1 = eO ||| jC → post 0 v_1
set_option maxHeartbeats 4000000 in
set_option maxRecDepth 100000 in
theorem c_X2_emptyApron (l : Launch) (dC : Nat → ClassId) (dI : Nat → Nat → Nat) (cI cC cZ cB cJ : ClassId) (wQ sz : Nat) (jC eO eW dO fJ fY jD nG : Int32) (post : Int32 → Int32 → Prop) (hw : wp_X2_emptyApron post jC eO) : Met l yX2_emptyApron (gw yX2_emptyApron cX2_emptyApron 1 none) rm_X2_emptyApron (va_Pc [.ref wQ] (gPre (dC, dI) (tyl cI cC cZ cB cJ) (wd_X2_emptyApron cI cC cZ cB cJ wQ jC eO eW dO fJ fY jD nG) sz)) (q_X2_emptyApron dC dI cI cC cZ cB cJ (va_A (wd_X2_emptyApron cI cC cZ cB cJ wQ jC eO eW dO fJ fY jD nG) sz) wQ eW dO fJ fY jD nG post) 0 0 (va_A (wd_X2_emptyApron cI cC cZ cB cJ wQ jC eO eW dO fJ fY jD nG) sz) := by
  refine g_enter (own := RX2) (dC, dI) (tyl cI cC cZ cB cJ) (wd_X2_emptyApron cI cC cZ cB cJ wQ jC eO eW dO fJ fY jD nG) sz [.ref wQ] (fun A => q_X2_emptyApron dC dI cI cC cZ cB cJ A wQ eW dO fJ fY jD nG post) pn_RX2 rfl (Nat.le_of_ble_eq_true rfl) ?_
  intro p e s m args below meth c A H locs ls C0 hP hD hS hl
  have hl : lv_has ls 1 [(0, .ref wQ)] := hl
  obtain ⟨hx, hb, hr, hml, hown, hts, hlocks, hA, hK, hN, tL, tM, hZL, hTL, hZM, hTM, hZX⟩ := id C0
  have hp := hw
  unfold wp_X2_emptyApron at hp
  refine lv_aload_n hx hb eX2_emptyApron_0.1 rfl (lv_at hl 0 rfl) ?_
  refine lv_dup hx hb eX2_emptyApron_0.2.1 rfl ?_
  refine va_get (D := (dC, dI)) (ci := 2) (v := .int eO) (C := RX2) (T := TX2) (N := 8) hx hb hts i_X2 hown hK hP 0 rfl rfl 1 (Nat.le_of_ble_eq_true rfl) (hts _ q_169) (fun _ h9 => h9) rfl eX2_emptyApron_0.2.2.1 ?_
  refine lv_aload_n hx hb eX2_emptyApron_0.2.2.2.1 rfl (lv_at hl 0 rfl) ?_
  refine va_get (D := (dC, dI)) (ci := 2) (v := .int jC) (C := RX2) (T := TX2) (N := 8) hx hb hts i_X2 hown hK hP 0 rfl rfl 0 (Nat.le_of_ble_eq_true rfl) (hts _ q_168) (fun _ h9 => h9) rfl eX2_emptyApron_0.2.2.2.2.1 ?_
  refine lv_ior hx hb eX2_emptyApron_0.2.2.2.2.2.1 ?_
  refine lv_topi (fun v_1 ev_1 => ?_)
  have hp := hp v_1 ev_1
  refine va_put (D := (dC, dI)) (ci := 2) (v := .int v_1) (ty := .int) (C := RX2) (T := TX2) (N := 8) hx hb hts i_X2 tyX2 tyX2_ok nmX2 hown hK hP hD hS 0 rfl rfl 1 (Nat.le_of_ble_eq_true rfl) (hts _ q_169) (fun _ h9 => h9) rfl (tyX2_ok 1 (Nat.le_of_ble_eq_true rfl)) rfl rfl (Nat.le_of_ble_eq_true rfl) eX2_emptyApron_0.2.2.2.2.2.2.1 (fun H locs hP hD hS => ?_)
  have hP : va_P (dC, dI) classes (wd_X2_emptyApron cI cC cZ cB cJ wQ jC v_1 eW dO fJ fY jD nG) H := hP
  have hD : va_D A (wd_X2_emptyApron cI cC cZ cB cJ wQ jC v_1 eW dO fJ fY jD nG) := hD
  refine lv_aload_n hx hb eX2_emptyApron_0.2.2.2.2.2.2.2.1 rfl (lv_at hl 0 rfl) ?_
  refine lv_iconst (v := 0) hx hb eX2_emptyApron_0.2.2.2.2.2.2.2.2.1 ic_0 ?_
  refine va_put (D := (dC, dI)) (ci := 2) (v := .int 0) (ty := .int) (C := RX2) (T := TX2) (N := 8) hx hb hts i_X2 tyX2 tyX2_ok nmX2 hown hK hP hD hS 0 rfl rfl 0 (Nat.le_of_ble_eq_true rfl) (hts _ q_168) (fun _ h9 => h9) rfl (tyX2_ok 0 (Nat.le_of_ble_eq_true rfl)) rfl rfl (Nat.le_of_ble_eq_true rfl) eX2_emptyApron_0.2.2.2.2.2.2.2.2.2.1 (fun H locs hP hD hS => ?_)
  have hP : va_P (dC, dI) classes (wd_X2_emptyApron cI cC cZ cB cJ wQ 0 v_1 eW dO fJ fY jD nG) H := hP
  have hD : va_D A (wd_X2_emptyApron cI cC cZ cB cJ wQ 0 v_1 eW dO fJ fY jD nG) := hD
  exact W.vret hx hb hr (fun t ht hW => ⟨⟨(0, v_1), rfl, hp, by rw [ht]; exact hP, va_K.moved hW.alike hK, hD⟩, hS.F ht⟩) hS.2.2 eX2_emptyApron_0.2.2.2.2.2.2.2.2.2.2
noncomputable abbrev wd_X2_spend (cI cC cZ cB cJ : ClassId) (wQ : Nat) (jC eO eW dO fJ fY jD nG : Int32) : va_W := [(wQ, .inr (2, [.int jC, .int eO, .int eW, .int dO, .int fJ, .int fY, .int jD, .int nG]))]
noncomputable abbrev q_X2_spend (dC : Nat → ClassId) (dI : Nat → Nat → Nat) (cI cC cZ cB cJ : ClassId) (A : Nat → Prop) (wQ : Nat) (jC eO eW dO fJ fY jD : Int32) (post : Int32 → Prop) : Array Value → State → Outcome → State → Prop := va_Qv (fun (u : Int32) => post u) (fun u t => gB (dC, dI) (tyl cI cC cZ cB cJ) A (wd_X2_spend cI cC cZ cB cJ wQ jC eO eW dO fJ fY jD u) t) A
noncomputable abbrev rm_X2_spend : Room := { frames := 1, cells := 0, slots := 0, locals := 21 }
noncomputable def wp_X2_spend (post : Int32 → Prop) (p0 nG : Int32) : Prop := ∀ v_1 : Int32, v_1 = nG + p0 → ∀ v_2 : Int32, v_2 = (if v_1 < 9999 then v_1 else 9999) → post v_2
set_option maxHeartbeats 4000000 in
set_option maxRecDepth 100000 in
theorem c_X2_spend (l : Launch) (dC : Nat → ClassId) (dI : Nat → Nat → Nat) (cI cC cZ cB cJ : ClassId) (wQ sz : Nat) (p0 jC eO eW dO fJ fY jD nG : Int32) (post : Int32 → Prop) (hw : wp_X2_spend post p0 nG) : Met l yX2_spend (gw yX2_spend cX2_spend 2 none) rm_X2_spend (va_Pc [.ref wQ, .int p0] (gPre (dC, dI) (tyl cI cC cZ cB cJ) (wd_X2_spend cI cC cZ cB cJ wQ jC eO eW dO fJ fY jD nG) sz)) (q_X2_spend dC dI cI cC cZ cB cJ (va_A (wd_X2_spend cI cC cZ cB cJ wQ jC eO eW dO fJ fY jD nG) sz) wQ jC eO eW dO fJ fY jD post) 0 0 (va_A (wd_X2_spend cI cC cZ cB cJ wQ jC eO eW dO fJ fY jD nG) sz) := by
  refine g_enter (own := RX2) (dC, dI) (tyl cI cC cZ cB cJ) (wd_X2_spend cI cC cZ cB cJ wQ jC eO eW dO fJ fY jD nG) sz [.ref wQ, .int p0] (fun A => q_X2_spend dC dI cI cC cZ cB cJ A wQ jC eO eW dO fJ fY jD post) pn_RX2 rfl (Nat.le_of_ble_eq_true rfl) ?_
  intro p e s m args below meth c A H locs ls C0 hP hD hS hl
  have hl : lv_has ls 2 [(0, .ref wQ), (1, .int p0)] := hl
  obtain ⟨hx, hb, hr, hml, hown, hts, hlocks, hA, hK, hN, tL, tM, hZL, hTL, hZM, hTM, hZX⟩ := id C0
  have hp := hw
  unfold wp_X2_spend at hp
  refine lv_aload_n hx hb eX2_spend_0.1 rfl (lv_at hl 0 rfl) ?_
  refine lv_sipush (v := 9999) hx hb eX2_spend_0.2.1 sp_9999 ?_
  refine lv_aload_n hx hb eX2_spend_0.2.2.1 rfl (lv_at hl 0 rfl) ?_
  refine va_get (D := (dC, dI)) (ci := 2) (v := .int nG) (C := RX2) (T := TX2) (N := 8) hx hb hts i_X2 hown hK hP 0 rfl rfl 7 (Nat.le_of_ble_eq_true rfl) (hts _ q_218) (fun _ h9 => h9) rfl eX2_spend_0.2.2.2.1 ?_
  refine lv_iload_n hx hb eX2_spend_0.2.2.2.2.1 rfl (lv_at hl 1 rfl) ?_
  refine lv_iadd hx hb eX2_spend_0.2.2.2.2.2.1 ?_
  refine lv_topi (fun v_1 ev_1 => ?_)
  have hp := hp v_1 ev_1
  refine va_mmin hx hb (by rw [hml]; exact hl.1.symm) hown (hts _ q_226) (hts _ q_15) (hts _ q_16) (hts _ q_17) (Nat.le_of_ble_eq_true rfl) (Nat.le_of_ble_eq_true rfl) (Nat.zero_le _) (Nat.zero_le _) eX2_spend_0.2.2.2.2.2.2.1 ?_
  refine lv_topi (fun v_2 ev_2 => ?_)
  have hp := hp v_2 ev_2
  refine va_put (D := (dC, dI)) (ci := 2) (v := .int v_2) (ty := .int) (C := RX2) (T := TX2) (N := 8) hx hb hts i_X2 tyX2 tyX2_ok nmX2 hown hK hP hD hS 0 rfl rfl 7 (Nat.le_of_ble_eq_true rfl) (hts _ q_218) (fun _ h9 => h9) rfl (tyX2_ok 7 (Nat.le_of_ble_eq_true rfl)) rfl rfl (Nat.le_of_ble_eq_true rfl) eX2_spend_0.2.2.2.2.2.2.2.1 (fun H locs hP hD hS => ?_)
  have hP : va_P (dC, dI) classes (wd_X2_spend cI cC cZ cB cJ wQ jC eO eW dO fJ fY jD v_2) H := hP
  have hD : va_D A (wd_X2_spend cI cC cZ cB cJ wQ jC eO eW dO fJ fY jD v_2) := hD
  exact W.vret hx hb hr (fun t ht hW => ⟨⟨v_2, rfl, hp, by rw [ht]; exact hP, va_K.moved hW.alike hK, hD⟩, hS.F ht⟩) hS.2.2 eX2_spend_0.2.2.2.2.2.2.2.2
noncomputable abbrev wd_X0_setLadder (cI cC cZ cB cJ : ClassId) (wY wJ wQ xH tX jE mX pD oO oQ eG : Nat) (bZ bD bI aI : Int32) (nJ nY dQ : Nat → Int32) (jC eO eW dO fJ fY jD nG : Int32) : va_W := [(wY, .inr (0, [.ref wJ, .ref wQ, .ref xH])), (wJ, .inr (3, [.ref tX, .ref jE, .ref mX, .ref pD, .ref oO, .ref oQ, .ref eG, .int bZ, .int bD, .int bI, .int aI])), (oO, .inl (cI, 8, .inl nJ)), (oQ, .inl (cI, 8, .inl nY)), (eG, .inl (cI, 5, .inl dQ)), (wQ, .inr (2, [.int jC, .int eO, .int eW, .int dO, .int fJ, .int fY, .int jD, .int nG]))]
noncomputable abbrev q_X0_setLadder (dC : Nat → ClassId) (dI : Nat → Nat → Nat) (cI cC cZ cB cJ : ClassId) (A : Nat → Prop) (wY wJ wQ xH tX jE mX pD oO oQ eG : Nat) (bZ bD bI aI : Int32) (nJ nY dQ : Nat → Int32) (eW dO fY jD : Int32) (post : Int32 → Int32 → Int32 → Int32 → Int32 → Prop) : Array Value → State → Outcome → State → Prop := va_Qi (fun (r : Int32) (u : Int32 × Int32 × Int32 × Int32) => post r u.1 u.2.1 u.2.2.1 u.2.2.2) (fun u t => gB (dC, dI) (tyl cI cC cZ cB cJ) A (wd_X0_setLadder cI cC cZ cB cJ wY wJ wQ xH tX jE mX pD oO oQ eG bZ bD bI aI nJ nY dQ u.1 u.2.1 eW dO u.2.2.1 fY jD u.2.2.2) t) A
noncomputable abbrev rm_X0_setLadder : Room := { frames := 2, cells := 0, slots := 0, locals := 43 }
section S_X0_setLadder
variable {p : Program} {l : Launch} {e : Env} {s : State} {m : MethodId} {args : Array Value} {below : List Frame} {meth : Method} {c : Code} {dC : Nat → ClassId} {dI : Nat → Nat → Nat} {cI cC cZ cB cJ : ClassId} {A : Nat → Prop} {wY wJ wQ xH tX jE mX pD oO oQ eG : Nat} {bZ bD bI aI : Int32} {nJ nY dQ : Nat → Int32} {eW dO fY jD : Int32} {post : Int32 → Int32 → Int32 → Int32 → Int32 → Prop}
noncomputable def ws_X0_setLadder_81 (post : Int32 → Int32 → Int32 → Int32 → Int32 → Prop) (bD : Int32) (nJ nY dQ : Nat → Int32) (x1 x2 jC eO fJ nG : Int32) : Prop := wp_X2_emptyApron (fun zS zX => wp_X2_spend (fun zI => post x2 zS zX x1 zI) x2 nG) jC eO
set_option maxHeartbeats 4000000 in
set_option maxRecDepth 100000 in
theorem ks_X0_setLadder_81 (C0 : gc cX0_setLadder (some .int) 3 RX0 (dC, dI) (tyl cI cC cZ cB cJ) A p s m args meth c) : ∀ (x1 x2 jC eO fJ nG : Int32) (H : Heap) (locs : List Loc) (ls : Array Slot), (ws_X0_setLadder_81 post bD nJ nY dQ) x1 x2 jC eO fJ nG → va_P (dC, dI) classes (wd_X0_setLadder cI cC cZ cB cJ wY wJ wQ xH tX jE mX pD oO oQ eG bZ bD bI aI nJ nY dQ jC eO eW dO fJ fY jD nG) H → va_D A (wd_X0_setLadder cI cC cZ cB cJ wY wJ wQ xH tX jE mX pD oO oQ eG bZ bD bI aI nJ nY dQ jC eO eW dO fJ fY jD nG) → va_S A s.heap H locs → lv_has ls 3 [(0, .ref wY), (1, .int x1), (2, .int x2)] → W p l e rm_X0_setLadder s m args below meth c H locs 0 0 (MQ below (q_X0_setLadder dC dI cI cC cZ cB cJ A wY wJ wQ xH tX jE mX pD oO oQ eG bZ bD bI aI nJ nY dQ eW dO fY jD post) args s 0 0 A) (F0 m 81 ls []) := by
  obtain ⟨hx, hb, hr, hml, hown, hts, hlocks, hA, hK, hN, tL, tM, hZL, hTL, hZM, hTM, hZX⟩ := id C0
  intro x1 x2 jC eO fJ nG H locs ls hp hP hD hS hl
  unfold ws_X0_setLadder_81 at hp
  refine lv_aload_n hx hb eX0_setLadder_65.2.2.2.2.2.2.2.2.1 rfl (lv_at hl 0 rfl) ?_
  refine va_get (D := (dC, dI)) (ci := 0) (v := .ref wQ) (C := RX0) (T := TX0) (N := 3) hx hb hts i_X0 hown hK hP 0 rfl rfl 1 (Nat.le_of_ble_eq_true rfl) (hts _ q_161) (fun _ h9 => h9) rfl eX0_setLadder_65.2.2.2.2.2.2.2.2.2.1 ?_
  have hm := mgk (wc := (wd_X2_emptyApron cI cC cZ cB cJ wQ jC eO eW dO fJ fY jD nG)) hP mk_38 6 rfl rfl rfl
  refine g_callv hP hD hS hA (mixT mk_38) (mixF mk_38) hm.1 hm.2 (nd_F _) (dis_g _) (g_runV (As := []) (rest := []) C0 hP hD hS (mixT mk_38) hm.1 (nd_T _) 5 2 rfl rfl (c_X2_emptyApron l dC dI cI cC cZ cB cJ wQ H.size jC eO eW dO fJ fY jD nG _ hp) q_233 q_236 q_234 q_235 q_181 h_X2_emptyApron rfl rfl ⟨Nat.le_of_ble_eq_true rfl, Nat.le_of_ble_eq_true rfl⟩ rfl rfl hl.1 rfl (lv_room (Nat.le_of_ble_eq_true rfl)) eX0_setLadder_65.2.2.2.2.2.2.2.2.2.2.1 ⟨Nat.zero_le _, Nat.zero_le _⟩) (fun u H locs hp hP hD hS => ?_)
  obtain ⟨zS, zX⟩ := u
  have hPD := PDm (ws' := (wd_X0_setLadder cI cC cZ cB cJ wY wJ wQ xH tX jE mX pD oO oQ eG bZ bD bI aI nJ nY dQ zS zX eW dO fJ fY jD nG)) hP hD 6 rfl rfl rfl
  have hP := hPD.1
  have hD := hPD.2
  refine lv_aload_n hx hb eX0_setLadder_65.2.2.2.2.2.2.2.2.2.2.2.1 rfl (lv_at hl 0 rfl) ?_
  refine va_get (D := (dC, dI)) (ci := 0) (v := .ref wQ) (C := RX0) (T := TX0) (N := 3) hx hb hts i_X0 hown hK hP 0 rfl rfl 1 (Nat.le_of_ble_eq_true rfl) (hts _ q_161) (fun _ h9 => h9) rfl eX0_setLadder_65.2.2.2.2.2.2.2.2.2.2.2.2.1 ?_
  refine lv_iload_n hx hb eX0_setLadder_65.2.2.2.2.2.2.2.2.2.2.2.2.2.1 rfl (lv_at hl 1 rfl) ?_
  refine va_put (D := (dC, dI)) (ci := 2) (v := .int x1) (ty := .int) (C := RX2) (T := TX2) (N := 8) hx hb hts i_X2 tyX2 tyX2_ok nmX2 hown hK hP hD hS 5 rfl rfl 4 (Nat.le_of_ble_eq_true rfl) (hts _ q_228) (fun _ h9 => h9) rfl (tyX2_ok 4 (Nat.le_of_ble_eq_true rfl)) rfl rfl (Nat.le_of_ble_eq_true rfl) eX0_setLadder_65.2.2.2.2.2.2.2.2.2.2.2.2.2.2.1 (fun H locs hP hD hS => ?_)
  have hP : va_P (dC, dI) classes (wd_X0_setLadder cI cC cZ cB cJ wY wJ wQ xH tX jE mX pD oO oQ eG bZ bD bI aI nJ nY dQ zS zX eW dO x1 fY jD nG) H := hP
  have hD : va_D A (wd_X0_setLadder cI cC cZ cB cJ wY wJ wQ xH tX jE mX pD oO oQ eG bZ bD bI aI nJ nY dQ zS zX eW dO x1 fY jD nG) := hD
  refine lv_aload_n hx hb eX0_setLadder_65.2.2.2.2.2.2.2.2.2.2.2.2.2.2.2 rfl (lv_at hl 0 rfl) ?_
  refine va_get (D := (dC, dI)) (ci := 0) (v := .ref wQ) (C := RX0) (T := TX0) (N := 3) hx hb hts i_X0 hown hK hP 0 rfl rfl 1 (Nat.le_of_ble_eq_true rfl) (hts _ q_161) (fun _ h9 => h9) rfl eX0_setLadder_97.1 ?_
  refine lv_iload_n hx hb eX0_setLadder_97.2.1 rfl (lv_at hl 2 rfl) ?_
  have hm := mgk (wc := (wd_X2_spend cI cC cZ cB cJ wQ zS zX eW dO x1 fY jD nG)) hP mk_38 6 rfl rfl rfl
  refine g_callv hP hD hS hA (mixT mk_38) (mixF mk_38) hm.1 hm.2 (nd_F _) (dis_g _) (g_runV (As := [.int x2]) (rest := []) C0 hP hD hS (mixT mk_38) hm.1 (nd_T _) 5 2 rfl rfl (c_X2_spend l dC dI cI cC cZ cB cJ wQ H.size x2 zS zX eW dO x1 fY jD nG _ hp) q_237 q_240 q_238 q_239 q_181 h_X2_spend rfl rfl ⟨Nat.le_of_ble_eq_true rfl, Nat.le_of_ble_eq_true rfl⟩ rfl rfl hl.1 rfl (lv_room (Nat.le_of_ble_eq_true rfl)) eX0_setLadder_97.2.2.1 ⟨Nat.zero_le _, Nat.zero_le _⟩) (fun u H locs hp hP hD hS => ?_)
  obtain ⟨zI, rfl⟩ : ∃ z, z = u := ⟨_, rfl⟩
  have hPD := PDm (ws' := (wd_X0_setLadder cI cC cZ cB cJ wY wJ wQ xH tX jE mX pD oO oQ eG bZ bD bI aI nJ nY dQ zS zX eW dO x1 fY jD zI)) hP hD 6 rfl rfl rfl
  have hP := hPD.1
  have hD := hPD.2
  refine lv_iload_n hx hb eX0_setLadder_97.2.2.2.1 rfl (lv_at hl 2 rfl) ?_
  exact W.iret (v := x2) hx hb hr (fun t ht hW => ⟨⟨x2, (zS, zX, x1, zI), rfl, hp, by rw [ht]; exact hP, va_K.moved hW.alike hK, hD⟩, hS.F ht⟩) hS.2.2 eX0_setLadder_97.2.2.2.2
end S_X0_setLadder
noncomputable def wp_X0_setLadder (post : Int32 → Int32 → Int32 → Int32 → Int32 → Prop) (p0 bD : Int32) (nJ nY dQ : Nat → Int32) (jC eO fJ nG : Int32) : Prop := wp_X3_hasStanding (fun r_1 => (¬ r_1 = 0 → (¬ p0 = fJ → wp_X3_moveSeconds (fun r_2 => (jC = 0 → ws_X0_setLadder_81 post bD nJ nY dQ p0 r_2 jC eO fJ nG) ∧ (¬ jC = 0 → (fJ = (-1) → ws_X0_setLadder_81 post bD nJ nY dQ p0 r_2 jC eO fJ nG) ∧ (¬ fJ = (-1) → wp_X3_downSeconds (fun r_6 => ∀ v_7 : Int32, v_7 = r_2 + r_6 → ws_X0_setLadder_81 post bD nJ nY dQ p0 v_7 jC eO fJ nG) fJ nY))) fJ p0 nJ dQ) ∧ (p0 = fJ → post (-2) jC eO fJ nG)) ∧ (r_1 = 0 → post (-1) jC eO fJ nG)) p0 bD
set_option maxHeartbeats 4000000 in
set_option maxRecDepth 100000 in
theorem c_X0_setLadder (l : Launch) (dC : Nat → ClassId) (dI : Nat → Nat → Nat) (cI cC cZ cB cJ : ClassId) (wY wJ wQ xH tX jE mX pD oO oQ eG sz : Nat) (p0 bZ bD bI aI : Int32) (nJ nY dQ : Nat → Int32) (jC eO eW dO fJ fY jD nG : Int32) (post : Int32 → Int32 → Int32 → Int32 → Int32 → Prop) (hw : wp_X0_setLadder post p0 bD nJ nY dQ jC eO fJ nG) : Met l yX0_setLadder (gw yX0_setLadder cX0_setLadder 3 (some .int)) rm_X0_setLadder (va_Pc [.ref wY, .int p0] (gPre (dC, dI) (tyl cI cC cZ cB cJ) (wd_X0_setLadder cI cC cZ cB cJ wY wJ wQ xH tX jE mX pD oO oQ eG bZ bD bI aI nJ nY dQ jC eO eW dO fJ fY jD nG) sz)) (q_X0_setLadder dC dI cI cC cZ cB cJ (va_A (wd_X0_setLadder cI cC cZ cB cJ wY wJ wQ xH tX jE mX pD oO oQ eG bZ bD bI aI nJ nY dQ jC eO eW dO fJ fY jD nG) sz) wY wJ wQ xH tX jE mX pD oO oQ eG bZ bD bI aI nJ nY dQ eW dO fY jD post) 0 0 (va_A (wd_X0_setLadder cI cC cZ cB cJ wY wJ wQ xH tX jE mX pD oO oQ eG bZ bD bI aI nJ nY dQ jC eO eW dO fJ fY jD nG) sz) := by
  refine g_enter (own := RX0) (dC, dI) (tyl cI cC cZ cB cJ) (wd_X0_setLadder cI cC cZ cB cJ wY wJ wQ xH tX jE mX pD oO oQ eG bZ bD bI aI nJ nY dQ jC eO eW dO fJ fY jD nG) sz [.ref wY, .int p0] (fun A => q_X0_setLadder dC dI cI cC cZ cB cJ A wY wJ wQ xH tX jE mX pD oO oQ eG bZ bD bI aI nJ nY dQ eW dO fY jD post) pn_RX0 rfl (Nat.le_of_ble_eq_true rfl) ?_
  intro p e s m args below meth c A H locs ls C0 hP hD hS hl
  have hl : lv_has ls 3 [(0, .ref wY), (1, .int p0)] := hl
  obtain ⟨hx, hb, hr, hml, hown, hts, hlocks, hA, hK, hN, tL, tM, hZL, hTL, hZM, hTM, hZX⟩ := id C0
  have hp := hw
  unfold wp_X0_setLadder at hp
  refine lv_aload_n hx hb eX0_setLadder_0.1 rfl (lv_at hl 0 rfl) ?_
  refine va_get (D := (dC, dI)) (ci := 0) (v := .ref wJ) (C := RX0) (T := TX0) (N := 3) hx hb hts i_X0 hown hK hP 0 rfl rfl 0 (Nat.le_of_ble_eq_true rfl) (hts _ q_156) (fun _ h9 => h9) rfl eX0_setLadder_0.2.1 ?_
  refine lv_iload_n hx hb eX0_setLadder_0.2.2.1 rfl (lv_at hl 1 rfl) ?_
  have hm := mgk (wc := (wd_X3_hasStanding cI cC cZ cB cJ wJ tX jE mX pD oO oQ eG bZ bD bI aI)) hP mk_39 6 rfl rfl rfl
  refine g_calli hP hD hS hA (mixT mk_39) (mixF mk_39) hm.1 hm.2 (nd_F _) (dis_g _) (g_runV (As := [.int p0]) (rest := []) C0 hP hD hS (mixT mk_39) hm.1 (nd_T _) 1 3 rfl rfl (c_X3_hasStanding l dC dI cI cC cZ cB cJ wJ tX jE mX pD oO oQ eG H.size p0 bZ bD bI aI _ hp) q_195 q_227 q_196 q_197 q_48 h_X3_hasStanding rfl rfl ⟨Nat.le_of_ble_eq_true rfl, Nat.le_of_ble_eq_true rfl⟩ rfl rfl hl.1 rfl (lv_room (Nat.le_of_ble_eq_true rfl)) eX0_setLadder_0.2.2.2.1 ⟨Nat.zero_le _, Nat.zero_le _⟩) (fun r_1 u H locs hp hP hD hS => ?_)
  have hPD := PDm (ws' := (wd_X0_setLadder cI cC cZ cB cJ wY wJ wQ xH tX jE mX pD oO oQ eG bZ bD bI aI nJ nY dQ jC eO eW dO fJ fY jD nG)) hP hD 6 rfl rfl rfl
  have hP := hPD.1
  have hD := hPD.2
  refine lv_if_ne (tgt := 13) hx hb eX0_setLadder_0.2.2.2.2.1 (by decide) (fun hc => ?_) (fun hc => ?_)
  · have hp := hp.1 hc
    refine lv_iload_n hx hb eX0_setLadder_0.2.2.2.2.2.2.2.1 rfl (lv_at hl 1 rfl) ?_
    refine lv_aload_n hx hb eX0_setLadder_0.2.2.2.2.2.2.2.2.1 rfl (lv_at hl 0 rfl) ?_
    refine va_get (D := (dC, dI)) (ci := 0) (v := .ref wQ) (C := RX0) (T := TX0) (N := 3) hx hb hts i_X0 hown hK hP 0 rfl rfl 1 (Nat.le_of_ble_eq_true rfl) (hts _ q_161) (fun _ h9 => h9) rfl eX0_setLadder_0.2.2.2.2.2.2.2.2.2.1 ?_
    refine va_get (D := (dC, dI)) (ci := 2) (v := .int fJ) (C := RX2) (T := TX2) (N := 8) hx hb hts i_X2 hown hK hP 5 rfl rfl 4 (Nat.le_of_ble_eq_true rfl) (hts _ q_228) (fun _ h9 => h9) rfl eX0_setLadder_0.2.2.2.2.2.2.2.2.2.2.1 ?_
    refine lv_icmp_ne (tgt := 27) hx hb eX0_setLadder_0.2.2.2.2.2.2.2.2.2.2.2.1 (by decide) (fun hc => ?_) (fun hc => ?_)
    · have hp := hp.1 hc
      refine lv_aload_n hx hb eX0_setLadder_0.2.2.2.2.2.2.2.2.2.2.2.2.2.2.1 rfl (lv_at hl 0 rfl) ?_
      refine va_get (D := (dC, dI)) (ci := 0) (v := .ref wJ) (C := RX0) (T := TX0) (N := 3) hx hb hts i_X0 hown hK hP 0 rfl rfl 0 (Nat.le_of_ble_eq_true rfl) (hts _ q_156) (fun _ h9 => h9) rfl eX0_setLadder_0.2.2.2.2.2.2.2.2.2.2.2.2.2.2.2 ?_
      refine lv_aload_n hx hb eX0_setLadder_31.1 rfl (lv_at hl 0 rfl) ?_
      refine va_get (D := (dC, dI)) (ci := 0) (v := .ref wQ) (C := RX0) (T := TX0) (N := 3) hx hb hts i_X0 hown hK hP 0 rfl rfl 1 (Nat.le_of_ble_eq_true rfl) (hts _ q_161) (fun _ h9 => h9) rfl eX0_setLadder_31.2.1 ?_
      refine va_get (D := (dC, dI)) (ci := 2) (v := .int fJ) (C := RX2) (T := TX2) (N := 8) hx hb hts i_X2 hown hK hP 5 rfl rfl 4 (Nat.le_of_ble_eq_true rfl) (hts _ q_228) (fun _ h9 => h9) rfl eX0_setLadder_31.2.2.1 ?_
      refine lv_iload_n hx hb eX0_setLadder_31.2.2.2.1 rfl (lv_at hl 1 rfl) ?_
      have hm := mgk (wc := (wd_X3_moveSeconds cI cC cZ cB cJ wJ tX jE mX pD oO oQ eG bZ bD bI aI nJ dQ)) hP mk_40 6 rfl rfl rfl
      refine g_calli hP hD hS hA (mixT mk_40) (mixF mk_40) hm.1 hm.2 (nd_F _) (dis_g _) (g_runV (As := [.int fJ, .int p0]) (rest := []) C0 hP hD hS (mixT mk_40) hm.1 (nd_T _) 1 3 rfl rfl (c_X3_moveSeconds l dC dI cI cC cZ cB cJ wJ tX jE mX pD oO oQ eG H.size fJ p0 bZ bD bI aI nJ dQ _ hp) q_229 q_232 q_230 q_231 q_48 h_X3_moveSeconds rfl rfl ⟨Nat.le_of_ble_eq_true rfl, Nat.le_of_ble_eq_true rfl⟩ rfl rfl hl.1 rfl (lv_room (Nat.le_of_ble_eq_true rfl)) eX0_setLadder_31.2.2.2.2.1 ⟨Nat.zero_le _, Nat.zero_le _⟩) (fun r_2 u H locs hp hP hD hS => ?_)
      have hPD := PDm (ws' := (wd_X0_setLadder cI cC cZ cB cJ wY wJ wQ xH tX jE mX pD oO oQ eG bZ bD bI aI nJ nY dQ jC eO eW dO fJ fY jD nG)) hP hD 6 rfl rfl rfl
      have hP := hPD.1
      have hD := hPD.2
      refine lv_istore_n (lv' := [(2, .int r_2), (0, .ref wY), (1, .int p0)]) hx hb eX0_setLadder_31.2.2.2.2.2.1 rfl hl (by decide) rfl (fun ls hl => ?_)
      refine lv_aload_n hx hb eX0_setLadder_31.2.2.2.2.2.2.1 rfl (lv_at hl 1 rfl) ?_
      refine va_get (D := (dC, dI)) (ci := 0) (v := .ref wQ) (C := RX0) (T := TX0) (N := 3) hx hb hts i_X0 hown hK hP 0 rfl rfl 1 (Nat.le_of_ble_eq_true rfl) (hts _ q_161) (fun _ h9 => h9) rfl eX0_setLadder_31.2.2.2.2.2.2.2.1 ?_
      refine va_get (D := (dC, dI)) (ci := 2) (v := .int jC) (C := RX2) (T := TX2) (N := 8) hx hb hts i_X2 hown hK hP 5 rfl rfl 0 (Nat.le_of_ble_eq_true rfl) (hts _ q_162) (fun _ h9 => h9) rfl eX0_setLadder_31.2.2.2.2.2.2.2.2.1 ?_
      refine lv_if_eq (tgt := 81) hx hb eX0_setLadder_31.2.2.2.2.2.2.2.2.2.1 (by decide) (fun hc => ?_) (fun hc => ?_)
      · have hp := hp.1 hc
        exact ks_X0_setLadder_81 C0 p0 r_2 jC eO fJ nG H locs ls hp hP hD hS (lv_sub hl [1, 2, 0] rfl)
      · have hp := hp.2 hc
        refine lv_aload_n hx hb eX0_setLadder_31.2.2.2.2.2.2.2.2.2.2.1 rfl (lv_at hl 1 rfl) ?_
        refine va_get (D := (dC, dI)) (ci := 0) (v := .ref wQ) (C := RX0) (T := TX0) (N := 3) hx hb hts i_X0 hown hK hP 0 rfl rfl 1 (Nat.le_of_ble_eq_true rfl) (hts _ q_161) (fun _ h9 => h9) rfl eX0_setLadder_31.2.2.2.2.2.2.2.2.2.2.2.1 ?_
        refine va_get (D := (dC, dI)) (ci := 2) (v := .int fJ) (C := RX2) (T := TX2) (N := 8) hx hb hts i_X2 hown hK hP 5 rfl rfl 4 (Nat.le_of_ble_eq_true rfl) (hts _ q_228) (fun _ h9 => h9) rfl eX0_setLadder_31.2.2.2.2.2.2.2.2.2.2.2.2.1 ?_
        refine lv_iconst (v := (-1)) hx hb eX0_setLadder_31.2.2.2.2.2.2.2.2.2.2.2.2.2.1 ic_m1 ?_
        refine lv_icmp_eq (tgt := 81) hx hb eX0_setLadder_31.2.2.2.2.2.2.2.2.2.2.2.2.2.2.1 (by decide) (fun hc => ?_) (fun hc => ?_)
        · have hp := hp.1 hc
          exact ks_X0_setLadder_81 C0 p0 r_2 jC eO fJ nG H locs ls hp hP hD hS (lv_sub hl [1, 2, 0] rfl)
        · have hp := hp.2 hc
          refine lv_iload_n hx hb eX0_setLadder_31.2.2.2.2.2.2.2.2.2.2.2.2.2.2.2 rfl (lv_at hl 0 rfl) ?_
          refine lv_aload_n hx hb eX0_setLadder_65.1 rfl (lv_at hl 1 rfl) ?_
          refine va_get (D := (dC, dI)) (ci := 0) (v := .ref wJ) (C := RX0) (T := TX0) (N := 3) hx hb hts i_X0 hown hK hP 0 rfl rfl 0 (Nat.le_of_ble_eq_true rfl) (hts _ q_156) (fun _ h9 => h9) rfl eX0_setLadder_65.2.1 ?_
          refine lv_aload_n hx hb eX0_setLadder_65.2.2.1 rfl (lv_at hl 1 rfl) ?_
          refine va_get (D := (dC, dI)) (ci := 0) (v := .ref wQ) (C := RX0) (T := TX0) (N := 3) hx hb hts i_X0 hown hK hP 0 rfl rfl 1 (Nat.le_of_ble_eq_true rfl) (hts _ q_161) (fun _ h9 => h9) rfl eX0_setLadder_65.2.2.2.1 ?_
          refine va_get (D := (dC, dI)) (ci := 2) (v := .int fJ) (C := RX2) (T := TX2) (N := 8) hx hb hts i_X2 hown hK hP 5 rfl rfl 4 (Nat.le_of_ble_eq_true rfl) (hts _ q_228) (fun _ h9 => h9) rfl eX0_setLadder_65.2.2.2.2.1 ?_
          have hm := mgk (wc := (wd_X3_downSeconds cI cC cZ cB cJ wJ tX jE mX pD oO oQ eG bZ bD bI aI nY)) hP mk_41 6 rfl rfl rfl
          refine g_calli hP hD hS hA (mixT mk_41) (mixF mk_41) hm.1 hm.2 (nd_F _) (dis_g _) (g_runV (As := [.int fJ]) (rest := [.int r_2]) C0 hP hD hS (mixT mk_41) hm.1 (nd_T _) 1 3 rfl rfl (c_X3_downSeconds l dC dI cI cC cZ cB cJ wJ tX jE mX pD oO oQ eG H.size fJ bZ bD bI aI nY _ hp) q_201 q_241 q_202 q_203 q_48 h_X3_downSeconds rfl rfl ⟨Nat.le_of_ble_eq_true rfl, Nat.le_of_ble_eq_true rfl⟩ rfl rfl hl.1 rfl (lv_room (Nat.le_of_ble_eq_true rfl)) eX0_setLadder_65.2.2.2.2.2.1 ⟨Nat.zero_le _, Nat.zero_le _⟩) (fun r_6 u H locs hp hP hD hS => ?_)
          have hPD := PDm (ws' := (wd_X0_setLadder cI cC cZ cB cJ wY wJ wQ xH tX jE mX pD oO oQ eG bZ bD bI aI nJ nY dQ jC eO eW dO fJ fY jD nG)) hP hD 6 rfl rfl rfl
          have hP := hPD.1
          have hD := hPD.2
          refine lv_iadd hx hb eX0_setLadder_65.2.2.2.2.2.2.1 ?_
          refine lv_topi (fun v_7 ev_7 => ?_)
          have hp := hp v_7 ev_7
          refine lv_istore_n (lv' := [(2, .int v_7), (0, .ref wY), (1, .int p0)]) hx hb eX0_setLadder_65.2.2.2.2.2.2.2.1 rfl hl (by decide) rfl (fun ls hl => ?_)
          exact ks_X0_setLadder_81 C0 p0 v_7 jC eO fJ nG H locs ls hp hP hD hS (lv_sub hl [1, 2, 0] rfl)
    · have hp := hp.2 hc
      refine lv_bipush (v := (-2)) hx hb eX0_setLadder_0.2.2.2.2.2.2.2.2.2.2.2.2.1 bp_m2 ?_
      exact W.iret (v := (-2)) hx hb hr (fun t ht hW => ⟨⟨(-2), (jC, eO, fJ, nG), rfl, hp, by rw [ht]; exact hP, va_K.moved hW.alike hK, hD⟩, hS.F ht⟩) hS.2.2 eX0_setLadder_0.2.2.2.2.2.2.2.2.2.2.2.2.2.1
  · have hp := hp.2 hc
    refine lv_iconst (v := (-1)) hx hb eX0_setLadder_0.2.2.2.2.2.1 ic_m1 ?_
    exact W.iret (v := (-1)) hx hb hr (fun t ht hW => ⟨⟨(-1), (jC, eO, fJ, nG), rfl, hp, by rw [ht]; exact hP, va_K.moved hW.alike hK, hD⟩, hS.F ht⟩) hS.2.2 eX0_setLadder_0.2.2.2.2.2.2.1
noncomputable abbrev wd_X4_hold (cI cC cZ cB cJ : ClassId) (xI vX uO vQ : Nat) (oE uF : Int32) : va_W := [(xI, .inr (4, [.ref vX, .ref uO, .ref vQ, .int oE, .int uF]))]
noncomputable abbrev q_X4_hold (dC : Nat → ClassId) (dI : Nat → Nat → Nat) (cI cC cZ cB cJ : ClassId) (A : Nat → Prop) (xI vX uO vQ : Nat) (post : Int32 → Int32 → Prop) : Array Value → State → Outcome → State → Prop := va_Qv (fun (u : Int32 × Int32) => post u.1 u.2) (fun u t => gB (dC, dI) (tyl cI cC cZ cB cJ) A (wd_X4_hold cI cC cZ cB cJ xI vX uO vQ u.1 u.2) t) A
noncomputable abbrev rm_X4_hold : Room := { frames := 1, cells := 0, slots := 0, locals := 21 }
noncomputable def wp_X4_hold (post : Int32 → Int32 → Prop) (oE uF : Int32) : Prop := ∀ v_1 : Int32, v_1 = uF + 1 → ∀ v_2 : Int32, v_2 = v_1 - v_1 / 13 * 13 → ∀ v_3 : Int32, v_3 = oE + 1 → ∀ v_4 : Int32, v_4 = (if v_3 < 12 then v_3 else 12) → post v_4 v_2
set_option maxHeartbeats 4000000 in
set_option maxRecDepth 100000 in
theorem c_X4_hold (l : Launch) (dC : Nat → ClassId) (dI : Nat → Nat → Nat) (cI cC cZ cB cJ : ClassId) (xI vX uO vQ sz : Nat) (oE uF : Int32) (post : Int32 → Int32 → Prop) (hw : wp_X4_hold post oE uF) : Met l yX4_hold (gw yX4_hold cX4_hold 1 none) rm_X4_hold (va_Pc [.ref xI] (gPre (dC, dI) (tyl cI cC cZ cB cJ) (wd_X4_hold cI cC cZ cB cJ xI vX uO vQ oE uF) sz)) (q_X4_hold dC dI cI cC cZ cB cJ (va_A (wd_X4_hold cI cC cZ cB cJ xI vX uO vQ oE uF) sz) xI vX uO vQ post) 0 0 (va_A (wd_X4_hold cI cC cZ cB cJ xI vX uO vQ oE uF) sz) := by
  refine g_enter (own := RX4) (dC, dI) (tyl cI cC cZ cB cJ) (wd_X4_hold cI cC cZ cB cJ xI vX uO vQ oE uF) sz [.ref xI] (fun A => q_X4_hold dC dI cI cC cZ cB cJ A xI vX uO vQ post) pn_RX4 rfl (Nat.le_of_ble_eq_true rfl) ?_
  intro p e s m args below meth c A H locs ls C0 hP hD hS hl
  have hl : lv_has ls 1 [(0, .ref xI)] := hl
  obtain ⟨hx, hb, hr, hml, hown, hts, hlocks, hA, hK, hN, tL, tM, hZL, hTL, hZM, hTM, hZX⟩ := id C0
  have hp := hw
  unfold wp_X4_hold at hp
  refine lv_aload_n hx hb eX4_hold_0.1 rfl (lv_at hl 0 rfl) ?_
  refine lv_aload_n hx hb eX4_hold_0.2.1 rfl (lv_at hl 0 rfl) ?_
  refine va_get (D := (dC, dI)) (ci := 4) (v := .int uF) (C := RX4) (T := TX4) (N := 5) hx hb hts i_X4 hown hK hP 0 rfl rfl 4 (Nat.le_of_ble_eq_true rfl) (hts _ q_220) (fun _ h9 => h9) rfl eX4_hold_0.2.2.1 ?_
  refine lv_iconst (v := 1) hx hb eX4_hold_0.2.2.2.1 ic_1 ?_
  refine lv_iadd hx hb eX4_hold_0.2.2.2.2.1 ?_
  refine lv_topi (fun v_1 ev_1 => ?_)
  have hp := hp v_1 ev_1
  refine lv_bipush (v := 13) hx hb eX4_hold_0.2.2.2.2.2.1 bp_13 ?_
  refine lv_irem hx hb eX4_hold_0.2.2.2.2.2.2.1 (by decide) ?_
  refine lv_topi (fun v_2 ev_2 => ?_)
  have hp := hp v_2 ev_2
  refine va_put (D := (dC, dI)) (ci := 4) (v := .int v_2) (ty := .int) (C := RX4) (T := TX4) (N := 5) hx hb hts i_X4 tyX4 tyX4_ok nmX4 hown hK hP hD hS 0 rfl rfl 4 (Nat.le_of_ble_eq_true rfl) (hts _ q_220) (fun _ h9 => h9) rfl (tyX4_ok 4 (Nat.le_of_ble_eq_true rfl)) rfl rfl (Nat.le_of_ble_eq_true rfl) eX4_hold_0.2.2.2.2.2.2.2.1 (fun H locs hP hD hS => ?_)
  have hP : va_P (dC, dI) classes (wd_X4_hold cI cC cZ cB cJ xI vX uO vQ oE v_2) H := hP
  have hD : va_D A (wd_X4_hold cI cC cZ cB cJ xI vX uO vQ oE v_2) := hD
  refine lv_aload_n hx hb eX4_hold_0.2.2.2.2.2.2.2.2.1 rfl (lv_at hl 0 rfl) ?_
  refine lv_bipush (v := 12) hx hb eX4_hold_0.2.2.2.2.2.2.2.2.2.1 bp_12 ?_
  refine lv_aload_n hx hb eX4_hold_0.2.2.2.2.2.2.2.2.2.2.1 rfl (lv_at hl 0 rfl) ?_
  refine va_get (D := (dC, dI)) (ci := 4) (v := .int oE) (C := RX4) (T := TX4) (N := 5) hx hb hts i_X4 hown hK hP 0 rfl rfl 3 (Nat.le_of_ble_eq_true rfl) (hts _ q_23) (fun _ h9 => h9) rfl eX4_hold_0.2.2.2.2.2.2.2.2.2.2.2.1 ?_
  refine lv_iconst (v := 1) hx hb eX4_hold_0.2.2.2.2.2.2.2.2.2.2.2.2.1 ic_1 ?_
  refine lv_iadd hx hb eX4_hold_0.2.2.2.2.2.2.2.2.2.2.2.2.2.1 ?_
  refine lv_topi (fun v_3 ev_3 => ?_)
  have hp := hp v_3 ev_3
  refine va_mmin hx hb (by rw [hml]; exact hl.1.symm) hown (hts _ q_242) (hts _ q_15) (hts _ q_16) (hts _ q_17) (Nat.le_of_ble_eq_true rfl) (Nat.le_of_ble_eq_true rfl) (Nat.zero_le _) (Nat.zero_le _) eX4_hold_0.2.2.2.2.2.2.2.2.2.2.2.2.2.2.1 ?_
  refine lv_topi (fun v_4 ev_4 => ?_)
  have hp := hp v_4 ev_4
  refine va_put (D := (dC, dI)) (ci := 4) (v := .int v_4) (ty := .int) (C := RX4) (T := TX4) (N := 5) hx hb hts i_X4 tyX4 tyX4_ok nmX4 hown hK hP hD hS 0 rfl rfl 3 (Nat.le_of_ble_eq_true rfl) (hts _ q_23) (fun _ h9 => h9) rfl (tyX4_ok 3 (Nat.le_of_ble_eq_true rfl)) rfl rfl (Nat.le_of_ble_eq_true rfl) eX4_hold_0.2.2.2.2.2.2.2.2.2.2.2.2.2.2.2 (fun H locs hP hD hS => ?_)
  have hP : va_P (dC, dI) classes (wd_X4_hold cI cC cZ cB cJ xI vX uO vQ v_4 v_2) H := hP
  have hD : va_D A (wd_X4_hold cI cC cZ cB cJ xI vX uO vQ v_4 v_2) := hD
  exact W.vret hx hb hr (fun t ht hW => ⟨⟨(v_4, v_2), rfl, hp, by rw [ht]; exact hP, va_K.moved hW.alike hK, hD⟩, hS.F ht⟩) hS.2.2 dX4_hold_28
noncomputable abbrev wd_X9_holdIfDone (cI cC cZ cB cJ : ClassId) (a_x xG xD wY wJ wQ xI xK xJ tW vX uO vQ : Nat) (oE uF : Int32) : va_W := [(a_x, .inr (9, [.ref xG, .ref xD, .ref wY, .ref wJ, .ref wQ, .ref xI, .ref xK, .ref xJ, .ref tW])), (xI, .inr (4, [.ref vX, .ref uO, .ref vQ, .int oE, .int uF]))]
noncomputable abbrev q_X9_holdIfDone (dC : Nat → ClassId) (dI : Nat → Nat → Nat) (cI cC cZ cB cJ : ClassId) (A : Nat → Prop) (a_x xG xD wY wJ wQ xI xK xJ tW vX uO vQ : Nat) (post : Int32 → Int32 → Int32 → Prop) : Array Value → State → Outcome → State → Prop := va_Qi (fun (r : Int32) (u : Int32 × Int32) => post r u.1 u.2) (fun u t => gB (dC, dI) (tyl cI cC cZ cB cJ) A (wd_X9_holdIfDone cI cC cZ cB cJ a_x xG xD wY wJ wQ xI xK xJ tW vX uO vQ u.1 u.2) t) A
noncomputable abbrev rm_X9_holdIfDone : Room := { frames := 2, cells := 0, slots := 0, locals := 41 }
noncomputable def wp_X9_holdIfDone (post : Int32 → Int32 → Int32 → Prop) (p0 oE uF : Int32) : Prop := (p0 < 0 → post p0 oE uF) ∧ (¬ p0 < 0 → wp_X4_hold (fun pa_undoable_1 pa_free_2 => post p0 pa_undoable_1 pa_free_2) oE uF)
set_option maxHeartbeats 4000000 in
set_option maxRecDepth 100000 in
theorem c_X9_holdIfDone (l : Launch) (dC : Nat → ClassId) (dI : Nat → Nat → Nat) (cI cC cZ cB cJ : ClassId) (a_x xG xD wY wJ wQ xI xK xJ tW vX uO vQ sz : Nat) (p0 oE uF : Int32) (post : Int32 → Int32 → Int32 → Prop) (hw : wp_X9_holdIfDone post p0 oE uF) : Met l yX9_holdIfDone (gw yX9_holdIfDone cX9_holdIfDone 2 (some .int)) rm_X9_holdIfDone (va_Pc [.ref a_x, .int p0] (gPre (dC, dI) (tyl cI cC cZ cB cJ) (wd_X9_holdIfDone cI cC cZ cB cJ a_x xG xD wY wJ wQ xI xK xJ tW vX uO vQ oE uF) sz)) (q_X9_holdIfDone dC dI cI cC cZ cB cJ (va_A (wd_X9_holdIfDone cI cC cZ cB cJ a_x xG xD wY wJ wQ xI xK xJ tW vX uO vQ oE uF) sz) a_x xG xD wY wJ wQ xI xK xJ tW vX uO vQ post) 0 0 (va_A (wd_X9_holdIfDone cI cC cZ cB cJ a_x xG xD wY wJ wQ xI xK xJ tW vX uO vQ oE uF) sz) := by
  refine g_enter (own := RX9) (dC, dI) (tyl cI cC cZ cB cJ) (wd_X9_holdIfDone cI cC cZ cB cJ a_x xG xD wY wJ wQ xI xK xJ tW vX uO vQ oE uF) sz [.ref a_x, .int p0] (fun A => q_X9_holdIfDone dC dI cI cC cZ cB cJ A a_x xG xD wY wJ wQ xI xK xJ tW vX uO vQ post) pn_RX9 rfl (Nat.le_of_ble_eq_true rfl) ?_
  intro p e s m args below meth c A H locs ls C0 hP hD hS hl
  have hl : lv_has ls 2 [(0, .ref a_x), (1, .int p0)] := hl
  obtain ⟨hx, hb, hr, hml, hown, hts, hlocks, hA, hK, hN, tL, tM, hZL, hTL, hZM, hTM, hZX⟩ := id C0
  have hp := hw
  unfold wp_X9_holdIfDone at hp
  refine lv_iload_n hx hb eX9_holdIfDone_0.1 rfl (lv_at hl 1 rfl) ?_
  refine lv_if_lt (tgt := 11) hx hb eX9_holdIfDone_0.2.1 (by decide) (fun hc => ?_) (fun hc => ?_)
  · have hp := hp.1 hc
    refine lv_iload_n hx hb eX9_holdIfDone_0.2.2.2.2.2.1 rfl (lv_at hl 1 rfl) ?_
    exact W.iret (v := p0) hx hb hr (fun t ht hW => ⟨⟨p0, (oE, uF), rfl, hp, by rw [ht]; exact hP, va_K.moved hW.alike hK, hD⟩, hS.F ht⟩) hS.2.2 eX9_holdIfDone_0.2.2.2.2.2.2
  · have hp := hp.2 hc
    refine lv_aload_n hx hb eX9_holdIfDone_0.2.2.1 rfl (lv_at hl 0 rfl) ?_
    refine va_get (D := (dC, dI)) (ci := 9) (v := .ref xI) (C := RX9) (T := TX9) (N := 9) hx hb hts i_X9 hown hK hP 0 rfl rfl 5 (Nat.le_of_ble_eq_true rfl) (hts _ q_91) (fun _ h9 => h9) rfl eX9_holdIfDone_0.2.2.2.1 ?_
    refine g_callv (wc := (wd_X4_hold cI cC cZ cB cJ xI vX uO vQ oE uF)) hP hD hS hA [1] [0] rfl rfl rfl rfl (g_runV (As := []) (rest := []) C0 hP hD hS [1] rfl rfl 1 4 rfl rfl (c_X4_hold l dC dI cI cC cZ cB cJ xI vX uO vQ H.size oE uF _ hp) q_243 q_246 q_244 q_245 q_93 h_X4_hold rfl rfl ⟨Nat.le_of_ble_eq_true rfl, Nat.le_of_ble_eq_true rfl⟩ rfl rfl hl.1 rfl (lv_room (Nat.le_of_ble_eq_true rfl)) eX9_holdIfDone_0.2.2.2.2.1 ⟨Nat.zero_le _, Nat.zero_le _⟩) (fun u H locs hp hP hD hS => ?_)
    obtain ⟨pa_undoable_1, pa_free_2⟩ := u
    have hPD := PDs (ws' := (wd_X9_holdIfDone cI cC cZ cB cJ a_x xG xD wY wJ wQ xI xK xJ tW vX uO vQ pa_undoable_1 pa_free_2)) hP hD [0, 1] (by decide) rfl
    have hP := hPD.1
    have hD := hPD.2
    refine lv_iload_n hx hb eX9_holdIfDone_0.2.2.2.2.2.1 rfl (lv_at hl 1 rfl) ?_
    exact W.iret (v := p0) hx hb hr (fun t ht hW => ⟨⟨p0, (pa_undoable_1, pa_free_2), rfl, hp, by rw [ht]; exact hP, va_K.moved hW.alike hK, hD⟩, hS.F ht⟩) hS.2.2 eX9_holdIfDone_0.2.2.2.2.2.2
noncomputable abbrev wd_X9_move (cI cC cZ cB cJ : ClassId) (a_x xG xD wY wJ wQ xI xK xJ tW xH tX jE mX pD oO oQ eG vX uO vQ : Nat) (bZ bD bI aI : Int32) (nJ nY dQ : Nat → Int32) (jC eO eW dO fJ fY jD nG oE uF : Int32) (sG : Nat → Int32) : va_W := [(a_x, .inr (9, [.ref xG, .ref xD, .ref wY, .ref wJ, .ref wQ, .ref xI, .ref xK, .ref xJ, .ref tW])), (wY, .inr (0, [.ref wJ, .ref wQ, .ref xH])), (wJ, .inr (3, [.ref tX, .ref jE, .ref mX, .ref pD, .ref oO, .ref oQ, .ref eG, .int bZ, .int bD, .int bI, .int aI])), (oO, .inl (cI, 8, .inl nJ)), (oQ, .inl (cI, 8, .inl nY)), (eG, .inl (cI, 5, .inl dQ)), (wQ, .inr (2, [.int jC, .int eO, .int eW, .int dO, .int fJ, .int fY, .int jD, .int nG])), (xI, .inr (4, [.ref vX, .ref uO, .ref vQ, .int oE, .int uF])), (vX, .inl (cI, 104, .inl sG))]
noncomputable abbrev q_X9_move (dC : Nat → ClassId) (dI : Nat → Nat → Nat) (cI cC cZ cB cJ : ClassId) (A : Nat → Prop) (a_x xG xD wY wJ wQ xI xK xJ tW xH tX jE mX pD oO oQ eG vX uO vQ : Nat) (bZ bD bI aI : Int32) (nJ nY dQ : Nat → Int32) (eW dO fY jD : Int32) (post : Int32 → Int32 → Int32 → Int32 → Int32 → Int32 → Int32 → (Nat → Int32) → Prop) : Array Value → State → Outcome → State → Prop := va_Qi (fun (r : Int32) (u : Int32 × Int32 × Int32 × Int32 × Int32 × Int32 × (Nat → Int32)) => post r u.1 u.2.1 u.2.2.1 u.2.2.2.1 u.2.2.2.2.1 u.2.2.2.2.2.1 u.2.2.2.2.2.2) (fun u t => gB (dC, dI) (tyl cI cC cZ cB cJ) A (wd_X9_move cI cC cZ cB cJ a_x xG xD wY wJ wQ xI xK xJ tW xH tX jE mX pD oO oQ eG vX uO vQ bZ bD bI aI nJ nY dQ u.1 u.2.1 eW dO u.2.2.1 fY jD u.2.2.2.1 u.2.2.2.2.1 u.2.2.2.2.2.1 u.2.2.2.2.2.2) t) A
noncomputable abbrev rm_X9_move : Room := { frames := 3, cells := 0, slots := 0, locals := 65 }
noncomputable def wp_X9_move (post : Int32 → Int32 → Int32 → Int32 → Int32 → Int32 → Int32 → (Nat → Int32) → Prop) (p0 bD : Int32) (nJ nY dQ : Nat → Int32) (jC eO eW dO fJ fY jD nG oE uF : Int32) (sG : Nat → Int32) : Prop := wp_X4_note (fun yP => wp_X0_setLadder (fun r_2 zS zX aA7 aF3 => wp_X9_holdIfDone (fun r_7 pa_undoable_8 pa_free_9 => post r_7 zS zX aA7 aF3 pa_undoable_8 pa_free_9 yP) r_2 oE uF) p0 bD nJ nY dQ jC eO fJ nG) jC eO eW dO fJ fY jD nG uF sG
set_option maxHeartbeats 4000000 in
set_option maxRecDepth 100000 in
theorem c_X9_move (l : Launch) (dC : Nat → ClassId) (dI : Nat → Nat → Nat) (cI cC cZ cB cJ : ClassId) (a_x xG xD wY wJ wQ xI xK xJ tW xH tX jE mX pD oO oQ eG vX uO vQ sz : Nat) (p0 bZ bD bI aI : Int32) (nJ nY dQ : Nat → Int32) (jC eO eW dO fJ fY jD nG oE uF : Int32) (sG : Nat → Int32) (post : Int32 → Int32 → Int32 → Int32 → Int32 → Int32 → Int32 → (Nat → Int32) → Prop) (hw : wp_X9_move post p0 bD nJ nY dQ jC eO eW dO fJ fY jD nG oE uF sG) : Met l yX9_move (gw yX9_move cX9_move 2 (some .int)) rm_X9_move (va_Pc [.ref a_x, .int p0] (gPre (dC, dI) (tyl cI cC cZ cB cJ) (wd_X9_move cI cC cZ cB cJ a_x xG xD wY wJ wQ xI xK xJ tW xH tX jE mX pD oO oQ eG vX uO vQ bZ bD bI aI nJ nY dQ jC eO eW dO fJ fY jD nG oE uF sG) sz)) (q_X9_move dC dI cI cC cZ cB cJ (va_A (wd_X9_move cI cC cZ cB cJ a_x xG xD wY wJ wQ xI xK xJ tW xH tX jE mX pD oO oQ eG vX uO vQ bZ bD bI aI nJ nY dQ jC eO eW dO fJ fY jD nG oE uF sG) sz) a_x xG xD wY wJ wQ xI xK xJ tW xH tX jE mX pD oO oQ eG vX uO vQ bZ bD bI aI nJ nY dQ eW dO fY jD post) 0 0 (va_A (wd_X9_move cI cC cZ cB cJ a_x xG xD wY wJ wQ xI xK xJ tW xH tX jE mX pD oO oQ eG vX uO vQ bZ bD bI aI nJ nY dQ jC eO eW dO fJ fY jD nG oE uF sG) sz) := by
  refine g_enter (own := RX9) (dC, dI) (tyl cI cC cZ cB cJ) (wd_X9_move cI cC cZ cB cJ a_x xG xD wY wJ wQ xI xK xJ tW xH tX jE mX pD oO oQ eG vX uO vQ bZ bD bI aI nJ nY dQ jC eO eW dO fJ fY jD nG oE uF sG) sz [.ref a_x, .int p0] (fun A => q_X9_move dC dI cI cC cZ cB cJ A a_x xG xD wY wJ wQ xI xK xJ tW xH tX jE mX pD oO oQ eG vX uO vQ bZ bD bI aI nJ nY dQ eW dO fY jD post) pn_RX9 rfl (Nat.le_of_ble_eq_true rfl) ?_
  intro p e s m args below meth c A H locs ls C0 hP hD hS hl
  have hl : lv_has ls 2 [(0, .ref a_x), (1, .int p0)] := hl
  obtain ⟨hx, hb, hr, hml, hown, hts, hlocks, hA, hK, hN, tL, tM, hZL, hTL, hZM, hTM, hZX⟩ := id C0
  have hp := hw
  unfold wp_X9_move at hp
  refine lv_aload_n hx hb eX9_move_0.1 rfl (lv_at hl 0 rfl) ?_
  refine va_get (D := (dC, dI)) (ci := 9) (v := .ref xI) (C := RX9) (T := TX9) (N := 9) hx hb hts i_X9 hown hK hP 0 rfl rfl 5 (Nat.le_of_ble_eq_true rfl) (hts _ q_91) (fun _ h9 => h9) rfl eX9_move_0.2.1 ?_
  refine lv_aload_n hx hb eX9_move_0.2.2.1 rfl (lv_at hl 0 rfl) ?_
  refine va_get (D := (dC, dI)) (ci := 9) (v := .ref wQ) (C := RX9) (T := TX9) (N := 9) hx hb hts i_X9 hown hK hP 0 rfl rfl 4 (Nat.le_of_ble_eq_true rfl) (hts _ q_179) (fun _ h9 => h9) rfl eX9_move_0.2.2.2.1 ?_
  have hm := mgk (wc := (wd_X4_note cI cC cZ cB cJ wQ xI vX uO vQ jC eO eW dO fJ fY jD nG oE uF sG)) hP mk_42 9 rfl rfl rfl
  refine g_callv hP hD hS hA (mixT mk_42) (mixF mk_42) hm.1 hm.2 (nd_F _) (dis_g _) (g_runV (As := [.ref wQ]) (rest := []) C0 hP hD hS (mixT mk_42) hm.1 (nd_T _) 7 4 rfl rfl (c_X4_note l dC dI cI cC cZ cB cJ wQ xI vX uO vQ H.size jC eO eW dO fJ fY jD nG oE uF sG _ hp) q_247 q_250 q_248 q_249 q_93 h_X4_note rfl rfl ⟨Nat.le_of_ble_eq_true rfl, Nat.le_of_ble_eq_true rfl⟩ rfl rfl hl.1 rfl (lv_room (Nat.le_of_ble_eq_true rfl)) eX9_move_0.2.2.2.2.1 ⟨Nat.zero_le _, Nat.zero_le _⟩) (fun u H locs hp hP hD hS => ?_)
  obtain ⟨yP, rfl⟩ : ∃ z, z = u := ⟨_, rfl⟩
  have hPD := PDm (ws' := (wd_X9_move cI cC cZ cB cJ a_x xG xD wY wJ wQ xI xK xJ tW xH tX jE mX pD oO oQ eG vX uO vQ bZ bD bI aI nJ nY dQ jC eO eW dO fJ fY jD nG oE uF yP)) hP hD 9 rfl rfl rfl
  have hP := hPD.1
  have hD := hPD.2
  refine lv_aload_n hx hb eX9_move_0.2.2.2.2.2.1 rfl (lv_at hl 0 rfl) ?_
  refine lv_aload_n hx hb eX9_move_0.2.2.2.2.2.2.1 rfl (lv_at hl 0 rfl) ?_
  refine va_get (D := (dC, dI)) (ci := 9) (v := .ref wY) (C := RX9) (T := TX9) (N := 9) hx hb hts i_X9 hown hK hP 0 rfl rfl 2 (Nat.le_of_ble_eq_true rfl) (hts _ q_146) (fun _ h9 => h9) rfl eX9_move_0.2.2.2.2.2.2.2.1 ?_
  refine lv_iload_n hx hb eX9_move_0.2.2.2.2.2.2.2.2.1 rfl (lv_at hl 1 rfl) ?_
  have hm := mgk (wc := (wd_X0_setLadder cI cC cZ cB cJ wY wJ wQ xH tX jE mX pD oO oQ eG bZ bD bI aI nJ nY dQ jC eO eW dO fJ fY jD nG)) hP mk_43 9 rfl rfl rfl
  refine g_calli hP hD hS hA (mixT mk_43) (mixF mk_43) hm.1 hm.2 (nd_F _) (dis_g _) (g_runV (As := [.int p0]) (rest := [.ref a_x]) C0 hP hD hS (mixT mk_43) hm.1 (nd_T _) 1 0 rfl rfl (c_X0_setLadder l dC dI cI cC cZ cB cJ wY wJ wQ xH tX jE mX pD oO oQ eG H.size p0 bZ bD bI aI nJ nY dQ jC eO eW dO fJ fY jD nG _ hp) q_251 q_254 q_252 q_253 q_187 h_X0_setLadder rfl rfl ⟨Nat.le_of_ble_eq_true rfl, Nat.le_of_ble_eq_true rfl⟩ rfl rfl hl.1 rfl (lv_room (Nat.le_of_ble_eq_true rfl)) eX9_move_0.2.2.2.2.2.2.2.2.2.1 ⟨Nat.zero_le _, Nat.zero_le _⟩) (fun r_2 u H locs hp hP hD hS => ?_)
  obtain ⟨zS, zX, aA7, aF3⟩ := u
  have hPD := PDm (ws' := (wd_X9_move cI cC cZ cB cJ a_x xG xD wY wJ wQ xI xK xJ tW xH tX jE mX pD oO oQ eG vX uO vQ bZ bD bI aI nJ nY dQ zS zX eW dO aA7 fY jD aF3 oE uF yP)) hP hD 9 rfl rfl rfl
  have hP := hPD.1
  have hD := hPD.2
  have hm := mgk (wc := (wd_X9_holdIfDone cI cC cZ cB cJ a_x xG xD wY wJ wQ xI xK xJ tW vX uO vQ oE uF)) hP mk_44 9 rfl rfl rfl
  refine g_calli hP hD hS hA (mixT mk_44) (mixF mk_44) hm.1 hm.2 (nd_F _) (dis_g _) (g_runV (As := [.int r_2]) (rest := []) C0 hP hD hS (mixT mk_44) hm.1 (nd_T _) 0 9 rfl rfl (c_X9_holdIfDone l dC dI cI cC cZ cB cJ a_x xG xD wY wJ wQ xI xK xJ tW vX uO vQ H.size r_2 oE uF _ hp) q_255 q_259 q_257 q_258 q_256 h_X9_holdIfDone rfl rfl ⟨Nat.le_of_ble_eq_true rfl, Nat.le_of_ble_eq_true rfl⟩ rfl rfl hl.1 rfl (lv_room (Nat.le_of_ble_eq_true rfl)) eX9_move_0.2.2.2.2.2.2.2.2.2.2.1 ⟨Nat.zero_le _, Nat.zero_le _⟩) (fun r_7 u H locs hp hP hD hS => ?_)
  obtain ⟨pa_undoable_8, pa_free_9⟩ := u
  have hPD := PDm (ws' := (wd_X9_move cI cC cZ cB cJ a_x xG xD wY wJ wQ xI xK xJ tW xH tX jE mX pD oO oQ eG vX uO vQ bZ bD bI aI nJ nY dQ zS zX eW dO aA7 fY jD aF3 pa_undoable_8 pa_free_9 yP)) hP hD 9 rfl rfl rfl
  have hP := hPD.1
  have hD := hPD.2
  exact W.iret (v := r_7) hx hb hr (fun t ht hW => ⟨⟨r_7, (zS, zX, aA7, aF3, pa_undoable_8, pa_free_9, yP), rfl, hp, by rw [ht]; exact hP, va_K.moved hW.alike hK, hD⟩, hS.F ht⟩) hS.2.2 eX9_move_0.2.2.2.2.2.2.2.2.2.2.2
noncomputable abbrev wd_X9_isYesOrNo (cI cC cZ cB cJ : ClassId) : va_W := []
noncomputable abbrev q_X9_isYesOrNo (dC : Nat → ClassId) (dI : Nat → Nat → Nat) (cI cC cZ cB cJ : ClassId) (A : Nat → Prop) (post : Int32 → Prop) : Array Value → State → Outcome → State → Prop := va_Qi (fun (r : Int32) (u : Unit) => post r) (fun u t => gB (dC, dI) (tyl cI cC cZ cB cJ) A (wd_X9_isYesOrNo cI cC cZ cB cJ) t) A
noncomputable abbrev rm_X9_isYesOrNo : Room := { frames := 0, cells := 0, slots := 0, locals := 0 }
section S_X9_isYesOrNo
variable {p : Program} {l : Launch} {e : Env} {s : State} {m : MethodId} {args : Array Value} {below : List Frame} {meth : Method} {c : Code} {dC : Nat → ClassId} {dI : Nat → Nat → Nat} {cI cC cZ cB cJ : ClassId} {A : Nat → Prop} {post : Int32 → Prop}
noncomputable def ws_X9_isYesOrNo_9 (post : Int32 → Prop) : Prop := post 1
set_option maxHeartbeats 4000000 in
set_option maxRecDepth 100000 in
theorem ks_X9_isYesOrNo_9 (C0 : gc cX9_isYesOrNo (some .boolean) 1 RX9 (dC, dI) (tyl cI cC cZ cB cJ) A p s m args meth c) : ∀ (H : Heap) (locs : List Loc) (ls : Array Slot), (ws_X9_isYesOrNo_9 post) → va_P (dC, dI) classes (wd_X9_isYesOrNo cI cC cZ cB cJ) H → va_D A (wd_X9_isYesOrNo cI cC cZ cB cJ) → va_S A s.heap H locs → lv_has ls 1 [] → W p l e rm_X9_isYesOrNo s m args below meth c H locs 0 0 (MQ below (q_X9_isYesOrNo dC dI cI cC cZ cB cJ A post) args s 0 0 A) (F0 m 9 ls []) := by
  obtain ⟨hx, hb, hr, hml, hown, hts, hlocks, hA, hK, hN, tL, tM, hZL, hTL, hZM, hTM, hZX⟩ := id C0
  intro H locs ls hp hP hD hS hl
  unfold ws_X9_isYesOrNo_9 at hp
  refine lv_iconst (v := 1) hx hb eX9_isYesOrNo_0.2.2.2.2.2.1 ic_1 ?_
  refine lv_goto (tgt := 14) hx hb eX9_isYesOrNo_0.2.2.2.2.2.2.1 (by decide) ?_
  exact W.zret (v := 1) hx hb hr rfl (fun t ht hW => ⟨⟨1, (), rfl, hp, by rw [ht]; exact hP, va_K.moved hW.alike hK, hD⟩, hS.F ht⟩) hS.2.2 eX9_isYesOrNo_0.2.2.2.2.2.2.2.2
end S_X9_isYesOrNo
noncomputable def wp_X9_isYesOrNo (post : Int32 → Prop) (p0 : Int32) : Prop := (p0 = 0 → ws_X9_isYesOrNo_9 post) ∧ (¬ p0 = 0 → (¬ p0 = 1 → post 0) ∧ (p0 = 1 → ws_X9_isYesOrNo_9 post))
set_option maxHeartbeats 4000000 in
set_option maxRecDepth 100000 in
theorem c_X9_isYesOrNo (l : Launch) (dC : Nat → ClassId) (dI : Nat → Nat → Nat) (cI cC cZ cB cJ : ClassId) (sz : Nat) (p0 : Int32) (post : Int32 → Prop) (hw : wp_X9_isYesOrNo post p0) : Met l yX9_isYesOrNo (gw yX9_isYesOrNo cX9_isYesOrNo 1 (some .boolean)) rm_X9_isYesOrNo (va_Pc [.int p0] (gPre (dC, dI) (tyl cI cC cZ cB cJ) (wd_X9_isYesOrNo cI cC cZ cB cJ) sz)) (q_X9_isYesOrNo dC dI cI cC cZ cB cJ (va_A (wd_X9_isYesOrNo cI cC cZ cB cJ) sz) post) 0 0 (va_A (wd_X9_isYesOrNo cI cC cZ cB cJ) sz) := by
  refine g_enter (own := RX9) (dC, dI) (tyl cI cC cZ cB cJ) (wd_X9_isYesOrNo cI cC cZ cB cJ) sz [.int p0] (fun A => q_X9_isYesOrNo dC dI cI cC cZ cB cJ A post) pn_RX9 rfl (Nat.le_of_ble_eq_true rfl) ?_
  intro p e s m args below meth c A H locs ls C0 hP hD hS hl
  have hl : lv_has ls 1 [(0, .int p0)] := hl
  obtain ⟨hx, hb, hr, hml, hown, hts, hlocks, hA, hK, hN, tL, tM, hZL, hTL, hZM, hTM, hZX⟩ := id C0
  have hp := hw
  unfold wp_X9_isYesOrNo at hp
  refine lv_iload_n hx hb eX9_isYesOrNo_0.1 rfl (lv_at hl 0 rfl) ?_
  refine lv_if_eq (tgt := 9) hx hb eX9_isYesOrNo_0.2.1 (by decide) (fun hc => ?_) (fun hc => ?_)
  · have hp := hp.1 hc
    exact ks_X9_isYesOrNo_9 C0 H locs ls hp hP hD hS (lv_sub hl [] rfl)
  · have hp := hp.2 hc
    refine lv_iload_n hx hb eX9_isYesOrNo_0.2.2.1 rfl (lv_at hl 0 rfl) ?_
    refine lv_iconst (v := 1) hx hb eX9_isYesOrNo_0.2.2.2.1 ic_1 ?_
    refine lv_icmp_ne (tgt := 13) hx hb eX9_isYesOrNo_0.2.2.2.2.1 (by decide) (fun hc => ?_) (fun hc => ?_)
    · have hp := hp.1 hc
      refine lv_iconst (v := 0) hx hb eX9_isYesOrNo_0.2.2.2.2.2.2.2.1 ic_0 ?_
      exact W.zret (v := 0) hx hb hr rfl (fun t ht hW => ⟨⟨0, (), rfl, hp, by rw [ht]; exact hP, va_K.moved hW.alike hK, hD⟩, hS.F ht⟩) hS.2.2 eX9_isYesOrNo_0.2.2.2.2.2.2.2.2
    · have hp := hp.2 hc
      exact ks_X9_isYesOrNo_9 C0 H locs ls hp hP hD hS (lv_sub hl [] rfl)
noncomputable abbrev wd_X0_setHelper (cI cC cZ cB cJ : ClassId) (wY wJ wQ xH : Nat) (jC eO eW dO fJ fY jD nG : Int32) : va_W := [(wY, .inr (0, [.ref wJ, .ref wQ, .ref xH])), (wQ, .inr (2, [.int jC, .int eO, .int eW, .int dO, .int fJ, .int fY, .int jD, .int nG]))]
noncomputable abbrev q_X0_setHelper (dC : Nat → ClassId) (dI : Nat → Nat → Nat) (cI cC cZ cB cJ : ClassId) (A : Nat → Prop) (wY wJ wQ xH : Nat) (jC eO eW dO fJ jD nG : Int32) (post : Int32 → Int32 → Prop) : Array Value → State → Outcome → State → Prop := va_Qi (fun (r u : Int32) => post r u) (fun u t => gB (dC, dI) (tyl cI cC cZ cB cJ) A (wd_X0_setHelper cI cC cZ cB cJ wY wJ wQ xH jC eO eW dO fJ u jD nG) t) A
noncomputable abbrev rm_X0_setHelper : Room := { frames := 1, cells := 0, slots := 0, locals := 20 }
noncomputable def wp_X0_setHelper (post : Int32 → Int32 → Prop) (p0 fY : Int32) : Prop := wp_X9_isYesOrNo (fun r_1 => (¬ r_1 = 0 → post fY p0) ∧ (r_1 = 0 → post (-1) fY)) p0
set_option maxHeartbeats 4000000 in
set_option maxRecDepth 100000 in
theorem c_X0_setHelper (l : Launch) (dC : Nat → ClassId) (dI : Nat → Nat → Nat) (cI cC cZ cB cJ : ClassId) (wY wJ wQ xH sz : Nat) (p0 jC eO eW dO fJ fY jD nG : Int32) (post : Int32 → Int32 → Prop) (hw : wp_X0_setHelper post p0 fY) : Met l yX0_setHelper (gw yX0_setHelper cX0_setHelper 3 (some .int)) rm_X0_setHelper (va_Pc [.ref wY, .int p0] (gPre (dC, dI) (tyl cI cC cZ cB cJ) (wd_X0_setHelper cI cC cZ cB cJ wY wJ wQ xH jC eO eW dO fJ fY jD nG) sz)) (q_X0_setHelper dC dI cI cC cZ cB cJ (va_A (wd_X0_setHelper cI cC cZ cB cJ wY wJ wQ xH jC eO eW dO fJ fY jD nG) sz) wY wJ wQ xH jC eO eW dO fJ jD nG post) 0 0 (va_A (wd_X0_setHelper cI cC cZ cB cJ wY wJ wQ xH jC eO eW dO fJ fY jD nG) sz) := by
  refine g_enter (own := RX0) (dC, dI) (tyl cI cC cZ cB cJ) (wd_X0_setHelper cI cC cZ cB cJ wY wJ wQ xH jC eO eW dO fJ fY jD nG) sz [.ref wY, .int p0] (fun A => q_X0_setHelper dC dI cI cC cZ cB cJ A wY wJ wQ xH jC eO eW dO fJ jD nG post) pn_RX0 rfl (Nat.le_of_ble_eq_true rfl) ?_
  intro p e s m args below meth c A H locs ls C0 hP hD hS hl
  have hl : lv_has ls 3 [(0, .ref wY), (1, .int p0)] := hl
  obtain ⟨hx, hb, hr, hml, hown, hts, hlocks, hA, hK, hN, tL, tM, hZL, hTL, hZM, hTM, hZX⟩ := id C0
  have hp := hw
  unfold wp_X0_setHelper at hp
  refine lv_iload_n hx hb eX0_setHelper_0.1 rfl (lv_at hl 1 rfl) ?_
  refine g_calli (wc := (wd_X9_isYesOrNo cI cC cZ cB cJ)) hP hD hS hA [] [0, 1] rfl rfl rfl rfl (g_runSN (As := [.int p0]) (rest := []) C0 hP hD hS [] rfl rfl (c_X9_isYesOrNo l dC dI cI cC cZ cB cJ H.size p0 _ hp) q_260 n_1 q_261 q_256 h_X9_isYesOrNo rfl rfl ⟨Nat.le_of_ble_eq_true rfl, Nat.le_of_ble_eq_true rfl⟩ rfl rfl hl.1 rfl (lv_room (Nat.le_of_ble_eq_true rfl)) eX0_setHelper_0.2.1 ⟨Nat.zero_le _, Nat.zero_le _⟩) (fun r_1 u H locs hp hP hD hS => ?_)
  have hPD := PDs (ws' := (wd_X0_setHelper cI cC cZ cB cJ wY wJ wQ xH jC eO eW dO fJ fY jD nG)) hP hD [0, 1] (by decide) rfl
  have hP := hPD.1
  have hD := hPD.2
  refine lv_if_ne (tgt := 9) hx hb eX0_setHelper_0.2.2.1 (by decide) (fun hc => ?_) (fun hc => ?_)
  · have hp := hp.1 hc
    refine lv_aload_n hx hb eX0_setHelper_0.2.2.2.2.2.1 rfl (lv_at hl 0 rfl) ?_
    refine va_get (D := (dC, dI)) (ci := 0) (v := .ref wQ) (C := RX0) (T := TX0) (N := 3) hx hb hts i_X0 hown hK hP 0 rfl rfl 1 (Nat.le_of_ble_eq_true rfl) (hts _ q_161) (fun _ h9 => h9) rfl eX0_setHelper_0.2.2.2.2.2.2.1 ?_
    refine va_get (D := (dC, dI)) (ci := 2) (v := .int fY) (C := RX2) (T := TX2) (N := 8) hx hb hts i_X2 hown hK hP 1 rfl rfl 5 (Nat.le_of_ble_eq_true rfl) (hts _ q_262) (fun _ h9 => h9) rfl eX0_setHelper_0.2.2.2.2.2.2.2.1 ?_
    refine lv_istore_n (lv' := [(2, .int fY), (0, .ref wY), (1, .int p0)]) hx hb eX0_setHelper_0.2.2.2.2.2.2.2.2.1 rfl hl (by decide) rfl (fun ls hl => ?_)
    refine lv_aload_n hx hb eX0_setHelper_0.2.2.2.2.2.2.2.2.2.1 rfl (lv_at hl 1 rfl) ?_
    refine va_get (D := (dC, dI)) (ci := 0) (v := .ref wQ) (C := RX0) (T := TX0) (N := 3) hx hb hts i_X0 hown hK hP 0 rfl rfl 1 (Nat.le_of_ble_eq_true rfl) (hts _ q_161) (fun _ h9 => h9) rfl eX0_setHelper_0.2.2.2.2.2.2.2.2.2.2.1 ?_
    refine lv_iload_n hx hb eX0_setHelper_0.2.2.2.2.2.2.2.2.2.2.2.1 rfl (lv_at hl 2 rfl) ?_
    refine va_put (D := (dC, dI)) (ci := 2) (v := .int p0) (ty := .int) (C := RX2) (T := TX2) (N := 8) hx hb hts i_X2 tyX2 tyX2_ok nmX2 hown hK hP hD hS 1 rfl rfl 5 (Nat.le_of_ble_eq_true rfl) (hts _ q_262) (fun _ h9 => h9) rfl (tyX2_ok 5 (Nat.le_of_ble_eq_true rfl)) rfl rfl (Nat.le_of_ble_eq_true rfl) eX0_setHelper_0.2.2.2.2.2.2.2.2.2.2.2.2.1 (fun H locs hP hD hS => ?_)
    have hP : va_P (dC, dI) classes (wd_X0_setHelper cI cC cZ cB cJ wY wJ wQ xH jC eO eW dO fJ p0 jD nG) H := hP
    have hD : va_D A (wd_X0_setHelper cI cC cZ cB cJ wY wJ wQ xH jC eO eW dO fJ p0 jD nG) := hD
    refine lv_iload_n hx hb eX0_setHelper_0.2.2.2.2.2.2.2.2.2.2.2.2.2.1 rfl (lv_at hl 0 rfl) ?_
    exact W.iret (v := fY) hx hb hr (fun t ht hW => ⟨⟨fY, p0, rfl, hp, by rw [ht]; exact hP, va_K.moved hW.alike hK, hD⟩, hS.F ht⟩) hS.2.2 eX0_setHelper_0.2.2.2.2.2.2.2.2.2.2.2.2.2.2
  · have hp := hp.2 hc
    refine lv_iconst (v := (-1)) hx hb eX0_setHelper_0.2.2.2.1 ic_m1 ?_
    exact W.iret (v := (-1)) hx hb hr (fun t ht hW => ⟨⟨(-1), fY, rfl, hp, by rw [ht]; exact hP, va_K.moved hW.alike hK, hD⟩, hS.F ht⟩) hS.2.2 eX0_setHelper_0.2.2.2.2.1
noncomputable abbrev wd_X9_foot (cI cC cZ cB cJ : ClassId) (a_x xG xD wY wJ wQ xI xK xJ tW xH vX uO vQ : Nat) (jC eO eW dO fJ fY jD nG oE uF : Int32) (sG : Nat → Int32) : va_W := [(a_x, .inr (9, [.ref xG, .ref xD, .ref wY, .ref wJ, .ref wQ, .ref xI, .ref xK, .ref xJ, .ref tW])), (wY, .inr (0, [.ref wJ, .ref wQ, .ref xH])), (wQ, .inr (2, [.int jC, .int eO, .int eW, .int dO, .int fJ, .int fY, .int jD, .int nG])), (xI, .inr (4, [.ref vX, .ref uO, .ref vQ, .int oE, .int uF])), (vX, .inl (cI, 104, .inl sG))]
noncomputable abbrev q_X9_foot (dC : Nat → ClassId) (dI : Nat → Nat → Nat) (cI cC cZ cB cJ : ClassId) (A : Nat → Prop) (a_x xG xD wY wJ wQ xI xK xJ tW xH vX uO vQ : Nat) (jC eO eW dO fJ jD nG : Int32) (post : Int32 → Int32 → Int32 → Int32 → (Nat → Int32) → Prop) : Array Value → State → Outcome → State → Prop := va_Qi (fun (r : Int32) (u : Int32 × Int32 × Int32 × (Nat → Int32)) => post r u.1 u.2.1 u.2.2.1 u.2.2.2) (fun u t => gB (dC, dI) (tyl cI cC cZ cB cJ) A (wd_X9_foot cI cC cZ cB cJ a_x xG xD wY wJ wQ xI xK xJ tW xH vX uO vQ jC eO eW dO fJ u.1 jD nG u.2.1 u.2.2.1 u.2.2.2) t) A
noncomputable abbrev rm_X9_foot : Room := { frames := 3, cells := 0, slots := 0, locals := 62 }
noncomputable def wp_X9_foot (post : Int32 → Int32 → Int32 → Int32 → (Nat → Int32) → Prop) (p0 jC eO eW dO fJ fY jD nG oE uF : Int32) (sG : Nat → Int32) : Prop := wp_X4_note (fun yP => wp_X0_setHelper (fun r_2 no_helper_3 => wp_X9_holdIfDone (fun r_4 pa_undoable_5 pa_free_6 => post r_4 no_helper_3 pa_undoable_5 pa_free_6 yP) r_2 oE uF) p0 fY) jC eO eW dO fJ fY jD nG uF sG
set_option maxHeartbeats 4000000 in
set_option maxRecDepth 100000 in
theorem c_X9_foot (l : Launch) (dC : Nat → ClassId) (dI : Nat → Nat → Nat) (cI cC cZ cB cJ : ClassId) (a_x xG xD wY wJ wQ xI xK xJ tW xH vX uO vQ sz : Nat) (p0 jC eO eW dO fJ fY jD nG oE uF : Int32) (sG : Nat → Int32) (post : Int32 → Int32 → Int32 → Int32 → (Nat → Int32) → Prop) (hw : wp_X9_foot post p0 jC eO eW dO fJ fY jD nG oE uF sG) : Met l yX9_foot (gw yX9_foot cX9_foot 2 (some .int)) rm_X9_foot (va_Pc [.ref a_x, .int p0] (gPre (dC, dI) (tyl cI cC cZ cB cJ) (wd_X9_foot cI cC cZ cB cJ a_x xG xD wY wJ wQ xI xK xJ tW xH vX uO vQ jC eO eW dO fJ fY jD nG oE uF sG) sz)) (q_X9_foot dC dI cI cC cZ cB cJ (va_A (wd_X9_foot cI cC cZ cB cJ a_x xG xD wY wJ wQ xI xK xJ tW xH vX uO vQ jC eO eW dO fJ fY jD nG oE uF sG) sz) a_x xG xD wY wJ wQ xI xK xJ tW xH vX uO vQ jC eO eW dO fJ jD nG post) 0 0 (va_A (wd_X9_foot cI cC cZ cB cJ a_x xG xD wY wJ wQ xI xK xJ tW xH vX uO vQ jC eO eW dO fJ fY jD nG oE uF sG) sz) := by
  refine g_enter (own := RX9) (dC, dI) (tyl cI cC cZ cB cJ) (wd_X9_foot cI cC cZ cB cJ a_x xG xD wY wJ wQ xI xK xJ tW xH vX uO vQ jC eO eW dO fJ fY jD nG oE uF sG) sz [.ref a_x, .int p0] (fun A => q_X9_foot dC dI cI cC cZ cB cJ A a_x xG xD wY wJ wQ xI xK xJ tW xH vX uO vQ jC eO eW dO fJ jD nG post) pn_RX9 rfl (Nat.le_of_ble_eq_true rfl) ?_
  intro p e s m args below meth c A H locs ls C0 hP hD hS hl
  have hl : lv_has ls 2 [(0, .ref a_x), (1, .int p0)] := hl
  obtain ⟨hx, hb, hr, hml, hown, hts, hlocks, hA, hK, hN, tL, tM, hZL, hTL, hZM, hTM, hZX⟩ := id C0
  have hp := hw
  unfold wp_X9_foot at hp
  refine lv_aload_n hx hb eX9_foot_0.1 rfl (lv_at hl 0 rfl) ?_
  refine va_get (D := (dC, dI)) (ci := 9) (v := .ref xI) (C := RX9) (T := TX9) (N := 9) hx hb hts i_X9 hown hK hP 0 rfl rfl 5 (Nat.le_of_ble_eq_true rfl) (hts _ q_91) (fun _ h9 => h9) rfl eX9_foot_0.2.1 ?_
  refine lv_aload_n hx hb eX9_foot_0.2.2.1 rfl (lv_at hl 0 rfl) ?_
  refine va_get (D := (dC, dI)) (ci := 9) (v := .ref wQ) (C := RX9) (T := TX9) (N := 9) hx hb hts i_X9 hown hK hP 0 rfl rfl 4 (Nat.le_of_ble_eq_true rfl) (hts _ q_179) (fun _ h9 => h9) rfl eX9_foot_0.2.2.2.1 ?_
  have hm := mgk (wc := (wd_X4_note cI cC cZ cB cJ wQ xI vX uO vQ jC eO eW dO fJ fY jD nG oE uF sG)) hP mk_22 5 rfl rfl rfl
  refine g_callv hP hD hS hA (mixT mk_22) (mixF mk_22) hm.1 hm.2 (nd_F _) (dis_g _) (g_runV (As := [.ref wQ]) (rest := []) C0 hP hD hS (mixT mk_22) hm.1 (nd_T _) 3 4 rfl rfl (c_X4_note l dC dI cI cC cZ cB cJ wQ xI vX uO vQ H.size jC eO eW dO fJ fY jD nG oE uF sG _ hp) q_247 q_250 q_248 q_249 q_93 h_X4_note rfl rfl ⟨Nat.le_of_ble_eq_true rfl, Nat.le_of_ble_eq_true rfl⟩ rfl rfl hl.1 rfl (lv_room (Nat.le_of_ble_eq_true rfl)) eX9_foot_0.2.2.2.2.1 ⟨Nat.zero_le _, Nat.zero_le _⟩) (fun u H locs hp hP hD hS => ?_)
  obtain ⟨yP, rfl⟩ : ∃ z, z = u := ⟨_, rfl⟩
  have hPD := PDm (ws' := (wd_X9_foot cI cC cZ cB cJ a_x xG xD wY wJ wQ xI xK xJ tW xH vX uO vQ jC eO eW dO fJ fY jD nG oE uF yP)) hP hD 5 rfl rfl rfl
  have hP := hPD.1
  have hD := hPD.2
  refine lv_aload_n hx hb eX9_foot_0.2.2.2.2.2.1 rfl (lv_at hl 0 rfl) ?_
  refine lv_aload_n hx hb eX9_foot_0.2.2.2.2.2.2.1 rfl (lv_at hl 0 rfl) ?_
  refine va_get (D := (dC, dI)) (ci := 9) (v := .ref wY) (C := RX9) (T := TX9) (N := 9) hx hb hts i_X9 hown hK hP 0 rfl rfl 2 (Nat.le_of_ble_eq_true rfl) (hts _ q_146) (fun _ h9 => h9) rfl eX9_foot_0.2.2.2.2.2.2.2.1 ?_
  refine lv_iload_n hx hb eX9_foot_0.2.2.2.2.2.2.2.2.1 rfl (lv_at hl 1 rfl) ?_
  have hm := mgk (wc := (wd_X0_setHelper cI cC cZ cB cJ wY wJ wQ xH jC eO eW dO fJ fY jD nG)) hP mk_45 5 rfl rfl rfl
  refine g_calli hP hD hS hA (mixT mk_45) (mixF mk_45) hm.1 hm.2 (nd_F _) (dis_g _) (g_runV (As := [.int p0]) (rest := [.ref a_x]) C0 hP hD hS (mixT mk_45) hm.1 (nd_T _) 1 0 rfl rfl (c_X0_setHelper l dC dI cI cC cZ cB cJ wY wJ wQ xH H.size p0 jC eO eW dO fJ fY jD nG _ hp) q_263 q_266 q_264 q_265 q_187 h_X0_setHelper rfl rfl ⟨Nat.le_of_ble_eq_true rfl, Nat.le_of_ble_eq_true rfl⟩ rfl rfl hl.1 rfl (lv_room (Nat.le_of_ble_eq_true rfl)) eX9_foot_0.2.2.2.2.2.2.2.2.2.1 ⟨Nat.zero_le _, Nat.zero_le _⟩) (fun r_2 u H locs hp hP hD hS => ?_)
  obtain ⟨no_helper_3, rfl⟩ : ∃ z, z = u := ⟨_, rfl⟩
  have hPD := PDm (ws' := (wd_X9_foot cI cC cZ cB cJ a_x xG xD wY wJ wQ xI xK xJ tW xH vX uO vQ jC eO eW dO fJ no_helper_3 jD nG oE uF yP)) hP hD 5 rfl rfl rfl
  have hP := hPD.1
  have hD := hPD.2
  have hm := mgk (wc := (wd_X9_holdIfDone cI cC cZ cB cJ a_x xG xD wY wJ wQ xI xK xJ tW vX uO vQ oE uF)) hP mk_46 5 rfl rfl rfl
  refine g_calli hP hD hS hA (mixT mk_46) (mixF mk_46) hm.1 hm.2 (nd_F _) (dis_g _) (g_runV (As := [.int r_2]) (rest := []) C0 hP hD hS (mixT mk_46) hm.1 (nd_T _) 0 9 rfl rfl (c_X9_holdIfDone l dC dI cI cC cZ cB cJ a_x xG xD wY wJ wQ xI xK xJ tW vX uO vQ H.size r_2 oE uF _ hp) q_255 q_259 q_257 q_258 q_256 h_X9_holdIfDone rfl rfl ⟨Nat.le_of_ble_eq_true rfl, Nat.le_of_ble_eq_true rfl⟩ rfl rfl hl.1 rfl (lv_room (Nat.le_of_ble_eq_true rfl)) eX9_foot_0.2.2.2.2.2.2.2.2.2.2.1 ⟨Nat.zero_le _, Nat.zero_le _⟩) (fun r_4 u H locs hp hP hD hS => ?_)
  obtain ⟨pa_undoable_5, pa_free_6⟩ := u
  have hPD := PDm (ws' := (wd_X9_foot cI cC cZ cB cJ a_x xG xD wY wJ wQ xI xK xJ tW xH vX uO vQ jC eO eW dO fJ no_helper_3 jD nG pa_undoable_5 pa_free_6 yP)) hP hD 5 rfl rfl rfl
  have hP := hPD.1
  have hD := hPD.2
  exact W.iret (v := r_4) hx hb hr (fun t ht hW => ⟨⟨r_4, (no_helper_3, pa_undoable_5, pa_free_6, yP), rfl, hp, by rw [ht]; exact hP, va_K.moved hW.alike hK, hD⟩, hS.F ht⟩) hS.2.2 eX9_foot_0.2.2.2.2.2.2.2.2.2.2.2
noncomputable abbrev wd_X3_reach (cI cC cZ cB cJ : ClassId) (wJ tX jE mX pD oO oQ eG : Nat) (bZ bD bI aI : Int32) (dQ : Nat → Int32) : va_W := [(wJ, .inr (3, [.ref tX, .ref jE, .ref mX, .ref pD, .ref oO, .ref oQ, .ref eG, .int bZ, .int bD, .int bI, .int aI])), (eG, .inl (cI, 5, .inl dQ))]
noncomputable abbrev q_X3_reach (dC : Nat → ClassId) (dI : Nat → Nat → Nat) (cI cC cZ cB cJ : ClassId) (A : Nat → Prop) (wJ tX jE mX pD oO oQ eG : Nat) (bZ bD bI aI : Int32) (dQ : Nat → Int32) (post : Int32 → Prop) : Array Value → State → Outcome → State → Prop := va_Qi (fun (r : Int32) (u : Unit) => post r) (fun u t => gB (dC, dI) (tyl cI cC cZ cB cJ) A (wd_X3_reach cI cC cZ cB cJ wJ tX jE mX pD oO oQ eG bZ bD bI aI dQ) t) A
noncomputable abbrev rm_X3_reach : Room := { frames := 0, cells := 0, slots := 0, locals := 0 }
noncomputable def wp_X3_reach (post : Int32 → Prop) (p0 p1 : Int32) (dQ : Nat → Int32) : Prop := ∀ v_1 : Int32, v_1 = dQ (0 : Int32).toNatClampNeg → ∀ v_2 : Int32, v_2 = v_1 + (p0 * (dQ (1 : Int32).toNatClampNeg)) → post (v_2 + (p1 * (dQ (2 : Int32).toNatClampNeg)))
set_option maxHeartbeats 4000000 in
set_option maxRecDepth 100000 in
theorem c_X3_reach (l : Launch) (dC : Nat → ClassId) (dI : Nat → Nat → Nat) (cI cC cZ cB cJ : ClassId) (wJ tX jE mX pD oO oQ eG sz : Nat) (p0 p1 bZ bD bI aI : Int32) (dQ : Nat → Int32) (post : Int32 → Prop) (hw : wp_X3_reach post p0 p1 dQ) : Met l yX3_reach (gw yX3_reach cX3_reach 3 (some .int)) rm_X3_reach (va_Pc [.ref wJ, .int p0, .int p1] (gPre (dC, dI) (tyl cI cC cZ cB cJ) (wd_X3_reach cI cC cZ cB cJ wJ tX jE mX pD oO oQ eG bZ bD bI aI dQ) sz)) (q_X3_reach dC dI cI cC cZ cB cJ (va_A (wd_X3_reach cI cC cZ cB cJ wJ tX jE mX pD oO oQ eG bZ bD bI aI dQ) sz) wJ tX jE mX pD oO oQ eG bZ bD bI aI dQ post) 0 0 (va_A (wd_X3_reach cI cC cZ cB cJ wJ tX jE mX pD oO oQ eG bZ bD bI aI dQ) sz) := by
  refine g_enter (own := RX3) (dC, dI) (tyl cI cC cZ cB cJ) (wd_X3_reach cI cC cZ cB cJ wJ tX jE mX pD oO oQ eG bZ bD bI aI dQ) sz [.ref wJ, .int p0, .int p1] (fun A => q_X3_reach dC dI cI cC cZ cB cJ A wJ tX jE mX pD oO oQ eG bZ bD bI aI dQ post) pn_RX3 rfl (Nat.le_of_ble_eq_true rfl) ?_
  intro p e s m args below meth c A H locs ls C0 hP hD hS hl
  have hl : lv_has ls 3 [(0, .ref wJ), (1, .int p0), (2, .int p1)] := hl
  obtain ⟨hx, hb, hr, hml, hown, hts, hlocks, hA, hK, hN, tL, tM, hZL, hTL, hZM, hTM, hZX⟩ := id C0
  have hp := hw
  unfold wp_X3_reach at hp
  refine lv_aload_n hx hb eX3_reach_0.1 rfl (lv_at hl 0 rfl) ?_
  refine va_get (D := (dC, dI)) (ci := 3) (v := .ref eG) (C := RX3) (T := TX3) (N := 11) hx hb hts i_X3 hown hK hP 0 rfl rfl 6 (Nat.le_of_ble_eq_true rfl) (hts _ q_225) (fun _ h9 => h9) rfl eX3_reach_0.2.1 ?_
  refine lv_iconst (v := 0) hx hb eX3_reach_0.2.2.1 ic_0 ?_
  refine va_iald hx hb hK hP 1 0 rfl rfl (g_in rfl) eX3_reach_0.2.2.2.1 ?_
  refine lv_topi (fun v_1 ev_1 => ?_)
  have hp := hp v_1 ev_1
  refine lv_iload_n hx hb eX3_reach_0.2.2.2.2.1 rfl (lv_at hl 1 rfl) ?_
  refine lv_aload_n hx hb eX3_reach_0.2.2.2.2.2.1 rfl (lv_at hl 0 rfl) ?_
  refine va_get (D := (dC, dI)) (ci := 3) (v := .ref eG) (C := RX3) (T := TX3) (N := 11) hx hb hts i_X3 hown hK hP 0 rfl rfl 6 (Nat.le_of_ble_eq_true rfl) (hts _ q_225) (fun _ h9 => h9) rfl eX3_reach_0.2.2.2.2.2.2.1 ?_
  refine lv_iconst (v := 1) hx hb eX3_reach_0.2.2.2.2.2.2.2.1 ic_1 ?_
  refine va_iald hx hb hK hP 1 0 rfl rfl (g_in rfl) eX3_reach_0.2.2.2.2.2.2.2.2.1 ?_
  refine lv_imul hx hb eX3_reach_0.2.2.2.2.2.2.2.2.2.1 ?_
  refine lv_iadd hx hb eX3_reach_0.2.2.2.2.2.2.2.2.2.2.1 ?_
  refine lv_topi (fun v_2 ev_2 => ?_)
  have hp := hp v_2 ev_2
  refine lv_iload_n hx hb eX3_reach_0.2.2.2.2.2.2.2.2.2.2.2.1 rfl (lv_at hl 2 rfl) ?_
  refine lv_aload_n hx hb eX3_reach_0.2.2.2.2.2.2.2.2.2.2.2.2.1 rfl (lv_at hl 0 rfl) ?_
  refine va_get (D := (dC, dI)) (ci := 3) (v := .ref eG) (C := RX3) (T := TX3) (N := 11) hx hb hts i_X3 hown hK hP 0 rfl rfl 6 (Nat.le_of_ble_eq_true rfl) (hts _ q_225) (fun _ h9 => h9) rfl eX3_reach_0.2.2.2.2.2.2.2.2.2.2.2.2.2.1 ?_
  refine lv_iconst (v := 2) hx hb eX3_reach_0.2.2.2.2.2.2.2.2.2.2.2.2.2.2.1 ic_2 ?_
  refine va_iald hx hb hK hP 1 0 rfl rfl (g_in rfl) eX3_reach_0.2.2.2.2.2.2.2.2.2.2.2.2.2.2.2 ?_
  refine lv_imul hx hb eX3_reach_22.1 ?_
  refine lv_iadd hx hb eX3_reach_22.2.1 ?_
  exact W.iret (v := v_2 + (p1 * (dQ (2 : Int32).toNatClampNeg))) hx hb hr (fun t ht hW => ⟨⟨v_2 + (p1 * (dQ (2 : Int32).toNatClampNeg)), (), rfl, hp, by rw [ht]; exact hP, va_K.moved hW.alike hK, hD⟩, hS.F ht⟩) hS.2.2 eX3_reach_22.2.2
noncomputable abbrev wd_X3_aside (cI cC cZ cB cJ : ClassId) (wJ tX jE mX pD oO oQ eG : Nat) (bZ bD bI aI : Int32) (wD nJ : Nat → Int32) : va_W := [(wJ, .inr (3, [.ref tX, .ref jE, .ref mX, .ref pD, .ref oO, .ref oQ, .ref eG, .int bZ, .int bD, .int bI, .int aI])), (tX, .inl (cI, 16, .inl wD)), (oO, .inl (cI, 8, .inl nJ))]
noncomputable abbrev q_X3_aside (dC : Nat → ClassId) (dI : Nat → Nat → Nat) (cI cC cZ cB cJ : ClassId) (A : Nat → Prop) (wJ tX jE mX pD oO oQ eG : Nat) (bZ bD bI aI : Int32) (wD nJ : Nat → Int32) (post : Int32 → Prop) : Array Value → State → Outcome → State → Prop := va_Qi (fun (r : Int32) (u : Unit) => post r) (fun u t => gB (dC, dI) (tyl cI cC cZ cB cJ) A (wd_X3_aside cI cC cZ cB cJ wJ tX jE mX pD oO oQ eG bZ bD bI aI wD nJ) t) A
noncomputable abbrev rm_X3_aside : Room := { frames := 0, cells := 0, slots := 0, locals := 0 }
noncomputable def wp_X3_aside (post : Int32 → Prop) (p0 p1 : Int32) (wD nJ : Nat → Int32) : Prop := vp_in p0 16 ∧ (∀ v_1 : Int32, v_1 = wD p0.toNatClampNeg → vp_in p1 8 ∧ ((v_1 ≤ (nJ p1.toNatClampNeg) → vp_in p1 8 ∧ (∀ v_2 : Int32, v_2 = nJ p1.toNatClampNeg → vp_in p0 16 ∧ (post (v_2 - (wD p0.toNatClampNeg))))) ∧ (¬ v_1 ≤ (nJ p1.toNatClampNeg) → vp_in p0 16 ∧ (∀ v_3 : Int32, v_3 = wD p0.toNatClampNeg → vp_in p1 8 ∧ (∀ v_4 : Int32, v_4 = v_3 - (nJ p1.toNatClampNeg) → post v_4)))))
set_option maxHeartbeats 4000000 in
set_option maxRecDepth 100000 in
theorem c_X3_aside (l : Launch) (dC : Nat → ClassId) (dI : Nat → Nat → Nat) (cI cC cZ cB cJ : ClassId) (wJ tX jE mX pD oO oQ eG sz : Nat) (p0 p1 bZ bD bI aI : Int32) (wD nJ : Nat → Int32) (post : Int32 → Prop) (hw : wp_X3_aside post p0 p1 wD nJ) : Met l yX3_aside (gw yX3_aside cX3_aside 3 (some .int)) rm_X3_aside (va_Pc [.ref wJ, .int p0, .int p1] (gPre (dC, dI) (tyl cI cC cZ cB cJ) (wd_X3_aside cI cC cZ cB cJ wJ tX jE mX pD oO oQ eG bZ bD bI aI wD nJ) sz)) (q_X3_aside dC dI cI cC cZ cB cJ (va_A (wd_X3_aside cI cC cZ cB cJ wJ tX jE mX pD oO oQ eG bZ bD bI aI wD nJ) sz) wJ tX jE mX pD oO oQ eG bZ bD bI aI wD nJ post) 0 0 (va_A (wd_X3_aside cI cC cZ cB cJ wJ tX jE mX pD oO oQ eG bZ bD bI aI wD nJ) sz) := by
  refine g_enter (own := RX3) (dC, dI) (tyl cI cC cZ cB cJ) (wd_X3_aside cI cC cZ cB cJ wJ tX jE mX pD oO oQ eG bZ bD bI aI wD nJ) sz [.ref wJ, .int p0, .int p1] (fun A => q_X3_aside dC dI cI cC cZ cB cJ A wJ tX jE mX pD oO oQ eG bZ bD bI aI wD nJ post) pn_RX3 rfl (Nat.le_of_ble_eq_true rfl) ?_
  intro p e s m args below meth c A H locs ls C0 hP hD hS hl
  have hl : lv_has ls 3 [(0, .ref wJ), (1, .int p0), (2, .int p1)] := hl
  obtain ⟨hx, hb, hr, hml, hown, hts, hlocks, hA, hK, hN, tL, tM, hZL, hTL, hZM, hTM, hZX⟩ := id C0
  have hp := hw
  unfold wp_X3_aside at hp
  refine lv_aload_n hx hb eX3_aside_0.1 rfl (lv_at hl 0 rfl) ?_
  refine va_get (D := (dC, dI)) (ci := 3) (v := .ref tX) (C := RX3) (T := TX3) (N := 11) hx hb hts i_X3 hown hK hP 0 rfl rfl 0 (Nat.le_of_ble_eq_true rfl) (hts _ q_45) (fun _ h9 => h9) rfl eX3_aside_0.2.1 ?_
  refine lv_iload_n hx hb eX3_aside_0.2.2.1 rfl (lv_at hl 1 rfl) ?_
  have hin := hp.1
  have hp := hp.2
  refine va_iald hx hb hK hP 1 0 rfl rfl hin eX3_aside_0.2.2.2.1 ?_
  refine lv_topi (fun v_1 ev_1 => ?_)
  have hp := hp v_1 ev_1
  refine lv_aload_n hx hb eX3_aside_0.2.2.2.2.1 rfl (lv_at hl 0 rfl) ?_
  refine va_get (D := (dC, dI)) (ci := 3) (v := .ref oO) (C := RX3) (T := TX3) (N := 11) hx hb hts i_X3 hown hK hP 0 rfl rfl 4 (Nat.le_of_ble_eq_true rfl) (hts _ q_53) (fun _ h9 => h9) rfl eX3_aside_0.2.2.2.2.2.1 ?_
  refine lv_iload_n hx hb eX3_aside_0.2.2.2.2.2.2.1 rfl (lv_at hl 2 rfl) ?_
  have hin := hp.1
  have hp := hp.2
  refine va_iald hx hb hK hP 2 0 rfl rfl hin eX3_aside_0.2.2.2.2.2.2.2.1 ?_
  refine lv_icmp_le (tgt := 31) hx hb eX3_aside_0.2.2.2.2.2.2.2.2.1 (by decide) (fun hc => ?_) (fun hc => ?_)
  · have hp := hp.1 hc
    refine lv_aload_n hx hb eX3_aside_26.2.2.2.1 rfl (lv_at hl 0 rfl) ?_
    refine va_get (D := (dC, dI)) (ci := 3) (v := .ref oO) (C := RX3) (T := TX3) (N := 11) hx hb hts i_X3 hown hK hP 0 rfl rfl 4 (Nat.le_of_ble_eq_true rfl) (hts _ q_53) (fun _ h9 => h9) rfl eX3_aside_26.2.2.2.2.1 ?_
    refine lv_iload_n hx hb eX3_aside_26.2.2.2.2.2.1 rfl (lv_at hl 2 rfl) ?_
    have hin := hp.1
    have hp := hp.2
    refine va_iald hx hb hK hP 2 0 rfl rfl hin eX3_aside_26.2.2.2.2.2.2.1 ?_
    refine lv_topi (fun v_2 ev_2 => ?_)
    have hp := hp v_2 ev_2
    refine lv_aload_n hx hb eX3_aside_26.2.2.2.2.2.2.2.1 rfl (lv_at hl 0 rfl) ?_
    refine va_get (D := (dC, dI)) (ci := 3) (v := .ref tX) (C := RX3) (T := TX3) (N := 11) hx hb hts i_X3 hown hK hP 0 rfl rfl 0 (Nat.le_of_ble_eq_true rfl) (hts _ q_45) (fun _ h9 => h9) rfl eX3_aside_26.2.2.2.2.2.2.2.2.1 ?_
    refine lv_iload_n hx hb eX3_aside_26.2.2.2.2.2.2.2.2.2.1 rfl (lv_at hl 1 rfl) ?_
    have hin := hp.1
    have hp := hp.2
    refine va_iald hx hb hK hP 1 0 rfl rfl hin eX3_aside_26.2.2.2.2.2.2.2.2.2.2.1 ?_
    refine lv_isub hx hb eX3_aside_26.2.2.2.2.2.2.2.2.2.2.2.1 ?_
    exact W.iret (v := v_2 - (wD p0.toNatClampNeg)) hx hb hr (fun t ht hW => ⟨⟨v_2 - (wD p0.toNatClampNeg), (), rfl, hp, by rw [ht]; exact hP, va_K.moved hW.alike hK, hD⟩, hS.F ht⟩) hS.2.2 eX3_aside_26.2.2.2.2.2.2.2.2.2.2.2.2
  · have hp := hp.2 hc
    refine lv_aload_n hx hb eX3_aside_0.2.2.2.2.2.2.2.2.2.1 rfl (lv_at hl 0 rfl) ?_
    refine va_get (D := (dC, dI)) (ci := 3) (v := .ref tX) (C := RX3) (T := TX3) (N := 11) hx hb hts i_X3 hown hK hP 0 rfl rfl 0 (Nat.le_of_ble_eq_true rfl) (hts _ q_45) (fun _ h9 => h9) rfl eX3_aside_0.2.2.2.2.2.2.2.2.2.2.1 ?_
    refine lv_iload_n hx hb eX3_aside_0.2.2.2.2.2.2.2.2.2.2.2.1 rfl (lv_at hl 1 rfl) ?_
    have hin := hp.1
    have hp := hp.2
    refine va_iald hx hb hK hP 1 0 rfl rfl hin eX3_aside_0.2.2.2.2.2.2.2.2.2.2.2.2.1 ?_
    refine lv_topi (fun v_3 ev_3 => ?_)
    have hp := hp v_3 ev_3
    refine lv_aload_n hx hb eX3_aside_0.2.2.2.2.2.2.2.2.2.2.2.2.2.1 rfl (lv_at hl 0 rfl) ?_
    refine va_get (D := (dC, dI)) (ci := 3) (v := .ref oO) (C := RX3) (T := TX3) (N := 11) hx hb hts i_X3 hown hK hP 0 rfl rfl 4 (Nat.le_of_ble_eq_true rfl) (hts _ q_53) (fun _ h9 => h9) rfl eX3_aside_0.2.2.2.2.2.2.2.2.2.2.2.2.2.2.1 ?_
    refine lv_iload_n hx hb eX3_aside_0.2.2.2.2.2.2.2.2.2.2.2.2.2.2.2 rfl (lv_at hl 2 rfl) ?_
    have hin := hp.1
    have hp := hp.2
    refine va_iald hx hb hK hP 2 0 rfl rfl hin eX3_aside_26.1 ?_
    refine lv_isub hx hb eX3_aside_26.2.1 ?_
    refine lv_topi (fun v_4 ev_4 => ?_)
    have hp := hp v_4 ev_4
    refine lv_goto (tgt := 44) hx hb eX3_aside_26.2.2.1 (by decide) ?_
    exact W.iret (v := v_4) hx hb hr (fun t ht hW => ⟨⟨v_4, (), rfl, hp, by rw [ht]; exact hP, va_K.moved hW.alike hK, hD⟩, hS.F ht⟩) hS.2.2 eX3_aside_26.2.2.2.2.2.2.2.2.2.2.2.2
noncomputable abbrev wd_X3_above (cI cC cZ cB cJ : ClassId) (wJ tX jE mX pD oO oQ eG : Nat) (bZ bD bI aI : Int32) (gF nY : Nat → Int32) : va_W := [(wJ, .inr (3, [.ref tX, .ref jE, .ref mX, .ref pD, .ref oO, .ref oQ, .ref eG, .int bZ, .int bD, .int bI, .int aI])), (jE, .inl (cI, 16, .inl gF)), (oQ, .inl (cI, 8, .inl nY))]
noncomputable abbrev q_X3_above (dC : Nat → ClassId) (dI : Nat → Nat → Nat) (cI cC cZ cB cJ : ClassId) (A : Nat → Prop) (wJ tX jE mX pD oO oQ eG : Nat) (bZ bD bI aI : Int32) (gF nY : Nat → Int32) (post : Int32 → Prop) : Array Value → State → Outcome → State → Prop := va_Qi (fun (r : Int32) (u : Unit) => post r) (fun u t => gB (dC, dI) (tyl cI cC cZ cB cJ) A (wd_X3_above cI cC cZ cB cJ wJ tX jE mX pD oO oQ eG bZ bD bI aI gF nY) t) A
noncomputable abbrev rm_X3_above : Room := { frames := 0, cells := 0, slots := 0, locals := 0 }
noncomputable def wp_X3_above (post : Int32 → Prop) (p0 p1 : Int32) (gF nY : Nat → Int32) : Prop := vp_in p0 16 ∧ (∀ v_1 : Int32, v_1 = gF p0.toNatClampNeg → vp_in p1 8 ∧ ((v_1 ≤ (nY p1.toNatClampNeg) → post 0) ∧ (¬ v_1 ≤ (nY p1.toNatClampNeg) → vp_in p0 16 ∧ (∀ v_2 : Int32, v_2 = gF p0.toNatClampNeg → vp_in p1 8 ∧ (∀ v_3 : Int32, v_3 = v_2 - (nY p1.toNatClampNeg) → post v_3)))))
set_option maxHeartbeats 4000000 in
set_option maxRecDepth 100000 in
theorem c_X3_above (l : Launch) (dC : Nat → ClassId) (dI : Nat → Nat → Nat) (cI cC cZ cB cJ : ClassId) (wJ tX jE mX pD oO oQ eG sz : Nat) (p0 p1 bZ bD bI aI : Int32) (gF nY : Nat → Int32) (post : Int32 → Prop) (hw : wp_X3_above post p0 p1 gF nY) : Met l yX3_above (gw yX3_above cX3_above 3 (some .int)) rm_X3_above (va_Pc [.ref wJ, .int p0, .int p1] (gPre (dC, dI) (tyl cI cC cZ cB cJ) (wd_X3_above cI cC cZ cB cJ wJ tX jE mX pD oO oQ eG bZ bD bI aI gF nY) sz)) (q_X3_above dC dI cI cC cZ cB cJ (va_A (wd_X3_above cI cC cZ cB cJ wJ tX jE mX pD oO oQ eG bZ bD bI aI gF nY) sz) wJ tX jE mX pD oO oQ eG bZ bD bI aI gF nY post) 0 0 (va_A (wd_X3_above cI cC cZ cB cJ wJ tX jE mX pD oO oQ eG bZ bD bI aI gF nY) sz) := by
  refine g_enter (own := RX3) (dC, dI) (tyl cI cC cZ cB cJ) (wd_X3_above cI cC cZ cB cJ wJ tX jE mX pD oO oQ eG bZ bD bI aI gF nY) sz [.ref wJ, .int p0, .int p1] (fun A => q_X3_above dC dI cI cC cZ cB cJ A wJ tX jE mX pD oO oQ eG bZ bD bI aI gF nY post) pn_RX3 rfl (Nat.le_of_ble_eq_true rfl) ?_
  intro p e s m args below meth c A H locs ls C0 hP hD hS hl
  have hl : lv_has ls 3 [(0, .ref wJ), (1, .int p0), (2, .int p1)] := hl
  obtain ⟨hx, hb, hr, hml, hown, hts, hlocks, hA, hK, hN, tL, tM, hZL, hTL, hZM, hTM, hZX⟩ := id C0
  have hp := hw
  unfold wp_X3_above at hp
  refine lv_aload_n hx hb eX3_above_0.1 rfl (lv_at hl 0 rfl) ?_
  refine va_get (D := (dC, dI)) (ci := 3) (v := .ref jE) (C := RX3) (T := TX3) (N := 11) hx hb hts i_X3 hown hK hP 0 rfl rfl 1 (Nat.le_of_ble_eq_true rfl) (hts _ q_46) (fun _ h9 => h9) rfl eX3_above_0.2.1 ?_
  refine lv_iload_n hx hb eX3_above_0.2.2.1 rfl (lv_at hl 1 rfl) ?_
  have hin := hp.1
  have hp := hp.2
  refine va_iald hx hb hK hP 1 0 rfl rfl hin eX3_above_0.2.2.2.1 ?_
  refine lv_topi (fun v_1 ev_1 => ?_)
  have hp := hp v_1 ev_1
  refine lv_aload_n hx hb eX3_above_0.2.2.2.2.1 rfl (lv_at hl 0 rfl) ?_
  refine va_get (D := (dC, dI)) (ci := 3) (v := .ref oQ) (C := RX3) (T := TX3) (N := 11) hx hb hts i_X3 hown hK hP 0 rfl rfl 5 (Nat.le_of_ble_eq_true rfl) (hts _ q_54) (fun _ h9 => h9) rfl eX3_above_0.2.2.2.2.2.1 ?_
  refine lv_iload_n hx hb eX3_above_0.2.2.2.2.2.2.1 rfl (lv_at hl 2 rfl) ?_
  have hin := hp.1
  have hp := hp.2
  refine va_iald hx hb hK hP 2 0 rfl rfl hin eX3_above_0.2.2.2.2.2.2.2.1 ?_
  refine lv_icmp_le (tgt := 31) hx hb eX3_above_0.2.2.2.2.2.2.2.2.1 (by decide) (fun hc => ?_) (fun hc => ?_)
  · have hp := hp.1 hc
    refine lv_iconst (v := 0) hx hb eX3_above_26.2.2.2.1 ic_0 ?_
    exact W.iret (v := 0) hx hb hr (fun t ht hW => ⟨⟨0, (), rfl, hp, by rw [ht]; exact hP, va_K.moved hW.alike hK, hD⟩, hS.F ht⟩) hS.2.2 eX3_above_26.2.2.2.2
  · have hp := hp.2 hc
    refine lv_aload_n hx hb eX3_above_0.2.2.2.2.2.2.2.2.2.1 rfl (lv_at hl 0 rfl) ?_
    refine va_get (D := (dC, dI)) (ci := 3) (v := .ref jE) (C := RX3) (T := TX3) (N := 11) hx hb hts i_X3 hown hK hP 0 rfl rfl 1 (Nat.le_of_ble_eq_true rfl) (hts _ q_46) (fun _ h9 => h9) rfl eX3_above_0.2.2.2.2.2.2.2.2.2.2.1 ?_
    refine lv_iload_n hx hb eX3_above_0.2.2.2.2.2.2.2.2.2.2.2.1 rfl (lv_at hl 1 rfl) ?_
    have hin := hp.1
    have hp := hp.2
    refine va_iald hx hb hK hP 1 0 rfl rfl hin eX3_above_0.2.2.2.2.2.2.2.2.2.2.2.2.1 ?_
    refine lv_topi (fun v_2 ev_2 => ?_)
    have hp := hp v_2 ev_2
    refine lv_aload_n hx hb eX3_above_0.2.2.2.2.2.2.2.2.2.2.2.2.2.1 rfl (lv_at hl 0 rfl) ?_
    refine va_get (D := (dC, dI)) (ci := 3) (v := .ref oQ) (C := RX3) (T := TX3) (N := 11) hx hb hts i_X3 hown hK hP 0 rfl rfl 5 (Nat.le_of_ble_eq_true rfl) (hts _ q_54) (fun _ h9 => h9) rfl eX3_above_0.2.2.2.2.2.2.2.2.2.2.2.2.2.2.1 ?_
    refine lv_iload_n hx hb eX3_above_0.2.2.2.2.2.2.2.2.2.2.2.2.2.2.2 rfl (lv_at hl 2 rfl) ?_
    have hin := hp.1
    have hp := hp.2
    refine va_iald hx hb hK hP 2 0 rfl rfl hin eX3_above_26.1 ?_
    refine lv_isub hx hb eX3_above_26.2.1 ?_
    refine lv_topi (fun v_3 ev_3 => ?_)
    have hp := hp v_3 ev_3
    refine lv_goto (tgt := 32) hx hb eX3_above_26.2.2.1 (by decide) ?_
    exact W.iret (v := v_3) hx hb hr (fun t ht hW => ⟨⟨v_3, (), rfl, hp, by rw [ht]; exact hP, va_K.moved hW.alike hK, hD⟩, hS.F ht⟩) hS.2.2 eX3_above_26.2.2.2.2
noncomputable abbrev wd_X3_isWithin (cI cC cZ cB cJ : ClassId) (wJ tX jE mX pD oO oQ eG : Nat) (bZ bD bI aI : Int32) (wD gF nJ nY : Nat → Int32) : va_W := [(wJ, .inr (3, [.ref tX, .ref jE, .ref mX, .ref pD, .ref oO, .ref oQ, .ref eG, .int bZ, .int bD, .int bI, .int aI])), (tX, .inl (cI, 16, .inl wD)), (jE, .inl (cI, 16, .inl gF)), (oO, .inl (cI, 8, .inl nJ)), (oQ, .inl (cI, 8, .inl nY))]
noncomputable abbrev q_X3_isWithin (dC : Nat → ClassId) (dI : Nat → Nat → Nat) (cI cC cZ cB cJ : ClassId) (A : Nat → Prop) (wJ tX jE mX pD oO oQ eG : Nat) (bZ bD bI aI : Int32) (wD gF nJ nY : Nat → Int32) (post : Int32 → Prop) : Array Value → State → Outcome → State → Prop := va_Qi (fun (r : Int32) (u : Unit) => post r) (fun u t => gB (dC, dI) (tyl cI cC cZ cB cJ) A (wd_X3_isWithin cI cC cZ cB cJ wJ tX jE mX pD oO oQ eG bZ bD bI aI wD gF nJ nY) t) A
noncomputable abbrev rm_X3_isWithin : Room := { frames := 1, cells := 0, slots := 0, locals := 22 }
noncomputable def wp_X3_isWithin (post : Int32 → Prop) (p0 p1 p2 : Int32) (wD gF nJ nY : Nat → Int32) : Prop := wp_X3_aside (fun r_1 => wp_X3_above (fun r_2 => ∀ v_3 : Int32, v_3 = r_1 * r_1 → ∀ v_4 : Int32, v_4 = v_3 + (r_2 * r_2) → ((p2 * p2) < v_4 → post 0) ∧ (¬ (p2 * p2) < v_4 → post 1)) p0 p1 gF nY) p0 p1 wD nJ
set_option maxHeartbeats 4000000 in
set_option maxRecDepth 100000 in
theorem c_X3_isWithin (l : Launch) (dC : Nat → ClassId) (dI : Nat → Nat → Nat) (cI cC cZ cB cJ : ClassId) (wJ tX jE mX pD oO oQ eG sz : Nat) (p0 p1 p2 bZ bD bI aI : Int32) (wD gF nJ nY : Nat → Int32) (post : Int32 → Prop) (hw : wp_X3_isWithin post p0 p1 p2 wD gF nJ nY) : Met l yX3_isWithin (gw yX3_isWithin cX3_isWithin 6 (some .boolean)) rm_X3_isWithin (va_Pc [.ref wJ, .int p0, .int p1, .int p2] (gPre (dC, dI) (tyl cI cC cZ cB cJ) (wd_X3_isWithin cI cC cZ cB cJ wJ tX jE mX pD oO oQ eG bZ bD bI aI wD gF nJ nY) sz)) (q_X3_isWithin dC dI cI cC cZ cB cJ (va_A (wd_X3_isWithin cI cC cZ cB cJ wJ tX jE mX pD oO oQ eG bZ bD bI aI wD gF nJ nY) sz) wJ tX jE mX pD oO oQ eG bZ bD bI aI wD gF nJ nY post) 0 0 (va_A (wd_X3_isWithin cI cC cZ cB cJ wJ tX jE mX pD oO oQ eG bZ bD bI aI wD gF nJ nY) sz) := by
  refine g_enter (own := RX3) (dC, dI) (tyl cI cC cZ cB cJ) (wd_X3_isWithin cI cC cZ cB cJ wJ tX jE mX pD oO oQ eG bZ bD bI aI wD gF nJ nY) sz [.ref wJ, .int p0, .int p1, .int p2] (fun A => q_X3_isWithin dC dI cI cC cZ cB cJ A wJ tX jE mX pD oO oQ eG bZ bD bI aI wD gF nJ nY post) pn_RX3 rfl (Nat.le_of_ble_eq_true rfl) ?_
  intro p e s m args below meth c A H locs ls C0 hP hD hS hl
  have hl : lv_has ls 6 [(0, .ref wJ), (1, .int p0), (2, .int p1), (3, .int p2)] := hl
  obtain ⟨hx, hb, hr, hml, hown, hts, hlocks, hA, hK, hN, tL, tM, hZL, hTL, hZM, hTM, hZX⟩ := id C0
  have hp := hw
  unfold wp_X3_isWithin at hp
  refine lv_aload_n hx hb eX3_isWithin_0.1 rfl (lv_at hl 0 rfl) ?_
  refine lv_iload_n hx hb eX3_isWithin_0.2.1 rfl (lv_at hl 1 rfl) ?_
  refine lv_iload_n hx hb eX3_isWithin_0.2.2.1 rfl (lv_at hl 2 rfl) ?_
  have hm := mgk (wc := (wd_X3_aside cI cC cZ cB cJ wJ tX jE mX pD oO oQ eG bZ bD bI aI wD nJ)) hP mk_47 5 rfl rfl rfl
  refine g_calli hP hD hS hA (mixT mk_47) (mixF mk_47) hm.1 hm.2 (nd_F _) (dis_g _) (g_runV (As := [.int p0, .int p1]) (rest := []) C0 hP hD hS (mixT mk_47) hm.1 (nd_T _) 0 3 rfl rfl (c_X3_aside l dC dI cI cC cZ cB cJ wJ tX jE mX pD oO oQ eG H.size p0 p1 bZ bD bI aI wD nJ _ hp) q_267 q_270 q_268 q_269 q_48 h_X3_aside rfl rfl ⟨Nat.le_of_ble_eq_true rfl, Nat.le_of_ble_eq_true rfl⟩ rfl rfl hl.1 rfl (lv_room (Nat.le_of_ble_eq_true rfl)) eX3_isWithin_0.2.2.2.1 ⟨Nat.zero_le _, Nat.zero_le _⟩) (fun r_1 u H locs hp hP hD hS => ?_)
  have hPD := PDm (ws' := (wd_X3_isWithin cI cC cZ cB cJ wJ tX jE mX pD oO oQ eG bZ bD bI aI wD gF nJ nY)) hP hD 5 rfl rfl rfl
  have hP := hPD.1
  have hD := hPD.2
  refine lv_istore (lv' := [(4, .int r_1), (0, .ref wJ), (1, .int p0), (2, .int p1), (3, .int p2)]) hx hb eX3_isWithin_0.2.2.2.2.1 hl (by decide) rfl (fun ls hl => ?_)
  refine lv_aload_n hx hb eX3_isWithin_0.2.2.2.2.2.1 rfl (lv_at hl 1 rfl) ?_
  refine lv_iload_n hx hb eX3_isWithin_0.2.2.2.2.2.2.1 rfl (lv_at hl 2 rfl) ?_
  refine lv_iload_n hx hb eX3_isWithin_0.2.2.2.2.2.2.2.1 rfl (lv_at hl 3 rfl) ?_
  have hm := mgk (wc := (wd_X3_above cI cC cZ cB cJ wJ tX jE mX pD oO oQ eG bZ bD bI aI gF nY)) hP mk_48 5 rfl rfl rfl
  refine g_calli hP hD hS hA (mixT mk_48) (mixF mk_48) hm.1 hm.2 (nd_F _) (dis_g _) (g_runV (As := [.int p0, .int p1]) (rest := []) C0 hP hD hS (mixT mk_48) hm.1 (nd_T _) 0 3 rfl rfl (c_X3_above l dC dI cI cC cZ cB cJ wJ tX jE mX pD oO oQ eG H.size p0 p1 bZ bD bI aI gF nY _ hp) q_271 q_274 q_272 q_273 q_48 h_X3_above rfl rfl ⟨Nat.le_of_ble_eq_true rfl, Nat.le_of_ble_eq_true rfl⟩ rfl rfl hl.1 rfl (lv_room (Nat.le_of_ble_eq_true rfl)) eX3_isWithin_0.2.2.2.2.2.2.2.2.1 ⟨Nat.zero_le _, Nat.zero_le _⟩) (fun r_2 u H locs hp hP hD hS => ?_)
  have hPD := PDm (ws' := (wd_X3_isWithin cI cC cZ cB cJ wJ tX jE mX pD oO oQ eG bZ bD bI aI wD gF nJ nY)) hP hD 5 rfl rfl rfl
  have hP := hPD.1
  have hD := hPD.2
  refine lv_istore (lv' := [(5, .int r_2), (4, .int r_1), (0, .ref wJ), (1, .int p0), (2, .int p1), (3, .int p2)]) hx hb eX3_isWithin_0.2.2.2.2.2.2.2.2.2.1 hl (by decide) rfl (fun ls hl => ?_)
  refine lv_iload hx hb eX3_isWithin_0.2.2.2.2.2.2.2.2.2.2.1 (lv_at hl 1 rfl) ?_
  refine lv_iload hx hb eX3_isWithin_0.2.2.2.2.2.2.2.2.2.2.2.1 (lv_at hl 1 rfl) ?_
  refine lv_imul hx hb eX3_isWithin_0.2.2.2.2.2.2.2.2.2.2.2.2.1 ?_
  refine lv_topi (fun v_3 ev_3 => ?_)
  have hp := hp v_3 ev_3
  refine lv_iload hx hb eX3_isWithin_0.2.2.2.2.2.2.2.2.2.2.2.2.2.1 (lv_at hl 0 rfl) ?_
  refine lv_iload hx hb eX3_isWithin_0.2.2.2.2.2.2.2.2.2.2.2.2.2.2.1 (lv_at hl 0 rfl) ?_
  refine lv_imul hx hb eX3_isWithin_0.2.2.2.2.2.2.2.2.2.2.2.2.2.2.2 ?_
  refine lv_iadd hx hb eX3_isWithin_26.1 ?_
  refine lv_topi (fun v_4 ev_4 => ?_)
  have hp := hp v_4 ev_4
  refine lv_iload_n hx hb eX3_isWithin_26.2.1 rfl (lv_at hl 5 rfl) ?_
  refine lv_iload_n hx hb eX3_isWithin_26.2.2.1 rfl (lv_at hl 5 rfl) ?_
  refine lv_imul hx hb eX3_isWithin_26.2.2.2.1 ?_
  refine lv_icmp_gt (tgt := 37) hx hb eX3_isWithin_26.2.2.2.2.1 (by decide) (fun hc => ?_) (fun hc => ?_)
  · have hp := hp.1 hc
    refine lv_iconst (v := 0) hx hb eX3_isWithin_26.2.2.2.2.2.2.2.1 ic_0 ?_
    exact W.zret (v := 0) hx hb hr rfl (fun t ht hW => ⟨⟨0, (), rfl, hp, by rw [ht]; exact hP, va_K.moved hW.alike hK, hD⟩, hS.F ht⟩) hS.2.2 eX3_isWithin_26.2.2.2.2.2.2.2.2
  · have hp := hp.2 hc
    refine lv_iconst (v := 1) hx hb eX3_isWithin_26.2.2.2.2.2.1 ic_1 ?_
    refine lv_goto (tgt := 38) hx hb eX3_isWithin_26.2.2.2.2.2.2.1 (by decide) ?_
    exact W.zret (v := 1) hx hb hr rfl (fun t ht hW => ⟨⟨1, (), rfl, hp, by rw [ht]; exact hP, va_K.moved hW.alike hK, hD⟩, hS.F ht⟩) hS.2.2 eX3_isWithin_26.2.2.2.2.2.2.2.2
noncomputable abbrev wd_J6_bitCount_0f7a4 (cI cC cZ cB cJ : ClassId) : va_W := []
noncomputable abbrev q_J6_bitCount_0f7a4 (dC : Nat → ClassId) (dI : Nat → Nat → Nat) (cI cC cZ cB cJ : ClassId) (A : Nat → Prop) (post : Int32 → Prop) : Array Value → State → Outcome → State → Prop := va_Qi (fun (r : Int32) (u : Unit) => post r) (fun u t => gB (dC, dI) (tyl cI cC cZ cB cJ) A (wd_J6_bitCount_0f7a4 cI cC cZ cB cJ) t) A
noncomputable abbrev rm_J6_bitCount_0f7a4 : Room := { frames := 0, cells := 0, slots := 0, locals := 0 }
noncomputable def wp_J6_bitCount_0f7a4 (post : Int32 → Prop) (p0 : Int32) : Prop := ∀ v_1 : Int32, v_1 = (p0.toUInt32 >>> ((1 : Int32).toUInt32 &&& Int32.toUInt32 31)).toInt32 → ∀ v_2 : Int32, v_2 = p0 - (v_1 &&& 1431655765) → ∀ v_3 : Int32, v_3 = v_2 &&& 858993459 → ∀ v_4 : Int32, v_4 = (v_2.toUInt32 >>> ((2 : Int32).toUInt32 &&& Int32.toUInt32 31)).toInt32 → ∀ v_5 : Int32, v_5 = v_3 + (v_4 &&& 858993459) → ∀ v_6 : Int32, v_6 = v_5 + ((v_5.toUInt32 >>> ((4 : Int32).toUInt32 &&& Int32.toUInt32 31)).toInt32) → ∀ v_7 : Int32, v_7 = v_6 &&& 252645135 → ∀ v_8 : Int32, v_8 = v_7 + ((v_7.toUInt32 >>> ((8 : Int32).toUInt32 &&& Int32.toUInt32 31)).toInt32) → ∀ v_9 : Int32, v_9 = v_8 + ((v_8.toUInt32 >>> ((16 : Int32).toUInt32 &&& Int32.toUInt32 31)).toInt32) → post (v_9 &&& 63)
set_option maxHeartbeats 4000000 in
set_option maxRecDepth 100000 in
theorem c_J6_bitCount_0f7a4 (l : Launch) (dC : Nat → ClassId) (dI : Nat → Nat → Nat) (cI cC cZ cB cJ : ClassId) (sz : Nat) (p0 : Int32) (post : Int32 → Prop) (hw : wp_J6_bitCount_0f7a4 post p0) : Met l yJ6_bitCount_0f7a4 (gw yJ6_bitCount_0f7a4 cJ6_bitCount_0f7a4 1 (some .int)) rm_J6_bitCount_0f7a4 (va_Pc [.int p0] (gPre (dC, dI) (tyl cI cC cZ cB cJ) (wd_J6_bitCount_0f7a4 cI cC cZ cB cJ) sz)) (q_J6_bitCount_0f7a4 dC dI cI cC cZ cB cJ (va_A (wd_J6_bitCount_0f7a4 cI cC cZ cB cJ) sz) post) 0 0 (va_A (wd_J6_bitCount_0f7a4 cI cC cZ cB cJ) sz) := by
  refine g_enter (own := RJ6) (dC, dI) (tyl cI cC cZ cB cJ) (wd_J6_bitCount_0f7a4 cI cC cZ cB cJ) sz [.int p0] (fun A => q_J6_bitCount_0f7a4 dC dI cI cC cZ cB cJ A post) (by decide) rfl (Nat.le_of_ble_eq_true rfl) ?_
  intro p e s m args below meth c A H locs ls C0 hP hD hS hl
  have hl : lv_has ls 1 [(0, .int p0)] := hl
  obtain ⟨hx, hb, hr, hml, hown, hts, hlocks, hA, hK, hN, tL, tM, hZL, hTL, hZM, hTM, hZX⟩ := id C0
  have hp := hw
  unfold wp_J6_bitCount_0f7a4 at hp
  refine lv_iload_n hx hb eJ6_bitCount_0f7a4_0.1 rfl (lv_at hl 0 rfl) ?_
  refine lv_iload_n hx hb eJ6_bitCount_0f7a4_0.2.1 rfl (lv_at hl 0 rfl) ?_
  refine lv_iconst (v := 1) hx hb eJ6_bitCount_0f7a4_0.2.2.1 ic_1 ?_
  refine lv_iushr hx hb eJ6_bitCount_0f7a4_0.2.2.2.1 rfl ?_
  refine lv_topi (fun v_1 ev_1 => ?_)
  have hp := hp v_1 ev_1
  refine lv_ldcw (v := 1431655765) hx hb hown (hts _ q_275) eJ6_bitCount_0f7a4_0.2.2.2.2.1 ?_
  refine lv_iand hx hb eJ6_bitCount_0f7a4_0.2.2.2.2.2.1 ?_
  refine lv_isub hx hb eJ6_bitCount_0f7a4_0.2.2.2.2.2.2.1 ?_
  refine lv_topi (fun v_2 ev_2 => ?_)
  have hp := hp v_2 ev_2
  refine lv_istore_n (lv' := [(0, .int v_2)]) hx hb eJ6_bitCount_0f7a4_0.2.2.2.2.2.2.2.1 rfl hl (by decide) rfl (fun ls hl => ?_)
  refine lv_iload_n hx hb eJ6_bitCount_0f7a4_0.2.2.2.2.2.2.2.2.1 rfl (lv_at hl 0 rfl) ?_
  refine lv_ldcw (v := 858993459) hx hb hown (hts _ q_276) eJ6_bitCount_0f7a4_0.2.2.2.2.2.2.2.2.2.1 ?_
  refine lv_iand hx hb eJ6_bitCount_0f7a4_0.2.2.2.2.2.2.2.2.2.2.1 ?_
  refine lv_topi (fun v_3 ev_3 => ?_)
  have hp := hp v_3 ev_3
  refine lv_iload_n hx hb eJ6_bitCount_0f7a4_0.2.2.2.2.2.2.2.2.2.2.2.1 rfl (lv_at hl 0 rfl) ?_
  refine lv_iconst (v := 2) hx hb eJ6_bitCount_0f7a4_0.2.2.2.2.2.2.2.2.2.2.2.2.1 ic_2 ?_
  refine lv_iushr hx hb eJ6_bitCount_0f7a4_0.2.2.2.2.2.2.2.2.2.2.2.2.2.1 rfl ?_
  refine lv_topi (fun v_4 ev_4 => ?_)
  have hp := hp v_4 ev_4
  refine lv_ldcw (v := 858993459) hx hb hown (hts _ q_276) eJ6_bitCount_0f7a4_0.2.2.2.2.2.2.2.2.2.2.2.2.2.2.1 ?_
  refine lv_iand hx hb eJ6_bitCount_0f7a4_0.2.2.2.2.2.2.2.2.2.2.2.2.2.2.2 ?_
  refine lv_iadd hx hb eJ6_bitCount_0f7a4_22.1 ?_
  refine lv_topi (fun v_5 ev_5 => ?_)
  have hp := hp v_5 ev_5
  refine lv_istore_n (lv' := [(0, .int v_5)]) hx hb eJ6_bitCount_0f7a4_22.2.1 rfl hl (by decide) rfl (fun ls hl => ?_)
  refine lv_iload_n hx hb eJ6_bitCount_0f7a4_22.2.2.1 rfl (lv_at hl 0 rfl) ?_
  refine lv_iload_n hx hb eJ6_bitCount_0f7a4_22.2.2.2.1 rfl (lv_at hl 0 rfl) ?_
  refine lv_iconst (v := 4) hx hb eJ6_bitCount_0f7a4_22.2.2.2.2.1 ic_4 ?_
  refine lv_iushr hx hb eJ6_bitCount_0f7a4_22.2.2.2.2.2.1 rfl ?_
  refine lv_iadd hx hb eJ6_bitCount_0f7a4_22.2.2.2.2.2.2.1 ?_
  refine lv_topi (fun v_6 ev_6 => ?_)
  have hp := hp v_6 ev_6
  refine lv_ldcw (v := 252645135) hx hb hown (hts _ q_277) eJ6_bitCount_0f7a4_22.2.2.2.2.2.2.2.1 ?_
  refine lv_iand hx hb eJ6_bitCount_0f7a4_22.2.2.2.2.2.2.2.2.1 ?_
  refine lv_topi (fun v_7 ev_7 => ?_)
  have hp := hp v_7 ev_7
  refine lv_istore_n (lv' := [(0, .int v_7)]) hx hb eJ6_bitCount_0f7a4_22.2.2.2.2.2.2.2.2.2.1 rfl hl (by decide) rfl (fun ls hl => ?_)
  refine lv_iload_n hx hb eJ6_bitCount_0f7a4_22.2.2.2.2.2.2.2.2.2.2.1 rfl (lv_at hl 0 rfl) ?_
  refine lv_iload_n hx hb eJ6_bitCount_0f7a4_22.2.2.2.2.2.2.2.2.2.2.2.1 rfl (lv_at hl 0 rfl) ?_
  refine lv_bipush (v := 8) hx hb eJ6_bitCount_0f7a4_22.2.2.2.2.2.2.2.2.2.2.2.2.1 bp_8 ?_
  refine lv_iushr hx hb eJ6_bitCount_0f7a4_22.2.2.2.2.2.2.2.2.2.2.2.2.2.1 rfl ?_
  refine lv_iadd hx hb eJ6_bitCount_0f7a4_22.2.2.2.2.2.2.2.2.2.2.2.2.2.2.1 ?_
  refine lv_topi (fun v_8 ev_8 => ?_)
  have hp := hp v_8 ev_8
  refine lv_istore_n (lv' := [(0, .int v_8)]) hx hb eJ6_bitCount_0f7a4_22.2.2.2.2.2.2.2.2.2.2.2.2.2.2.2 rfl hl (by decide) rfl (fun ls hl => ?_)
  refine lv_iload_n hx hb eJ6_bitCount_0f7a4_41.1 rfl (lv_at hl 0 rfl) ?_
  refine lv_iload_n hx hb eJ6_bitCount_0f7a4_41.2.1 rfl (lv_at hl 0 rfl) ?_
  refine lv_bipush (v := 16) hx hb eJ6_bitCount_0f7a4_41.2.2.1 bp_16 ?_
  refine lv_iushr hx hb eJ6_bitCount_0f7a4_41.2.2.2.1 rfl ?_
  refine lv_iadd hx hb eJ6_bitCount_0f7a4_41.2.2.2.2.1 ?_
  refine lv_topi (fun v_9 ev_9 => ?_)
  have hp := hp v_9 ev_9
  refine lv_istore_n (lv' := [(0, .int v_9)]) hx hb eJ6_bitCount_0f7a4_41.2.2.2.2.2.1 rfl hl (by decide) rfl (fun ls hl => ?_)
  refine lv_iload_n hx hb eJ6_bitCount_0f7a4_41.2.2.2.2.2.2.1 rfl (lv_at hl 0 rfl) ?_
  refine lv_bipush (v := 63) hx hb eJ6_bitCount_0f7a4_41.2.2.2.2.2.2.2.1 bp_63 ?_
  refine lv_iand hx hb eJ6_bitCount_0f7a4_41.2.2.2.2.2.2.2.2.1 ?_
  exact W.iret (v := v_9 &&& 63) hx hb hr (fun t ht hW => ⟨⟨v_9 &&& 63, (), rfl, hp, by rw [ht]; exact hP, va_K.moved hW.alike hK, hD⟩, hS.F ht⟩) hS.2.2 eJ6_bitCount_0f7a4_41.2.2.2.2.2.2.2.2.2
noncomputable abbrev wd_X3_worthOf (cI cC cZ cB cJ : ClassId) (wJ tX jE mX pD oO oQ eG : Nat) (bZ bD bI aI : Int32) (pE : Nat → Int32) : va_W := [(wJ, .inr (3, [.ref tX, .ref jE, .ref mX, .ref pD, .ref oO, .ref oQ, .ref eG, .int bZ, .int bD, .int bI, .int aI])), (mX, .inl (cI, 16, .inl pE))]
noncomputable abbrev q_X3_worthOf (dC : Nat → ClassId) (dI : Nat → Nat → Nat) (cI cC cZ cB cJ : ClassId) (A : Nat → Prop) (wJ tX jE mX pD oO oQ eG : Nat) (bZ bD bI aI : Int32) (pE : Nat → Int32) (post : Int32 → Prop) : Array Value → State → Outcome → State → Prop := va_Qi (fun (r : Int32) (u : Unit) => post r) (fun u t => gB (dC, dI) (tyl cI cC cZ cB cJ) A (wd_X3_worthOf cI cC cZ cB cJ wJ tX jE mX pD oO oQ eG bZ bD bI aI pE) t) A
noncomputable abbrev rm_X3_worthOf : Room := { frames := 0, cells := 0, slots := 0, locals := 0 }
section S_X3_worthOf
variable {p : Program} {l : Launch} {e : Env} {s : State} {m : MethodId} {args : Array Value} {below : List Frame} {meth : Method} {c : Code} {dC : Nat → ClassId} {dI : Nat → Nat → Nat} {cI cC cZ cB cJ : ClassId} {A : Nat → Prop} {wJ tX jE mX pD oO oQ eG : Nat} {bZ bD bI aI : Int32} {pE : Nat → Int32} {post : Int32 → Prop}
noncomputable def ws_X3_worthOf_54 (post : Int32 → Prop) (K5 : Int32 → Int32 → Int32 → Int32 → Prop) (bZ : Int32) (pE : Nat → Int32) (x1 x2 x3 x4 : Int32) : Prop := ∀ v_2 : Int32, v_2 = x4 + 1 → K5 x1 x2 x3 v_2
set_option maxHeartbeats 4000000 in
set_option maxRecDepth 100000 in
theorem ks_X3_worthOf_54 (C0 : gc cX3_worthOf (some .int) 5 RX3 (dC, dI) (tyl cI cC cZ cB cJ) A p s m args meth c) {K5 : Int32 → Int32 → Int32 → Int32 → Prop} (hK5 : ∀ (x1 : Int32) (x2 : Int32) (x3 : Int32) (x4 : Int32) (H : Heap) (locs : List Loc) (ls : Array Slot), K5 x1 x2 x3 x4 → va_P (dC, dI) classes (wd_X3_worthOf cI cC cZ cB cJ wJ tX jE mX pD oO oQ eG bZ bD bI aI pE) H → va_D A (wd_X3_worthOf cI cC cZ cB cJ wJ tX jE mX pD oO oQ eG bZ bD bI aI pE) → va_S A s.heap H locs → lv_has ls 5 [(0, .ref wJ), (1, .int x1), (2, .int x2), (3, .int x3), (4, .int x4)] → W p l e rm_X3_worthOf s m args below meth c H locs 0 0 (MQ below (q_X3_worthOf dC dI cI cC cZ cB cJ A wJ tX jE mX pD oO oQ eG bZ bD bI aI pE post) args s 0 0 A) (F0 m 5 ls [])) : ∀ (x1 x2 x3 x4 : Int32) (H : Heap) (locs : List Loc) (ls : Array Slot), (ws_X3_worthOf_54 post K5 bZ pE) x1 x2 x3 x4 → va_P (dC, dI) classes (wd_X3_worthOf cI cC cZ cB cJ wJ tX jE mX pD oO oQ eG bZ bD bI aI pE) H → va_D A (wd_X3_worthOf cI cC cZ cB cJ wJ tX jE mX pD oO oQ eG bZ bD bI aI pE) → va_S A s.heap H locs → lv_has ls 5 [(0, .ref wJ), (1, .int x1), (2, .int x2), (3, .int x3), (4, .int x4)] → W p l e rm_X3_worthOf s m args below meth c H locs 0 0 (MQ below (q_X3_worthOf dC dI cI cC cZ cB cJ A wJ tX jE mX pD oO oQ eG bZ bD bI aI pE post) args s 0 0 A) (F0 m 54 ls []) := by
  obtain ⟨hx, hb, hr, hml, hown, hts, hlocks, hA, hK, hN, tL, tM, hZL, hTL, hZM, hTM, hZX⟩ := id C0
  intro x1 x2 x3 x4 H locs ls hp hP hD hS hl
  unfold ws_X3_worthOf_54 at hp
  obtain ⟨v_2, ev_2⟩ : ∃ y : Int32, y = x4 + 1 := ⟨_, rfl⟩
  refine lv_iinc (v := v_2) (lv' := [(4, .int v_2), (0, .ref wJ), (1, .int x1), (2, .int x2), (3, .int x3)]) hx hb eX3_worthOf_52.2.2.1 hl (k := 4) rfl (by rw [ev_2]; rfl) (by decide) rfl (fun ls hl => ?_)
  have hp := hp v_2 ev_2
  refine lv_goto (tgt := 5) hx hb eX3_worthOf_52.2.2.2.1 (by decide) ?_
  exact hK5 x1 x2 x3 v_2 H locs ls hp hP hD hS (lv_sub hl [1, 2, 3, 4, 0] rfl)
noncomputable def ws_X3_worthOf_52 (post : Int32 → Prop) (K5 : Int32 → Int32 → Int32 → Int32 → Prop) (bZ : Int32) (pE : Nat → Int32) (x1 x2 x4 k0 k1 : Int32) : Prop := ∀ v_5 : Int32, v_5 = k0 + k1 → ws_X3_worthOf_54 post K5 bZ pE x1 x2 v_5 x4
set_option maxHeartbeats 4000000 in
set_option maxRecDepth 100000 in
theorem ks_X3_worthOf_52 (C0 : gc cX3_worthOf (some .int) 5 RX3 (dC, dI) (tyl cI cC cZ cB cJ) A p s m args meth c) {K5 : Int32 → Int32 → Int32 → Int32 → Prop} (hK5 : ∀ (x1 : Int32) (x2 : Int32) (x3 : Int32) (x4 : Int32) (H : Heap) (locs : List Loc) (ls : Array Slot), K5 x1 x2 x3 x4 → va_P (dC, dI) classes (wd_X3_worthOf cI cC cZ cB cJ wJ tX jE mX pD oO oQ eG bZ bD bI aI pE) H → va_D A (wd_X3_worthOf cI cC cZ cB cJ wJ tX jE mX pD oO oQ eG bZ bD bI aI pE) → va_S A s.heap H locs → lv_has ls 5 [(0, .ref wJ), (1, .int x1), (2, .int x2), (3, .int x3), (4, .int x4)] → W p l e rm_X3_worthOf s m args below meth c H locs 0 0 (MQ below (q_X3_worthOf dC dI cI cC cZ cB cJ A wJ tX jE mX pD oO oQ eG bZ bD bI aI pE post) args s 0 0 A) (F0 m 5 ls [])) : ∀ (x1 x2 x4 k0 k1 : Int32) (H : Heap) (locs : List Loc) (ls : Array Slot), (ws_X3_worthOf_52 post K5 bZ pE) x1 x2 x4 k0 k1 → va_P (dC, dI) classes (wd_X3_worthOf cI cC cZ cB cJ wJ tX jE mX pD oO oQ eG bZ bD bI aI pE) H → va_D A (wd_X3_worthOf cI cC cZ cB cJ wJ tX jE mX pD oO oQ eG bZ bD bI aI pE) → va_S A s.heap H locs → lv_has ls 5 [(0, .ref wJ), (1, .int x1), (2, .int x2), (4, .int x4)] → W p l e rm_X3_worthOf s m args below meth c H locs 0 0 (MQ below (q_X3_worthOf dC dI cI cC cZ cB cJ A wJ tX jE mX pD oO oQ eG bZ bD bI aI pE post) args s 0 0 A) (F0 m 52 ls [.int k1, .int k0]) := by
  obtain ⟨hx, hb, hr, hml, hown, hts, hlocks, hA, hK, hN, tL, tM, hZL, hTL, hZM, hTM, hZX⟩ := id C0
  intro x1 x2 x4 k0 k1 H locs ls hp hP hD hS hl
  unfold ws_X3_worthOf_52 at hp
  refine lv_iadd hx hb eX3_worthOf_52.1 ?_
  refine lv_topi (fun v_5 ev_5 => ?_)
  have hp := hp v_5 ev_5
  refine lv_istore_n (lv' := [(3, .int v_5), (0, .ref wJ), (1, .int x1), (2, .int x2), (4, .int x4)]) hx hb eX3_worthOf_52.2.1 rfl hl (by decide) rfl (fun ls hl => ?_)
  exact ks_X3_worthOf_54 C0 hK5 x1 x2 v_5 x4 H locs ls hp hP hD hS (lv_sub hl [1, 2, 3, 0, 4] rfl)
noncomputable def ws_X3_worthOf_5 (post : Int32 → Prop) (next : Int32 → Int32 → Int32 → Int32 → Prop) (bZ : Int32) (pE : Nat → Int32) (x1 x2 x3 x4 : Int32) : Prop := (bZ ≤ x4 → post x3) ∧ (¬ bZ ≤ x4 → ∀ v_1 : Int32, v_1 = x1 >>> (x4 &&& 31) → ((v_1 &&& 1) = 0 → ws_X3_worthOf_54 post next bZ pE x1 x2 x3 x4) ∧ (¬ (v_1 &&& 1) = 0 → ∀ v_3 : Int32, v_3 = x2 >>> (x4 &&& 31) → ((v_3 &&& 1) = 0 → vp_in x4 16 ∧ (∀ v_4 : Int32, v_4 = pE x4.toNatClampNeg → ws_X3_worthOf_52 post next bZ pE x1 x2 x4 x3 v_4)) ∧ (¬ (v_3 &&& 1) = 0 → vp_in x4 16 ∧ (∀ v_6 : Int32, v_6 = pE x4.toNatClampNeg → ∀ v_7 : Int32, v_7 = v_6 / 2 → ws_X3_worthOf_52 post next bZ pE x1 x2 x4 x3 v_7))))
noncomputable def wb_X3_worthOf_5 (post : Int32 → Prop) (bZ : Int32) (pE : Nat → Int32) : Nat → Int32 → Int32 → Int32 → Int32 → Prop := fun n => Nat.rec (motive := fun _ => Int32 → Int32 → Int32 → Int32 → Prop) (fun _ _ _ _ => False) (fun _ ih => ws_X3_worthOf_5 post ih bZ pE) n
set_option maxHeartbeats 4000000 in
set_option maxRecDepth 100000 in
theorem ks_X3_worthOf_5 (C0 : gc cX3_worthOf (some .int) 5 RX3 (dC, dI) (tyl cI cC cZ cB cJ) A p s m args meth c) {next : Int32 → Int32 → Int32 → Int32 → Prop} (hKn : ∀ (x1 : Int32) (x2 : Int32) (x3 : Int32) (x4 : Int32) (H : Heap) (locs : List Loc) (ls : Array Slot), next x1 x2 x3 x4 → va_P (dC, dI) classes (wd_X3_worthOf cI cC cZ cB cJ wJ tX jE mX pD oO oQ eG bZ bD bI aI pE) H → va_D A (wd_X3_worthOf cI cC cZ cB cJ wJ tX jE mX pD oO oQ eG bZ bD bI aI pE) → va_S A s.heap H locs → lv_has ls 5 [(0, .ref wJ), (1, .int x1), (2, .int x2), (3, .int x3), (4, .int x4)] → W p l e rm_X3_worthOf s m args below meth c H locs 0 0 (MQ below (q_X3_worthOf dC dI cI cC cZ cB cJ A wJ tX jE mX pD oO oQ eG bZ bD bI aI pE post) args s 0 0 A) (F0 m 5 ls [])) : ∀ (x1 x2 x3 x4 : Int32) (H : Heap) (locs : List Loc) (ls : Array Slot), (ws_X3_worthOf_5 post next bZ pE) x1 x2 x3 x4 → va_P (dC, dI) classes (wd_X3_worthOf cI cC cZ cB cJ wJ tX jE mX pD oO oQ eG bZ bD bI aI pE) H → va_D A (wd_X3_worthOf cI cC cZ cB cJ wJ tX jE mX pD oO oQ eG bZ bD bI aI pE) → va_S A s.heap H locs → lv_has ls 5 [(0, .ref wJ), (1, .int x1), (2, .int x2), (3, .int x3), (4, .int x4)] → W p l e rm_X3_worthOf s m args below meth c H locs 0 0 (MQ below (q_X3_worthOf dC dI cI cC cZ cB cJ A wJ tX jE mX pD oO oQ eG bZ bD bI aI pE post) args s 0 0 A) (F0 m 5 ls []) := by
  obtain ⟨hx, hb, hr, hml, hown, hts, hlocks, hA, hK, hN, tL, tM, hZL, hTL, hZM, hTM, hZX⟩ := id C0
  intro x1 x2 x3 x4 H locs ls hp hP hD hS hl
  unfold ws_X3_worthOf_5 at hp
  refine lv_iload hx hb eX3_worthOf_0.2.2.2.2.1 (lv_at hl 4 rfl) ?_
  refine lv_aload_n hx hb eX3_worthOf_0.2.2.2.2.2.1 rfl (lv_at hl 0 rfl) ?_
  refine va_get (D := (dC, dI)) (ci := 3) (v := .int bZ) (C := RX3) (T := TX3) (N := 11) hx hb hts i_X3 hown hK hP 0 rfl rfl 7 (Nat.le_of_ble_eq_true rfl) (hts _ q_20) (fun _ h9 => h9) rfl eX3_worthOf_0.2.2.2.2.2.2.1 ?_
  refine lv_icmp_ge (tgt := 60) hx hb eX3_worthOf_0.2.2.2.2.2.2.2.1 (by decide) (fun hc => ?_) (fun hc => ?_)
  · have hp := hp.1 hc
    refine lv_iload_n hx hb eX3_worthOf_52.2.2.2.2.1 rfl (lv_at hl 3 rfl) ?_
    exact W.iret (v := x3) hx hb hr (fun t ht hW => ⟨⟨x3, (), rfl, hp, by rw [ht]; exact hP, va_K.moved hW.alike hK, hD⟩, hS.F ht⟩) hS.2.2 eX3_worthOf_52.2.2.2.2.2
  · have hp := hp.2 hc
    refine lv_iload_n hx hb eX3_worthOf_0.2.2.2.2.2.2.2.2.1 rfl (lv_at hl 1 rfl) ?_
    refine lv_iload hx hb eX3_worthOf_0.2.2.2.2.2.2.2.2.2.1 (lv_at hl 4 rfl) ?_
    refine lv_ishr hx hb eX3_worthOf_0.2.2.2.2.2.2.2.2.2.2.1 ?_
    refine lv_topi (fun v_1 ev_1 => ?_)
    have hp := hp v_1 ev_1
    refine lv_iconst (v := 1) hx hb eX3_worthOf_0.2.2.2.2.2.2.2.2.2.2.2.1 ic_1 ?_
    refine lv_iand hx hb eX3_worthOf_0.2.2.2.2.2.2.2.2.2.2.2.2.1 ?_
    refine lv_if_eq (tgt := 54) hx hb eX3_worthOf_0.2.2.2.2.2.2.2.2.2.2.2.2.2.1 (by decide) (fun hc => ?_) (fun hc => ?_)
    · have hp := hp.1 hc
      exact ks_X3_worthOf_54 C0 hKn x1 x2 x3 x4 H locs ls hp hP hD hS (lv_sub hl [0, 1, 2, 3, 4] rfl)
    · have hp := hp.2 hc
      refine lv_iload_n hx hb eX3_worthOf_0.2.2.2.2.2.2.2.2.2.2.2.2.2.2.1 rfl (lv_at hl 3 rfl) ?_
      refine lv_iload_n hx hb eX3_worthOf_0.2.2.2.2.2.2.2.2.2.2.2.2.2.2.2 rfl (lv_at hl 2 rfl) ?_
      refine lv_iload hx hb eX3_worthOf_25.1 (lv_at hl 4 rfl) ?_
      refine lv_ishr hx hb eX3_worthOf_25.2.1 ?_
      refine lv_topi (fun v_3 ev_3 => ?_)
      have hp := hp v_3 ev_3
      refine lv_iconst (v := 1) hx hb eX3_worthOf_25.2.2.1 ic_1 ?_
      refine lv_iand hx hb eX3_worthOf_25.2.2.2.1 ?_
      refine lv_if_eq (tgt := 45) hx hb eX3_worthOf_25.2.2.2.2.1 (by decide) (fun hc => ?_) (fun hc => ?_)
      · have hp := hp.1 hc
        refine lv_aload_n hx hb eX3_worthOf_25.2.2.2.2.2.2.2.2.2.2.2.2.1 rfl (lv_at hl 0 rfl) ?_
        refine va_get (D := (dC, dI)) (ci := 3) (v := .ref mX) (C := RX3) (T := TX3) (N := 11) hx hb hts i_X3 hown hK hP 0 rfl rfl 2 (Nat.le_of_ble_eq_true rfl) (hts _ q_51) (fun _ h9 => h9) rfl eX3_worthOf_25.2.2.2.2.2.2.2.2.2.2.2.2.2.1 ?_
        refine lv_iload hx hb eX3_worthOf_25.2.2.2.2.2.2.2.2.2.2.2.2.2.2.1 (lv_at hl 4 rfl) ?_
        have hin := hp.1
        have hp := hp.2
        refine va_iald hx hb hK hP 1 0 rfl rfl hin eX3_worthOf_25.2.2.2.2.2.2.2.2.2.2.2.2.2.2.2 ?_
        refine lv_topi (fun v_4 ev_4 => ?_)
        have hp := hp v_4 ev_4
        exact ks_X3_worthOf_52 C0 hKn x1 x2 x4 x3 v_4 H locs ls hp hP hD hS (lv_sub hl [0, 1, 2, 4] rfl)
      · have hp := hp.2 hc
        refine lv_aload_n hx hb eX3_worthOf_25.2.2.2.2.2.1 rfl (lv_at hl 0 rfl) ?_
        refine va_get (D := (dC, dI)) (ci := 3) (v := .ref mX) (C := RX3) (T := TX3) (N := 11) hx hb hts i_X3 hown hK hP 0 rfl rfl 2 (Nat.le_of_ble_eq_true rfl) (hts _ q_51) (fun _ h9 => h9) rfl eX3_worthOf_25.2.2.2.2.2.2.1 ?_
        refine lv_iload hx hb eX3_worthOf_25.2.2.2.2.2.2.2.1 (lv_at hl 4 rfl) ?_
        have hin := hp.1
        have hp := hp.2
        refine va_iald hx hb hK hP 1 0 rfl rfl hin eX3_worthOf_25.2.2.2.2.2.2.2.2.1 ?_
        refine lv_topi (fun v_6 ev_6 => ?_)
        have hp := hp v_6 ev_6
        refine lv_iconst (v := 2) hx hb eX3_worthOf_25.2.2.2.2.2.2.2.2.2.1 ic_2 ?_
        refine lv_idiv hx hb eX3_worthOf_25.2.2.2.2.2.2.2.2.2.2.1 (by decide) ?_
        refine lv_topi (fun v_7 ev_7 => ?_)
        have hp := hp v_7 ev_7
        refine lv_goto (tgt := 52) hx hb eX3_worthOf_25.2.2.2.2.2.2.2.2.2.2.2.1 (by decide) ?_
        exact ks_X3_worthOf_52 C0 hKn x1 x2 x4 x3 v_7 H locs ls hp hP hD hS (lv_sub hl [0, 1, 2, 4] rfl)
set_option maxHeartbeats 4000000 in
set_option maxRecDepth 100000 in
theorem kb_X3_worthOf_5 (C0 : gc cX3_worthOf (some .int) 5 RX3 (dC, dI) (tyl cI cC cZ cB cJ) A p s m args meth c) : ∀ (n : Nat), ∀ (x1 x2 x3 x4 : Int32) (H : Heap) (locs : List Loc) (ls : Array Slot), (wb_X3_worthOf_5 post bZ pE n) x1 x2 x3 x4 → va_P (dC, dI) classes (wd_X3_worthOf cI cC cZ cB cJ wJ tX jE mX pD oO oQ eG bZ bD bI aI pE) H → va_D A (wd_X3_worthOf cI cC cZ cB cJ wJ tX jE mX pD oO oQ eG bZ bD bI aI pE) → va_S A s.heap H locs → lv_has ls 5 [(0, .ref wJ), (1, .int x1), (2, .int x2), (3, .int x3), (4, .int x4)] → W p l e rm_X3_worthOf s m args below meth c H locs 0 0 (MQ below (q_X3_worthOf dC dI cI cC cZ cB cJ A wJ tX jE mX pD oO oQ eG bZ bD bI aI pE post) args s 0 0 A) (F0 m 5 ls []) := by
  intro n
  induction n with
  | zero =>
    intro x1 x2 x3 x4 H locs ls hp
    exact False.elim hp
  | succ n ih =>
    intro x1 x2 x3 x4 H locs ls hp
    exact ks_X3_worthOf_5 C0 ih x1 x2 x3 x4 H locs ls hp
end S_X3_worthOf
noncomputable def wp_X3_worthOf (post : Int32 → Prop) (p0 p1 bZ : Int32) (pE : Nat → Int32) : Prop := ∃ n : Nat, wb_X3_worthOf_5 post bZ pE n p0 p1 0 0
set_option maxHeartbeats 4000000 in
set_option maxRecDepth 100000 in
theorem c_X3_worthOf (l : Launch) (dC : Nat → ClassId) (dI : Nat → Nat → Nat) (cI cC cZ cB cJ : ClassId) (wJ tX jE mX pD oO oQ eG sz : Nat) (p0 p1 bZ bD bI aI : Int32) (pE : Nat → Int32) (post : Int32 → Prop) (hw : wp_X3_worthOf post p0 p1 bZ pE) : Met l yX3_worthOf (gw yX3_worthOf cX3_worthOf 5 (some .int)) rm_X3_worthOf (va_Pc [.ref wJ, .int p0, .int p1] (gPre (dC, dI) (tyl cI cC cZ cB cJ) (wd_X3_worthOf cI cC cZ cB cJ wJ tX jE mX pD oO oQ eG bZ bD bI aI pE) sz)) (q_X3_worthOf dC dI cI cC cZ cB cJ (va_A (wd_X3_worthOf cI cC cZ cB cJ wJ tX jE mX pD oO oQ eG bZ bD bI aI pE) sz) wJ tX jE mX pD oO oQ eG bZ bD bI aI pE post) 0 0 (va_A (wd_X3_worthOf cI cC cZ cB cJ wJ tX jE mX pD oO oQ eG bZ bD bI aI pE) sz) := by
  refine g_enter (own := RX3) (dC, dI) (tyl cI cC cZ cB cJ) (wd_X3_worthOf cI cC cZ cB cJ wJ tX jE mX pD oO oQ eG bZ bD bI aI pE) sz [.ref wJ, .int p0, .int p1] (fun A => q_X3_worthOf dC dI cI cC cZ cB cJ A wJ tX jE mX pD oO oQ eG bZ bD bI aI pE post) pn_RX3 rfl (Nat.le_of_ble_eq_true rfl) ?_
  intro p e s m args below meth c A H locs ls C0 hP hD hS hl
  have hl : lv_has ls 5 [(0, .ref wJ), (1, .int p0), (2, .int p1)] := hl
  obtain ⟨hx, hb, hr, hml, hown, hts, hlocks, hA, hK, hN, tL, tM, hZL, hTL, hZM, hTM, hZX⟩ := id C0
  have hp := hw
  unfold wp_X3_worthOf at hp
  refine lv_iconst (v := 0) hx hb eX3_worthOf_0.1 ic_0 ?_
  refine lv_istore_n (lv' := [(3, .int 0), (0, .ref wJ), (1, .int p0), (2, .int p1)]) hx hb eX3_worthOf_0.2.1 rfl hl (by decide) rfl (fun ls hl => ?_)
  refine lv_iconst (v := 0) hx hb eX3_worthOf_0.2.2.1 ic_0 ?_
  refine lv_istore (lv' := [(4, .int 0), (3, .int 0), (0, .ref wJ), (1, .int p0), (2, .int p1)]) hx hb eX3_worthOf_0.2.2.2.1 hl (by decide) rfl (fun ls hl => ?_)
  obtain ⟨n9, hp⟩ := hp
  exact kb_X3_worthOf_5 C0 n9 p0 p1 0 0 H locs ls hp hP hD hS (lv_sub hl [2, 3, 4, 1, 0] rfl)
noncomputable abbrev wd_X0_worthOf (cI cC cZ cB cJ : ClassId) (wY wJ wQ xH tX jE mX pD oO oQ eG : Nat) (bZ bD bI aI : Int32) (pE : Nat → Int32) (jC eO eW dO fJ fY jD nG : Int32) : va_W := [(wY, .inr (0, [.ref wJ, .ref wQ, .ref xH])), (wJ, .inr (3, [.ref tX, .ref jE, .ref mX, .ref pD, .ref oO, .ref oQ, .ref eG, .int bZ, .int bD, .int bI, .int aI])), (mX, .inl (cI, 16, .inl pE)), (wQ, .inr (2, [.int jC, .int eO, .int eW, .int dO, .int fJ, .int fY, .int jD, .int nG]))]
noncomputable abbrev q_X0_worthOf (dC : Nat → ClassId) (dI : Nat → Nat → Nat) (cI cC cZ cB cJ : ClassId) (A : Nat → Prop) (wY wJ wQ xH tX jE mX pD oO oQ eG : Nat) (bZ bD bI aI : Int32) (pE : Nat → Int32) (jC eO eW dO fJ fY jD nG : Int32) (post : Int32 → Prop) : Array Value → State → Outcome → State → Prop := va_Qi (fun (r : Int32) (u : Unit) => post r) (fun u t => gB (dC, dI) (tyl cI cC cZ cB cJ) A (wd_X0_worthOf cI cC cZ cB cJ wY wJ wQ xH tX jE mX pD oO oQ eG bZ bD bI aI pE jC eO eW dO fJ fY jD nG) t) A
noncomputable abbrev rm_X0_worthOf : Room := { frames := 1, cells := 0, slots := 0, locals := 24 }
noncomputable def wp_X0_worthOf (post : Int32 → Prop) (p0 bZ : Int32) (pE : Nat → Int32) (dO : Int32) : Prop := wp_X3_worthOf (fun r_1 => post r_1) p0 dO bZ pE
set_option maxHeartbeats 4000000 in
set_option maxRecDepth 100000 in
theorem c_X0_worthOf (l : Launch) (dC : Nat → ClassId) (dI : Nat → Nat → Nat) (cI cC cZ cB cJ : ClassId) (wY wJ wQ xH tX jE mX pD oO oQ eG sz : Nat) (p0 bZ bD bI aI : Int32) (pE : Nat → Int32) (jC eO eW dO fJ fY jD nG : Int32) (post : Int32 → Prop) (hw : wp_X0_worthOf post p0 bZ pE dO) : Met l yX0_worthOf (gw yX0_worthOf cX0_worthOf 2 (some .int)) rm_X0_worthOf (va_Pc [.ref wY, .int p0] (gPre (dC, dI) (tyl cI cC cZ cB cJ) (wd_X0_worthOf cI cC cZ cB cJ wY wJ wQ xH tX jE mX pD oO oQ eG bZ bD bI aI pE jC eO eW dO fJ fY jD nG) sz)) (q_X0_worthOf dC dI cI cC cZ cB cJ (va_A (wd_X0_worthOf cI cC cZ cB cJ wY wJ wQ xH tX jE mX pD oO oQ eG bZ bD bI aI pE jC eO eW dO fJ fY jD nG) sz) wY wJ wQ xH tX jE mX pD oO oQ eG bZ bD bI aI pE jC eO eW dO fJ fY jD nG post) 0 0 (va_A (wd_X0_worthOf cI cC cZ cB cJ wY wJ wQ xH tX jE mX pD oO oQ eG bZ bD bI aI pE jC eO eW dO fJ fY jD nG) sz) := by
  refine g_enter (own := RX0) (dC, dI) (tyl cI cC cZ cB cJ) (wd_X0_worthOf cI cC cZ cB cJ wY wJ wQ xH tX jE mX pD oO oQ eG bZ bD bI aI pE jC eO eW dO fJ fY jD nG) sz [.ref wY, .int p0] (fun A => q_X0_worthOf dC dI cI cC cZ cB cJ A wY wJ wQ xH tX jE mX pD oO oQ eG bZ bD bI aI pE jC eO eW dO fJ fY jD nG post) pn_RX0 rfl (Nat.le_of_ble_eq_true rfl) ?_
  intro p e s m args below meth c A H locs ls C0 hP hD hS hl
  have hl : lv_has ls 2 [(0, .ref wY), (1, .int p0)] := hl
  obtain ⟨hx, hb, hr, hml, hown, hts, hlocks, hA, hK, hN, tL, tM, hZL, hTL, hZM, hTM, hZX⟩ := id C0
  have hp := hw
  unfold wp_X0_worthOf at hp
  refine lv_aload_n hx hb eX0_worthOf_0.1 rfl (lv_at hl 0 rfl) ?_
  refine va_get (D := (dC, dI)) (ci := 0) (v := .ref wJ) (C := RX0) (T := TX0) (N := 3) hx hb hts i_X0 hown hK hP 0 rfl rfl 0 (Nat.le_of_ble_eq_true rfl) (hts _ q_156) (fun _ h9 => h9) rfl eX0_worthOf_0.2.1 ?_
  refine lv_iload_n hx hb eX0_worthOf_0.2.2.1 rfl (lv_at hl 1 rfl) ?_
  refine lv_aload_n hx hb eX0_worthOf_0.2.2.2.1 rfl (lv_at hl 0 rfl) ?_
  refine va_get (D := (dC, dI)) (ci := 0) (v := .ref wQ) (C := RX0) (T := TX0) (N := 3) hx hb hts i_X0 hown hK hP 0 rfl rfl 1 (Nat.le_of_ble_eq_true rfl) (hts _ q_161) (fun _ h9 => h9) rfl eX0_worthOf_0.2.2.2.2.1 ?_
  refine va_get (D := (dC, dI)) (ci := 2) (v := .int dO) (C := RX2) (T := TX2) (N := 8) hx hb hts i_X2 hown hK hP 3 rfl rfl 3 (Nat.le_of_ble_eq_true rfl) (hts _ q_278) (fun _ h9 => h9) rfl eX0_worthOf_0.2.2.2.2.2.1 ?_
  have hm := mgk (wc := (wd_X3_worthOf cI cC cZ cB cJ wJ tX jE mX pD oO oQ eG bZ bD bI aI pE)) hP mk_49 4 rfl rfl rfl
  refine g_calli hP hD hS hA (mixT mk_49) (mixF mk_49) hm.1 hm.2 (nd_F _) (dis_g _) (g_runV (As := [.int p0, .int dO]) (rest := []) C0 hP hD hS (mixT mk_49) hm.1 (nd_T _) 1 3 rfl rfl (c_X3_worthOf l dC dI cI cC cZ cB cJ wJ tX jE mX pD oO oQ eG H.size p0 dO bZ bD bI aI pE _ hp) q_279 q_282 q_280 q_281 q_48 h_X3_worthOf rfl rfl ⟨Nat.le_of_ble_eq_true rfl, Nat.le_of_ble_eq_true rfl⟩ rfl rfl hl.1 rfl (lv_room (Nat.le_of_ble_eq_true rfl)) eX0_worthOf_0.2.2.2.2.2.2.1 ⟨Nat.zero_le _, Nat.zero_le _⟩) (fun r_1 u H locs hp hP hD hS => ?_)
  have hPD := PDm (ws' := (wd_X0_worthOf cI cC cZ cB cJ wY wJ wQ xH tX jE mX pD oO oQ eG bZ bD bI aI pE jC eO eW dO fJ fY jD nG)) hP hD 4 rfl rfl rfl
  have hP := hPD.1
  have hD := hPD.2
  exact W.iret (v := r_1) hx hb hr (fun t ht hW => ⟨⟨r_1, (), rfl, hp, by rw [ht]; exact hP, va_K.moved hW.alike hK, hD⟩, hS.F ht⟩) hS.2.2 eX0_worthOf_0.2.2.2.2.2.2.2
noncomputable abbrev wd_X7_meant (cI cC cZ cB cJ : ClassId) (xH uS sW uR qY sY : Nat) (pG qB sH uP pQ mW : Int32) (qO : Nat → Int32) : va_W := [(xH, .inr (7, [.ref uS, .ref sW, .ref uR, .ref qY, .ref sY, .int pG, .int qB, .int sH, .int uP, .int pQ, .int mW])), (uS, .inl (cI, 7, .inl qO))]
noncomputable abbrev q_X7_meant (dC : Nat → ClassId) (dI : Nat → Nat → Nat) (cI cC cZ cB cJ : ClassId) (A : Nat → Prop) (xH uS sW uR qY sY : Nat) (pG qB sH uP pQ mW : Int32) (qO : Nat → Int32) (post : Int32 → Prop) : Array Value → State → Outcome → State → Prop := va_Qi (fun (r : Int32) (u : Unit) => post r) (fun u t => gB (dC, dI) (tyl cI cC cZ cB cJ) A (wd_X7_meant cI cC cZ cB cJ xH uS sW uR qY sY pG qB sH uP pQ mW qO) t) A
noncomputable abbrev rm_X7_meant : Room := { frames := 0, cells := 0, slots := 0, locals := 0 }
noncomputable def wp_X7_meant (post : Int32 → Prop) (p0 : Int32) (qO : Nat → Int32) : Prop := ∀ v_1 : Int32, v_1 = p0 - 1000 → (v_1 < 0 → post p0) ∧ (¬ v_1 < 0 → (7 ≤ v_1 → post p0) ∧ (¬ 7 ≤ v_1 → vp_in v_1 7 ∧ (∀ v_2 : Int32, v_2 = qO v_1.toNatClampNeg → post v_2)))
set_option maxHeartbeats 4000000 in
set_option maxRecDepth 100000 in
theorem c_X7_meant (l : Launch) (dC : Nat → ClassId) (dI : Nat → Nat → Nat) (cI cC cZ cB cJ : ClassId) (xH uS sW uR qY sY sz : Nat) (p0 pG qB sH uP pQ mW : Int32) (qO : Nat → Int32) (post : Int32 → Prop) (hw : wp_X7_meant post p0 qO) : Met l yX7_meant (gw yX7_meant cX7_meant 3 (some .int)) rm_X7_meant (va_Pc [.ref xH, .int p0] (gPre (dC, dI) (tyl cI cC cZ cB cJ) (wd_X7_meant cI cC cZ cB cJ xH uS sW uR qY sY pG qB sH uP pQ mW qO) sz)) (q_X7_meant dC dI cI cC cZ cB cJ (va_A (wd_X7_meant cI cC cZ cB cJ xH uS sW uR qY sY pG qB sH uP pQ mW qO) sz) xH uS sW uR qY sY pG qB sH uP pQ mW qO post) 0 0 (va_A (wd_X7_meant cI cC cZ cB cJ xH uS sW uR qY sY pG qB sH uP pQ mW qO) sz) := by
  refine g_enter (own := RX7) (dC, dI) (tyl cI cC cZ cB cJ) (wd_X7_meant cI cC cZ cB cJ xH uS sW uR qY sY pG qB sH uP pQ mW qO) sz [.ref xH, .int p0] (fun A => q_X7_meant dC dI cI cC cZ cB cJ A xH uS sW uR qY sY pG qB sH uP pQ mW qO post) pn_RX7 rfl (Nat.le_of_ble_eq_true rfl) ?_
  intro p e s m args below meth c A H locs ls C0 hP hD hS hl
  have hl : lv_has ls 3 [(0, .ref xH), (1, .int p0)] := hl
  obtain ⟨hx, hb, hr, hml, hown, hts, hlocks, hA, hK, hN, tL, tM, hZL, hTL, hZM, hTM, hZX⟩ := id C0
  have hp := hw
  unfold wp_X7_meant at hp
  refine lv_iload_n hx hb eX7_meant_0.1 rfl (lv_at hl 1 rfl) ?_
  refine lv_sipush (v := 1000) hx hb eX7_meant_0.2.1 sp_1000 ?_
  refine lv_isub hx hb eX7_meant_0.2.2.1 ?_
  refine lv_topi (fun v_1 ev_1 => ?_)
  have hp := hp v_1 ev_1
  refine lv_istore_n (lv' := [(2, .int v_1), (0, .ref xH), (1, .int p0)]) hx hb eX7_meant_0.2.2.2.1 rfl hl (by decide) rfl (fun ls hl => ?_)
  refine lv_iload_n hx hb eX7_meant_0.2.2.2.2.1 rfl (lv_at hl 0 rfl) ?_
  refine lv_if_lt (tgt := 28) hx hb eX7_meant_0.2.2.2.2.2.1 (by decide) (fun hc => ?_) (fun hc => ?_)
  · have hp := hp.1 hc
    refine lv_iload_n hx hb eX7_meant_28.1 rfl (lv_at hl 2 rfl) ?_
    exact W.iret (v := p0) hx hb hr (fun t ht hW => ⟨⟨p0, (), rfl, hp, by rw [ht]; exact hP, va_K.moved hW.alike hK, hD⟩, hS.F ht⟩) hS.2.2 eX7_meant_28.2
  · have hp := hp.2 hc
    refine lv_iload_n hx hb eX7_meant_0.2.2.2.2.2.2.1 rfl (lv_at hl 0 rfl) ?_
    refine lv_aload_n hx hb eX7_meant_0.2.2.2.2.2.2.2.1 rfl (lv_at hl 1 rfl) ?_
    refine va_get (D := (dC, dI)) (ci := 7) (v := .ref uS) (C := RX7) (T := TX7) (N := 11) hx hb hts i_X7 hown hK hP 0 rfl rfl 0 (Nat.le_of_ble_eq_true rfl) (hts _ q_283) (fun _ h9 => h9) rfl eX7_meant_0.2.2.2.2.2.2.2.2.1 ?_
    refine va_alen (v := 7) hx hb hK hP 1 0 rfl rfl rfl eX7_meant_0.2.2.2.2.2.2.2.2.2.1 ?_
    refine lv_icmp_ge (tgt := 28) hx hb eX7_meant_0.2.2.2.2.2.2.2.2.2.2.1 (by decide) (fun hc => ?_) (fun hc => ?_)
    · have hp := hp.1 hc
      refine lv_iload_n hx hb eX7_meant_28.1 rfl (lv_at hl 2 rfl) ?_
      exact W.iret (v := p0) hx hb hr (fun t ht hW => ⟨⟨p0, (), rfl, hp, by rw [ht]; exact hP, va_K.moved hW.alike hK, hD⟩, hS.F ht⟩) hS.2.2 eX7_meant_28.2
    · have hp := hp.2 hc
      refine lv_aload_n hx hb eX7_meant_0.2.2.2.2.2.2.2.2.2.2.2.1 rfl (lv_at hl 1 rfl) ?_
      refine va_get (D := (dC, dI)) (ci := 7) (v := .ref uS) (C := RX7) (T := TX7) (N := 11) hx hb hts i_X7 hown hK hP 0 rfl rfl 0 (Nat.le_of_ble_eq_true rfl) (hts _ q_283) (fun _ h9 => h9) rfl eX7_meant_0.2.2.2.2.2.2.2.2.2.2.2.2.1 ?_
      refine lv_iload_n hx hb eX7_meant_0.2.2.2.2.2.2.2.2.2.2.2.2.2.1 rfl (lv_at hl 0 rfl) ?_
      have hin := hp.1
      have hp := hp.2
      refine va_iald hx hb hK hP 1 0 rfl rfl hin eX7_meant_0.2.2.2.2.2.2.2.2.2.2.2.2.2.2.1 ?_
      refine lv_topi (fun v_2 ev_2 => ?_)
      have hp := hp v_2 ev_2
      refine lv_goto (tgt := 29) hx hb eX7_meant_0.2.2.2.2.2.2.2.2.2.2.2.2.2.2.2 (by decide) ?_
      exact W.iret (v := v_2) hx hb hr (fun t ht hW => ⟨⟨v_2, (), rfl, hp, by rw [ht]; exact hP, va_K.moved hW.alike hK, hD⟩, hS.F ht⟩) hS.2.2 eX7_meant_28.2
noncomputable abbrev wd_X7_join (cI cC cZ cB cJ : ClassId) : va_W := []
noncomputable abbrev q_X7_join (dC : Nat → ClassId) (dI : Nat → Nat → Nat) (cI cC cZ cB cJ : ClassId) (A : Nat → Prop) (post : Int32 → Prop) : Array Value → State → Outcome → State → Prop := va_Qi (fun (r : Int32) (u : Unit) => post r) (fun u t => gB (dC, dI) (tyl cI cC cZ cB cJ) A (wd_X7_join cI cC cZ cB cJ) t) A
noncomputable abbrev rm_X7_join : Room := { frames := 0, cells := 0, slots := 0, locals := 0 }
noncomputable def wp_X7_join (post : Int32 → Prop) (p0 p1 p2 : Int32) : Prop := (p0 = 42 → post (p1 * p2)) ∧ (p0 = 43 → post (p1 + p2)) ∧ (p0 = 45 → post (p1 - p2)) ∧ (p0 = 60 → (p2 ≤ p1 → post 0) ∧ (¬ p2 ≤ p1 → post 1)) ∧ (p0 = 61 → (¬ p1 = p2 → post 0) ∧ (p1 = p2 → post 1)) ∧ (p0 = 62 → (p1 ≤ p2 → post 0) ∧ (¬ p1 ≤ p2 → post 1)) ∧ (¬ p0 = 42 → ¬ p0 = 43 → ¬ p0 = 45 → ¬ p0 = 60 → ¬ p0 = 61 → ¬ p0 = 62 → (¬ p2 = 0 → ¬ p2 = 0 ∧ (post (p1 / p2))) ∧ (p2 = 0 → post 0))
set_option maxHeartbeats 4000000 in
set_option maxRecDepth 100000 in
theorem c_X7_join (l : Launch) (dC : Nat → ClassId) (dI : Nat → Nat → Nat) (cI cC cZ cB cJ : ClassId) (sz : Nat) (p0 p1 p2 : Int32) (post : Int32 → Prop) (hw : wp_X7_join post p0 p1 p2) : Met l yX7_join (gw yX7_join cX7_join 3 (some .int)) rm_X7_join (va_Pc [.int p0, .int p1, .int p2] (gPre (dC, dI) (tyl cI cC cZ cB cJ) (wd_X7_join cI cC cZ cB cJ) sz)) (q_X7_join dC dI cI cC cZ cB cJ (va_A (wd_X7_join cI cC cZ cB cJ) sz) post) 0 0 (va_A (wd_X7_join cI cC cZ cB cJ) sz) := by
  refine g_enter (own := RX7) (dC, dI) (tyl cI cC cZ cB cJ) (wd_X7_join cI cC cZ cB cJ) sz [.int p0, .int p1, .int p2] (fun A => q_X7_join dC dI cI cC cZ cB cJ A post) pn_RX7 rfl (Nat.le_of_ble_eq_true rfl) ?_
  intro p e s m args below meth c A H locs ls C0 hP hD hS hl
  have hl : lv_has ls 3 [(0, .int p0), (1, .int p1), (2, .int p2)] := hl
  obtain ⟨hx, hb, hr, hml, hown, hts, hlocks, hA, hK, hN, tL, tM, hZL, hTL, hZM, hTM, hZX⟩ := id C0
  have hp := hw
  unfold wp_X7_join at hp
  refine lv_iload_n hx hb eX7_join_0.1 rfl (lv_at hl 0 rfl) ?_
  by_cases hc0 : p0 = 42
  · have hp := hp.1 hc0
    refine lv_lookup (tgt := 101) hx hb eX7_join_0.2.1 (by decide) (by first | (rw [hc0]; done) | (rw [hc0]; rfl)) (by decide) ?_
    refine lv_iload_n hx hb eX7_join_82.2.2.2.2.2.2.2.2.2.2.2.2.2.2.2 rfl (lv_at hl 1 rfl) ?_
    refine lv_iload_n hx hb eX7_join_102.1 rfl (lv_at hl 2 rfl) ?_
    refine lv_imul hx hb eX7_join_102.2.1 ?_
    exact W.iret (v := p1 * p2) hx hb hr (fun t ht hW => ⟨⟨p1 * p2, (), rfl, hp, by rw [ht]; exact hP, va_K.moved hW.alike hK, hD⟩, hS.F ht⟩) hS.2.2 eX7_join_102.2.2.1
  by_cases hc1 : p0 = 43
  · have hp := hp.2.1 hc1
    refine lv_lookup (tgt := 93) hx hb eX7_join_0.2.1 (by decide) (by first | (rw [hc1]; done) | (rw [hc1]; rfl)) (by decide) ?_
    refine lv_iload_n hx hb eX7_join_82.2.2.2.2.2.2.2.1 rfl (lv_at hl 1 rfl) ?_
    refine lv_iload_n hx hb eX7_join_82.2.2.2.2.2.2.2.2.1 rfl (lv_at hl 2 rfl) ?_
    refine lv_iadd hx hb eX7_join_82.2.2.2.2.2.2.2.2.2.1 ?_
    exact W.iret (v := p1 + p2) hx hb hr (fun t ht hW => ⟨⟨p1 + p2, (), rfl, hp, by rw [ht]; exact hP, va_K.moved hW.alike hK, hD⟩, hS.F ht⟩) hS.2.2 eX7_join_82.2.2.2.2.2.2.2.2.2.2.1
  by_cases hc2 : p0 = 45
  · have hp := hp.2.2.1 hc2
    refine lv_lookup (tgt := 97) hx hb eX7_join_0.2.1 (by decide) (by first | (rw [hc2]; done) | (rw [hc2]; rfl)) (by decide) ?_
    refine lv_iload_n hx hb eX7_join_82.2.2.2.2.2.2.2.2.2.2.2.1 rfl (lv_at hl 1 rfl) ?_
    refine lv_iload_n hx hb eX7_join_82.2.2.2.2.2.2.2.2.2.2.2.2.1 rfl (lv_at hl 2 rfl) ?_
    refine lv_isub hx hb eX7_join_82.2.2.2.2.2.2.2.2.2.2.2.2.2.1 ?_
    exact W.iret (v := p1 - p2) hx hb hr (fun t ht hW => ⟨⟨p1 - p2, (), rfl, hp, by rw [ht]; exact hP, va_K.moved hW.alike hK, hD⟩, hS.F ht⟩) hS.2.2 eX7_join_82.2.2.2.2.2.2.2.2.2.2.2.2.2.2.1
  by_cases hc3 : p0 = 60
  · have hp := hp.2.2.2.1 hc3
    refine lv_lookup (tgt := 60) hx hb eX7_join_0.2.1 (by decide) (by first | (rw [hc3]; done) | (rw [hc3]; rfl)) (by decide) ?_
    refine lv_iload_n hx hb eX7_join_0.2.2.1 rfl (lv_at hl 1 rfl) ?_
    refine lv_iload_n hx hb eX7_join_0.2.2.2.1 rfl (lv_at hl 2 rfl) ?_
    refine lv_icmp_ge (tgt := 69) hx hb eX7_join_0.2.2.2.2.1 (by decide) (fun hc => ?_) (fun hc => ?_)
    · have hp := hp.1 hc
      refine lv_iconst (v := 0) hx hb eX7_join_0.2.2.2.2.2.2.2.1 ic_0 ?_
      exact W.iret (v := 0) hx hb hr (fun t ht hW => ⟨⟨0, (), rfl, hp, by rw [ht]; exact hP, va_K.moved hW.alike hK, hD⟩, hS.F ht⟩) hS.2.2 eX7_join_0.2.2.2.2.2.2.2.2.1
    · have hp := hp.2 hc
      refine lv_iconst (v := 1) hx hb eX7_join_0.2.2.2.2.2.1 ic_1 ?_
      refine lv_goto (tgt := 70) hx hb eX7_join_0.2.2.2.2.2.2.1 (by decide) ?_
      exact W.iret (v := 1) hx hb hr (fun t ht hW => ⟨⟨1, (), rfl, hp, by rw [ht]; exact hP, va_K.moved hW.alike hK, hD⟩, hS.F ht⟩) hS.2.2 eX7_join_0.2.2.2.2.2.2.2.2.1
  by_cases hc4 : p0 = 61
  · have hp := hp.2.2.2.2.1 hc4
    refine lv_lookup (tgt := 82) hx hb eX7_join_0.2.1 (by decide) (by first | (rw [hc4]; done) | (rw [hc4]; rfl)) (by decide) ?_
    refine lv_iload_n hx hb eX7_join_82.1 rfl (lv_at hl 1 rfl) ?_
    refine lv_iload_n hx hb eX7_join_82.2.1 rfl (lv_at hl 2 rfl) ?_
    refine lv_icmp_ne (tgt := 91) hx hb eX7_join_82.2.2.1 (by decide) (fun hc => ?_) (fun hc => ?_)
    · have hp := hp.1 hc
      refine lv_iconst (v := 0) hx hb eX7_join_82.2.2.2.2.2.1 ic_0 ?_
      exact W.iret (v := 0) hx hb hr (fun t ht hW => ⟨⟨0, (), rfl, hp, by rw [ht]; exact hP, va_K.moved hW.alike hK, hD⟩, hS.F ht⟩) hS.2.2 eX7_join_82.2.2.2.2.2.2.1
    · have hp := hp.2 hc
      refine lv_iconst (v := 1) hx hb eX7_join_82.2.2.2.1 ic_1 ?_
      refine lv_goto (tgt := 92) hx hb eX7_join_82.2.2.2.2.1 (by decide) ?_
      exact W.iret (v := 1) hx hb hr (fun t ht hW => ⟨⟨1, (), rfl, hp, by rw [ht]; exact hP, va_K.moved hW.alike hK, hD⟩, hS.F ht⟩) hS.2.2 eX7_join_82.2.2.2.2.2.2.1
  by_cases hc5 : p0 = 62
  · have hp := hp.2.2.2.2.2.1 hc5
    refine lv_lookup (tgt := 71) hx hb eX7_join_0.2.1 (by decide) (by first | (rw [hc5]; done) | (rw [hc5]; rfl)) (by decide) ?_
    refine lv_iload_n hx hb eX7_join_0.2.2.2.2.2.2.2.2.2.1 rfl (lv_at hl 1 rfl) ?_
    refine lv_iload_n hx hb eX7_join_0.2.2.2.2.2.2.2.2.2.2.1 rfl (lv_at hl 2 rfl) ?_
    refine lv_icmp_le (tgt := 80) hx hb eX7_join_0.2.2.2.2.2.2.2.2.2.2.2.1 (by decide) (fun hc => ?_) (fun hc => ?_)
    · have hp := hp.1 hc
      refine lv_iconst (v := 0) hx hb eX7_join_0.2.2.2.2.2.2.2.2.2.2.2.2.2.2.1 ic_0 ?_
      exact W.iret (v := 0) hx hb hr (fun t ht hW => ⟨⟨0, (), rfl, hp, by rw [ht]; exact hP, va_K.moved hW.alike hK, hD⟩, hS.F ht⟩) hS.2.2 eX7_join_0.2.2.2.2.2.2.2.2.2.2.2.2.2.2.2
    · have hp := hp.2 hc
      refine lv_iconst (v := 1) hx hb eX7_join_0.2.2.2.2.2.2.2.2.2.2.2.2.1 ic_1 ?_
      refine lv_goto (tgt := 81) hx hb eX7_join_0.2.2.2.2.2.2.2.2.2.2.2.2.2.1 (by decide) ?_
      exact W.iret (v := 1) hx hb hr (fun t ht hW => ⟨⟨1, (), rfl, hp, by rw [ht]; exact hP, va_K.moved hW.alike hK, hD⟩, hS.F ht⟩) hS.2.2 eX7_join_0.2.2.2.2.2.2.2.2.2.2.2.2.2.2.2
  have hp := hp.2.2.2.2.2.2 hc0 hc1 hc2 hc3 hc4 hc5
  have key : W p l e rm_X7_join s m args below meth c H locs 0 0 (MQ below (q_X7_join dC dI cI cC cZ cB cJ A post) args s 0 0 A) (F0 m 105 ls []) := by
    refine lv_iload_n hx hb eX7_join_102.2.2.2.1 rfl (lv_at hl 2 rfl) ?_
    refine lv_if_ne (tgt := 113) hx hb eX7_join_102.2.2.2.2.1 (by decide) (fun hc => ?_) (fun hc => ?_)
    · have hp := hp.1 hc
      refine lv_iload_n hx hb eX7_join_102.2.2.2.2.2.2.2.1 rfl (lv_at hl 1 rfl) ?_
      refine lv_iload_n hx hb eX7_join_102.2.2.2.2.2.2.2.2.1 rfl (lv_at hl 2 rfl) ?_
      have hne := hp.1
      have hp := hp.2
      refine lv_idiv hx hb eX7_join_102.2.2.2.2.2.2.2.2.2.1 hne ?_
      exact W.iret (v := p1 / p2) hx hb hr (fun t ht hW => ⟨⟨p1 / p2, (), rfl, hp, by rw [ht]; exact hP, va_K.moved hW.alike hK, hD⟩, hS.F ht⟩) hS.2.2 eX7_join_102.2.2.2.2.2.2.2.2.2.2
    · have hp := hp.2 hc
      refine lv_iconst (v := 0) hx hb eX7_join_102.2.2.2.2.2.1 ic_0 ?_
      refine lv_goto (tgt := 116) hx hb eX7_join_102.2.2.2.2.2.2.1 (by decide) ?_
      exact W.iret (v := 0) hx hb hr (fun t ht hW => ⟨⟨0, (), rfl, hp, by rw [ht]; exact hP, va_K.moved hW.alike hK, hD⟩, hS.F ht⟩) hS.2.2 eX7_join_102.2.2.2.2.2.2.2.2.2.2
  exact lv_lookup (tgt := 105) (off := 104) hx hb eX7_join_0.2.1 (by decide) (by show Op.lookupswitch.offset [(42, 100), (43, 92), (45, 96), (60, 59), (61, 81), (62, 70)] _ _ = _; first | (rw [lv_osw (a := 42) hc0 rfl, lv_osw (a := 43) hc1 rfl, lv_osw (a := 45) hc2 rfl, lv_osw (a := 60) hc3 rfl, lv_osw (a := 61) hc4 rfl, lv_osw (a := 62) hc5 rfl]; done) | (rw [lv_osw (a := 42) hc0 rfl, lv_osw (a := 43) hc1 rfl, lv_osw (a := 45) hc2 rfl, lv_osw (a := 60) hc3 rfl, lv_osw (a := 61) hc4 rfl, lv_osw (a := 62) hc5 rfl]; rfl)) (by decide) key
noncomputable abbrev wd_X7_reckon (cI cC cZ cB cJ : ClassId) (xH uS sW uR qY sY : Nat) (pG qB sH uP pQ mW : Int32) (qO qQ oF : Nat → Int32) : va_W := [(xH, .inr (7, [.ref uS, .ref sW, .ref uR, .ref qY, .ref sY, .int pG, .int qB, .int sH, .int uP, .int pQ, .int mW])), (uS, .inl (cI, 7, .inl qO)), (uR, .inl (cI, 40, .inl qQ)), (qY, .inl (cI, 40, .inl oF))]
noncomputable abbrev q_X7_reckon (dC : Nat → ClassId) (dI : Nat → Nat → Nat) (cI cC cZ cB cJ : ClassId) (A : Nat → Prop) (xH uS sW uR qY sY : Nat) (pG qB sH uP pQ mW : Int32) (qO oF : Nat → Int32) (post : Int32 → (Nat → Int32) → Prop) : Array Value → State → Outcome → State → Prop := va_Qi (fun (r : Int32) (u : (Nat → Int32)) => post r u) (fun u t => gB (dC, dI) (tyl cI cC cZ cB cJ) A (wd_X7_reckon cI cC cZ cB cJ xH uS sW uR qY sY pG qB sH uP pQ mW qO u oF) t) A
noncomputable abbrev rm_X7_reckon : Room := { frames := 1, cells := 0, slots := 0, locals := 22 }
section S_X7_reckon
variable {p : Program} {l : Launch} {e : Env} {s : State} {m : MethodId} {args : Array Value} {below : List Frame} {meth : Method} {c : Code} {dC : Nat → ClassId} {dI : Nat → Nat → Nat} {cI cC cZ cB cJ : ClassId} {A : Nat → Prop} {xH uS sW uR qY sY : Nat} {pG qB sH uP pQ mW : Int32} {qO oF : Nat → Int32} {post : Int32 → (Nat → Int32) → Prop}
noncomputable def ws_X7_reckon_136 (post : Int32 → (Nat → Int32) → Prop) (pG : Int32) (qO oF : Nat → Int32) (x1 : Int32) (qQ : Nat → Int32) : Prop := (x1 ≤ 0 → post 0 qQ) ∧ (¬ x1 ≤ 0 → ∀ v_1 : Int32, v_1 = x1 - 1 → vp_in v_1 40 ∧ (∀ v_2 : Int32, v_2 = qQ v_1.toNatClampNeg → post v_2 qQ))
set_option maxHeartbeats 4000000 in
set_option maxRecDepth 100000 in
theorem ks_X7_reckon_136 (C0 : gc cX7_reckon (some .int) 4 RX7 (dC, dI) (tyl cI cC cZ cB cJ) A p s m args meth c) : ∀ (x1 : Int32) (qQ : Nat → Int32) (H : Heap) (locs : List Loc) (ls : Array Slot), (ws_X7_reckon_136 post pG qO oF) x1 qQ → va_P (dC, dI) classes (wd_X7_reckon cI cC cZ cB cJ xH uS sW uR qY sY pG qB sH uP pQ mW qO qQ oF) H → va_D A (wd_X7_reckon cI cC cZ cB cJ xH uS sW uR qY sY pG qB sH uP pQ mW qO qQ oF) → va_S A s.heap H locs → lv_has ls 4 [(0, .ref xH), (1, .int x1)] → W p l e rm_X7_reckon s m args below meth c H locs 0 0 (MQ below (q_X7_reckon dC dI cI cC cZ cB cJ A xH uS sW uR qY sY pG qB sH uP pQ mW qO oF post) args s 0 0 A) (F0 m 136 ls []) := by
  obtain ⟨hx, hb, hr, hml, hown, hts, hlocks, hA, hK, hN, tL, tM, hZL, hTL, hZM, hTM, hZX⟩ := id C0
  intro x1 qQ H locs ls hp hP hD hS hl
  unfold ws_X7_reckon_136 at hp
  refine lv_iload_n hx hb eX7_reckon_121.2.2.2.2.2.2.2.1 rfl (lv_at hl 1 rfl) ?_
  refine lv_if_le (tgt := 151) hx hb eX7_reckon_121.2.2.2.2.2.2.2.2.1 (by decide) (fun hc => ?_) (fun hc => ?_)
  · have hp := hp.1 hc
    refine lv_iconst (v := 0) hx hb eX7_reckon_151.1 ic_0 ?_
    exact W.iret (v := 0) hx hb hr (fun t ht hW => ⟨⟨0, qQ, rfl, hp, by rw [ht]; exact hP, va_K.moved hW.alike hK, hD⟩, hS.F ht⟩) hS.2.2 eX7_reckon_151.2
  · have hp := hp.2 hc
    refine lv_aload_n hx hb eX7_reckon_121.2.2.2.2.2.2.2.2.2.1 rfl (lv_at hl 0 rfl) ?_
    refine va_get (D := (dC, dI)) (ci := 7) (v := .ref uR) (C := RX7) (T := TX7) (N := 11) hx hb hts i_X7 hown hK hP 0 rfl rfl 2 (Nat.le_of_ble_eq_true rfl) (hts _ q_284) (fun _ h9 => h9) rfl eX7_reckon_121.2.2.2.2.2.2.2.2.2.2.1 ?_
    refine lv_iload_n hx hb eX7_reckon_121.2.2.2.2.2.2.2.2.2.2.2.1 rfl (lv_at hl 1 rfl) ?_
    refine lv_iconst (v := 1) hx hb eX7_reckon_121.2.2.2.2.2.2.2.2.2.2.2.2.1 ic_1 ?_
    refine lv_isub hx hb eX7_reckon_121.2.2.2.2.2.2.2.2.2.2.2.2.2.1 ?_
    refine lv_topi (fun v_1 ev_1 => ?_)
    have hp := hp v_1 ev_1
    have hin := hp.1
    have hp := hp.2
    refine va_iald hx hb hK hP 2 0 rfl rfl hin eX7_reckon_121.2.2.2.2.2.2.2.2.2.2.2.2.2.2.1 ?_
    refine lv_topi (fun v_2 ev_2 => ?_)
    have hp := hp v_2 ev_2
    refine lv_goto (tgt := 152) hx hb eX7_reckon_121.2.2.2.2.2.2.2.2.2.2.2.2.2.2.2 (by decide) ?_
    exact W.iret (v := v_2) hx hb hr (fun t ht hW => ⟨⟨v_2, qQ, rfl, hp, by rw [ht]; exact hP, va_K.moved hW.alike hK, hD⟩, hS.F ht⟩) hS.2.2 eX7_reckon_151.2
noncomputable def ws_X7_reckon_130 (post : Int32 → (Nat → Int32) → Prop) (K4 : Int32 → Int32 → (Nat → Int32) → Prop) (pG : Int32) (qO oF : Nat → Int32) (x1 x2 : Int32) (qQ : Nat → Int32) : Prop := ∀ v_4 : Int32, v_4 = x2 + 1 → K4 x1 v_4 qQ
set_option maxHeartbeats 4000000 in
set_option maxRecDepth 100000 in
theorem ks_X7_reckon_130 (C0 : gc cX7_reckon (some .int) 4 RX7 (dC, dI) (tyl cI cC cZ cB cJ) A p s m args meth c) {K4 : Int32 → Int32 → (Nat → Int32) → Prop} (hK4 : ∀ (x1 : Int32) (x2 : Int32) (qQ : Nat → Int32) (H : Heap) (locs : List Loc) (ls : Array Slot), K4 x1 x2 qQ → va_P (dC, dI) classes (wd_X7_reckon cI cC cZ cB cJ xH uS sW uR qY sY pG qB sH uP pQ mW qO qQ oF) H → va_D A (wd_X7_reckon cI cC cZ cB cJ xH uS sW uR qY sY pG qB sH uP pQ mW qO qQ oF) → va_S A s.heap H locs → lv_has ls 4 [(0, .ref xH), (1, .int x1), (2, .int x2)] → W p l e rm_X7_reckon s m args below meth c H locs 0 0 (MQ below (q_X7_reckon dC dI cI cC cZ cB cJ A xH uS sW uR qY sY pG qB sH uP pQ mW qO oF post) args s 0 0 A) (F0 m 4 ls [])) : ∀ (x1 x2 : Int32) (qQ : Nat → Int32) (H : Heap) (locs : List Loc) (ls : Array Slot), (ws_X7_reckon_130 post K4 pG qO oF) x1 x2 qQ → va_P (dC, dI) classes (wd_X7_reckon cI cC cZ cB cJ xH uS sW uR qY sY pG qB sH uP pQ mW qO qQ oF) H → va_D A (wd_X7_reckon cI cC cZ cB cJ xH uS sW uR qY sY pG qB sH uP pQ mW qO qQ oF) → va_S A s.heap H locs → lv_has ls 4 [(0, .ref xH), (1, .int x1), (2, .int x2)] → W p l e rm_X7_reckon s m args below meth c H locs 0 0 (MQ below (q_X7_reckon dC dI cI cC cZ cB cJ A xH uS sW uR qY sY pG qB sH uP pQ mW qO oF post) args s 0 0 A) (F0 m 130 ls []) := by
  obtain ⟨hx, hb, hr, hml, hown, hts, hlocks, hA, hK, hN, tL, tM, hZL, hTL, hZM, hTM, hZX⟩ := id C0
  intro x1 x2 qQ H locs ls hp hP hD hS hl
  unfold ws_X7_reckon_130 at hp
  obtain ⟨v_4, ev_4⟩ : ∃ y : Int32, y = x2 + 1 := ⟨_, rfl⟩
  refine lv_iinc (v := v_4) (lv' := [(2, .int v_4), (0, .ref xH), (1, .int x1)]) hx hb eX7_reckon_121.2.2.2.2.2.1 hl (k := 2) rfl (by rw [ev_4]; rfl) (by decide) rfl (fun ls hl => ?_)
  have hp := hp v_4 ev_4
  refine lv_goto (tgt := 4) hx hb eX7_reckon_121.2.2.2.2.2.2.1 (by decide) ?_
  exact hK4 x1 v_4 qQ H locs ls hp hP hD hS (lv_sub hl [1, 2, 0] rfl)
noncomputable def ws_X7_reckon_4 (post : Int32 → (Nat → Int32) → Prop) (next : Int32 → Int32 → (Nat → Int32) → Prop) (pG : Int32) (qO oF : Nat → Int32) (x1 x2 : Int32) (qQ : Nat → Int32) : Prop := (pG ≤ x2 → ws_X7_reckon_136 post pG qO oF x1 qQ) ∧ (¬ pG ≤ x2 → (40 ≤ x2 → ws_X7_reckon_136 post pG qO oF x1 qQ) ∧ (¬ 40 ≤ x2 → vp_in x2 40 ∧ (∀ v_3 : Int32, v_3 = oF x2.toNatClampNeg → (2000 ≤ v_3 → (¬ v_3 = 2256 → (x1 ≤ 1 → ws_X7_reckon_130 post next pG qO oF x1 x2 qQ) ∧ (¬ x1 ≤ 1 → ∀ v_5 : Int32, v_5 = x1 + (-1) → ∀ v_6 : Int32, v_6 = v_5 - 1 → ∀ v_7 : Int32, v_7 = v_3 - 2000 → ∀ v_8 : Int32, v_8 = v_5 - 1 → vp_in v_8 40 ∧ (∀ v_9 : Int32, v_9 = qQ v_8.toNatClampNeg → vp_in v_5 40 ∧ (∀ v_10 : Int32, v_10 = qQ v_5.toNatClampNeg → wp_X7_join (fun r_11 => vp_in v_6 40 ∧ (ws_X7_reckon_130 post next pG qO oF v_5 x2 (upd qQ v_6.toNatClampNeg r_11))) v_7 v_9 v_10)))) ∧ (v_3 = 2256 → (x1 ≤ 0 → ws_X7_reckon_130 post next pG qO oF x1 x2 qQ) ∧ (¬ x1 ≤ 0 → ∀ v_12 : Int32, v_12 = x1 - 1 → ∀ v_13 : Int32, v_13 = x1 - 1 → vp_in v_13 40 ∧ (∀ v_14 : Int32, v_14 = -(qQ v_13.toNatClampNeg) → vp_in v_12 40 ∧ (ws_X7_reckon_130 post next pG qO oF x1 x2 (upd qQ v_12.toNatClampNeg v_14)))))) ∧ (¬ 2000 ≤ v_3 → (40 ≤ x1 → ws_X7_reckon_130 post next pG qO oF x1 x2 qQ) ∧ (¬ 40 ≤ x1 → wp_X7_meant (fun r_15 => vp_in x1 40 ∧ (∀ v_16 : Int32, v_16 = x1 + 1 → ws_X7_reckon_130 post next pG qO oF v_16 x2 (upd qQ x1.toNatClampNeg r_15))) v_3 qO)))))
noncomputable def wb_X7_reckon_4 (post : Int32 → (Nat → Int32) → Prop) (pG : Int32) (qO oF : Nat → Int32) : Nat → Int32 → Int32 → (Nat → Int32) → Prop := fun n => Nat.rec (motive := fun _ => Int32 → Int32 → (Nat → Int32) → Prop) (fun _ _ _ => False) (fun _ ih => ws_X7_reckon_4 post ih pG qO oF) n
set_option maxHeartbeats 4000000 in
set_option maxRecDepth 100000 in
theorem ks_X7_reckon_4 (C0 : gc cX7_reckon (some .int) 4 RX7 (dC, dI) (tyl cI cC cZ cB cJ) A p s m args meth c) {next : Int32 → Int32 → (Nat → Int32) → Prop} (hKn : ∀ (x1 : Int32) (x2 : Int32) (qQ : Nat → Int32) (H : Heap) (locs : List Loc) (ls : Array Slot), next x1 x2 qQ → va_P (dC, dI) classes (wd_X7_reckon cI cC cZ cB cJ xH uS sW uR qY sY pG qB sH uP pQ mW qO qQ oF) H → va_D A (wd_X7_reckon cI cC cZ cB cJ xH uS sW uR qY sY pG qB sH uP pQ mW qO qQ oF) → va_S A s.heap H locs → lv_has ls 4 [(0, .ref xH), (1, .int x1), (2, .int x2)] → W p l e rm_X7_reckon s m args below meth c H locs 0 0 (MQ below (q_X7_reckon dC dI cI cC cZ cB cJ A xH uS sW uR qY sY pG qB sH uP pQ mW qO oF post) args s 0 0 A) (F0 m 4 ls [])) : ∀ (x1 x2 : Int32) (qQ : Nat → Int32) (H : Heap) (locs : List Loc) (ls : Array Slot), (ws_X7_reckon_4 post next pG qO oF) x1 x2 qQ → va_P (dC, dI) classes (wd_X7_reckon cI cC cZ cB cJ xH uS sW uR qY sY pG qB sH uP pQ mW qO qQ oF) H → va_D A (wd_X7_reckon cI cC cZ cB cJ xH uS sW uR qY sY pG qB sH uP pQ mW qO qQ oF) → va_S A s.heap H locs → lv_has ls 4 [(0, .ref xH), (1, .int x1), (2, .int x2)] → W p l e rm_X7_reckon s m args below meth c H locs 0 0 (MQ below (q_X7_reckon dC dI cI cC cZ cB cJ A xH uS sW uR qY sY pG qB sH uP pQ mW qO oF post) args s 0 0 A) (F0 m 4 ls []) := by
  obtain ⟨hx, hb, hr, hml, hown, hts, hlocks, hA, hK, hN, tL, tM, hZL, hTL, hZM, hTM, hZX⟩ := id C0
  intro x1 x2 qQ H locs ls hp hP hD hS hl
  unfold ws_X7_reckon_4 at hp
  refine lv_iload_n hx hb eX7_reckon_0.2.2.2.2.1 rfl (lv_at hl 2 rfl) ?_
  refine lv_aload_n hx hb eX7_reckon_0.2.2.2.2.2.1 rfl (lv_at hl 0 rfl) ?_
  refine va_get (D := (dC, dI)) (ci := 7) (v := .int pG) (C := RX7) (T := TX7) (N := 11) hx hb hts i_X7 hown hK hP 0 rfl rfl 5 (Nat.le_of_ble_eq_true rfl) (hts _ q_101) (fun _ h9 => h9) rfl eX7_reckon_0.2.2.2.2.2.2.1 ?_
  refine lv_icmp_ge (tgt := 136) hx hb eX7_reckon_0.2.2.2.2.2.2.2.1 (by decide) (fun hc => ?_) (fun hc => ?_)
  · have hp := hp.1 hc
    exact ks_X7_reckon_136 C0 x1 qQ H locs ls hp hP hD hS (lv_sub hl [0, 1] rfl)
  · have hp := hp.2 hc
    refine lv_iload_n hx hb eX7_reckon_0.2.2.2.2.2.2.2.2.1 rfl (lv_at hl 2 rfl) ?_
    refine lv_aload_n hx hb eX7_reckon_0.2.2.2.2.2.2.2.2.2.1 rfl (lv_at hl 0 rfl) ?_
    refine va_get (D := (dC, dI)) (ci := 7) (v := .ref qY) (C := RX7) (T := TX7) (N := 11) hx hb hts i_X7 hown hK hP 0 rfl rfl 3 (Nat.le_of_ble_eq_true rfl) (hts _ q_137) (fun _ h9 => h9) rfl eX7_reckon_0.2.2.2.2.2.2.2.2.2.2.1 ?_
    refine va_alen (v := 40) hx hb hK hP 3 0 rfl rfl rfl eX7_reckon_0.2.2.2.2.2.2.2.2.2.2.2.1 ?_
    refine lv_icmp_ge (tgt := 136) hx hb eX7_reckon_0.2.2.2.2.2.2.2.2.2.2.2.2.1 (by decide) (fun hc => ?_) (fun hc => ?_)
    · have hp := hp.1 hc
      exact ks_X7_reckon_136 C0 x1 qQ H locs ls hp hP hD hS (lv_sub hl [0, 1] rfl)
    · have hp := hp.2 hc
      refine lv_aload_n hx hb eX7_reckon_0.2.2.2.2.2.2.2.2.2.2.2.2.2.1 rfl (lv_at hl 0 rfl) ?_
      refine va_get (D := (dC, dI)) (ci := 7) (v := .ref qY) (C := RX7) (T := TX7) (N := 11) hx hb hts i_X7 hown hK hP 0 rfl rfl 3 (Nat.le_of_ble_eq_true rfl) (hts _ q_137) (fun _ h9 => h9) rfl eX7_reckon_0.2.2.2.2.2.2.2.2.2.2.2.2.2.2.1 ?_
      refine lv_iload_n hx hb eX7_reckon_0.2.2.2.2.2.2.2.2.2.2.2.2.2.2.2 rfl (lv_at hl 2 rfl) ?_
      have hin := hp.1
      have hp := hp.2
      refine va_iald hx hb hK hP 3 0 rfl rfl hin eX7_reckon_26.1 ?_
      refine lv_topi (fun v_3 ev_3 => ?_)
      have hp := hp v_3 ev_3
      refine lv_istore_n (lv' := [(3, .int v_3), (0, .ref xH), (1, .int x1), (2, .int x2)]) hx hb eX7_reckon_26.2.1 rfl hl (by decide) rfl (fun ls hl => ?_)
      refine lv_iload_n hx hb eX7_reckon_26.2.2.1 rfl (lv_at hl 0 rfl) ?_
      refine lv_sipush (v := 2000) hx hb eX7_reckon_26.2.2.2.1 sp_2000 ?_
      refine lv_icmp_ge (tgt := 61) hx hb eX7_reckon_26.2.2.2.2.1 (by decide) (fun hc => ?_) (fun hc => ?_)
      · have hp := hp.1 hc
        refine lv_iload_n hx hb eX7_reckon_54.2.2.2.1 rfl (lv_at hl 0 rfl) ?_
        refine lv_sipush (v := 2256) hx hb eX7_reckon_54.2.2.2.2.1 sp_2256 ?_
        refine lv_icmp_ne (tgt := 92) hx hb eX7_reckon_54.2.2.2.2.2.1 (by decide) (fun hc => ?_) (fun hc => ?_)
        · have hp := hp.1 hc
          refine lv_iload_n hx hb eX7_reckon_73.2.2.2.2.2.2.2.2.2.2.2.2.2.1 rfl (lv_at hl 2 rfl) ?_
          refine lv_iconst (v := 1) hx hb eX7_reckon_73.2.2.2.2.2.2.2.2.2.2.2.2.2.2.1 ic_1 ?_
          refine lv_icmp_le (tgt := 130) hx hb eX7_reckon_73.2.2.2.2.2.2.2.2.2.2.2.2.2.2.2 (by decide) (fun hc => ?_) (fun hc => ?_)
          · have hp := hp.1 hc
            exact ks_X7_reckon_130 C0 hKn x1 x2 qQ H locs ls hp hP hD hS (lv_sub hl [1, 2, 3] rfl)
          · have hp := hp.2 hc
            obtain ⟨v_5, ev_5⟩ : ∃ y : Int32, y = x1 + (-1) := ⟨_, rfl⟩
            refine lv_iinc (v := v_5) (lv' := [(1, .int v_5), (3, .int v_3), (0, .ref xH), (2, .int x2)]) hx hb eX7_reckon_97.1 hl (k := 2) rfl (by rw [ev_5]; rfl) (by decide) rfl (fun ls hl => ?_)
            have hp := hp v_5 ev_5
            refine lv_aload_n hx hb eX7_reckon_97.2.1 rfl (lv_at hl 2 rfl) ?_
            refine va_get (D := (dC, dI)) (ci := 7) (v := .ref uR) (C := RX7) (T := TX7) (N := 11) hx hb hts i_X7 hown hK hP 0 rfl rfl 2 (Nat.le_of_ble_eq_true rfl) (hts _ q_284) (fun _ h9 => h9) rfl eX7_reckon_97.2.2.1 ?_
            refine lv_iload_n hx hb eX7_reckon_97.2.2.2.1 rfl (lv_at hl 0 rfl) ?_
            refine lv_iconst (v := 1) hx hb eX7_reckon_97.2.2.2.2.1 ic_1 ?_
            refine lv_isub hx hb eX7_reckon_97.2.2.2.2.2.1 ?_
            refine lv_topi (fun v_6 ev_6 => ?_)
            have hp := hp v_6 ev_6
            refine lv_iload_n hx hb eX7_reckon_97.2.2.2.2.2.2.1 rfl (lv_at hl 1 rfl) ?_
            refine lv_sipush (v := 2000) hx hb eX7_reckon_97.2.2.2.2.2.2.2.1 sp_2000 ?_
            refine lv_isub hx hb eX7_reckon_97.2.2.2.2.2.2.2.2.1 ?_
            refine lv_topi (fun v_7 ev_7 => ?_)
            have hp := hp v_7 ev_7
            refine lv_aload_n hx hb eX7_reckon_97.2.2.2.2.2.2.2.2.2.1 rfl (lv_at hl 2 rfl) ?_
            refine va_get (D := (dC, dI)) (ci := 7) (v := .ref uR) (C := RX7) (T := TX7) (N := 11) hx hb hts i_X7 hown hK hP 0 rfl rfl 2 (Nat.le_of_ble_eq_true rfl) (hts _ q_284) (fun _ h9 => h9) rfl eX7_reckon_97.2.2.2.2.2.2.2.2.2.2.1 ?_
            refine lv_iload_n hx hb eX7_reckon_97.2.2.2.2.2.2.2.2.2.2.2.1 rfl (lv_at hl 0 rfl) ?_
            refine lv_iconst (v := 1) hx hb eX7_reckon_97.2.2.2.2.2.2.2.2.2.2.2.2.1 ic_1 ?_
            refine lv_isub hx hb eX7_reckon_97.2.2.2.2.2.2.2.2.2.2.2.2.2.1 ?_
            refine lv_topi (fun v_8 ev_8 => ?_)
            have hp := hp v_8 ev_8
            have hin := hp.1
            have hp := hp.2
            refine va_iald hx hb hK hP 2 0 rfl rfl hin eX7_reckon_97.2.2.2.2.2.2.2.2.2.2.2.2.2.2.1 ?_
            refine lv_topi (fun v_9 ev_9 => ?_)
            have hp := hp v_9 ev_9
            refine lv_aload_n hx hb eX7_reckon_97.2.2.2.2.2.2.2.2.2.2.2.2.2.2.2 rfl (lv_at hl 2 rfl) ?_
            refine va_get (D := (dC, dI)) (ci := 7) (v := .ref uR) (C := RX7) (T := TX7) (N := 11) hx hb hts i_X7 hown hK hP 0 rfl rfl 2 (Nat.le_of_ble_eq_true rfl) (hts _ q_284) (fun _ h9 => h9) rfl eX7_reckon_121.1 ?_
            refine lv_iload_n hx hb eX7_reckon_121.2.1 rfl (lv_at hl 0 rfl) ?_
            have hin := hp.1
            have hp := hp.2
            refine va_iald hx hb hK hP 2 0 rfl rfl hin eX7_reckon_121.2.2.1 ?_
            refine lv_topi (fun v_10 ev_10 => ?_)
            have hp := hp v_10 ev_10
            have hm := mgk (wc := (wd_X7_join cI cC cZ cB cJ)) hP mk_50 4 rfl rfl rfl
            refine g_calli hP hD hS hA (mixT mk_50) (mixF mk_50) hm.1 hm.2 (nd_F _) (dis_g _) (g_runS (As := [.int v_7, .int v_9, .int v_10]) (rest := [.int v_6, .ref uR]) C0 hP hD hS (mixT mk_50) hm.1 (nd_T _) (c_X7_join l dC dI cI cC cZ cB cJ H.size v_7 v_9 v_10 _ hp) q_285 q_287 q_286 q_108 h_X7_join rfl rfl ⟨Nat.le_of_ble_eq_true rfl, Nat.le_of_ble_eq_true rfl⟩ rfl rfl hl.1 rfl (lv_room (Nat.le_of_ble_eq_true rfl)) eX7_reckon_121.2.2.2.1 ⟨Nat.zero_le _, Nat.zero_le _⟩) (fun r_11 u H locs hp hP hD hS => ?_)
            have hPD := PDm (ws' := (wd_X7_reckon cI cC cZ cB cJ xH uS sW uR qY sY pG qB sH uP pQ mW qO qQ oF)) hP hD 4 rfl rfl rfl
            have hP := hPD.1
            have hD := hPD.2
            have hin := hp.1
            have hp := hp.2
            refine va_iast hx hb hK hP hD hS 2 0 rfl rfl hin eX7_reckon_121.2.2.2.2.1 (fun H locs hP hD hS => ?_)
            have hP : va_P (dC, dI) classes (wd_X7_reckon cI cC cZ cB cJ xH uS sW uR qY sY pG qB sH uP pQ mW qO (upd qQ v_6.toNatClampNeg r_11) oF) H := hP
            have hD : va_D A (wd_X7_reckon cI cC cZ cB cJ xH uS sW uR qY sY pG qB sH uP pQ mW qO (upd qQ v_6.toNatClampNeg r_11) oF) := hD
            exact ks_X7_reckon_130 C0 hKn v_5 x2 (upd qQ v_6.toNatClampNeg r_11) H locs ls hp hP hD hS (lv_sub hl [2, 0, 3] rfl)
        · have hp := hp.2 hc
          refine lv_iload_n hx hb eX7_reckon_54.2.2.2.2.2.2.1 rfl (lv_at hl 2 rfl) ?_
          refine lv_if_le (tgt := 130) hx hb eX7_reckon_54.2.2.2.2.2.2.2.1 (by decide) (fun hc => ?_) (fun hc => ?_)
          · have hp := hp.1 hc
            exact ks_X7_reckon_130 C0 hKn x1 x2 qQ H locs ls hp hP hD hS (lv_sub hl [1, 2, 3] rfl)
          · have hp := hp.2 hc
            refine lv_aload_n hx hb eX7_reckon_54.2.2.2.2.2.2.2.2 rfl (lv_at hl 1 rfl) ?_
            refine va_get (D := (dC, dI)) (ci := 7) (v := .ref uR) (C := RX7) (T := TX7) (N := 11) hx hb hts i_X7 hown hK hP 0 rfl rfl 2 (Nat.le_of_ble_eq_true rfl) (hts _ q_284) (fun _ h9 => h9) rfl eX7_reckon_73.1 ?_
            refine lv_iload_n hx hb eX7_reckon_73.2.1 rfl (lv_at hl 2 rfl) ?_
            refine lv_iconst (v := 1) hx hb eX7_reckon_73.2.2.1 ic_1 ?_
            refine lv_isub hx hb eX7_reckon_73.2.2.2.1 ?_
            refine lv_topi (fun v_12 ev_12 => ?_)
            have hp := hp v_12 ev_12
            refine lv_aload_n hx hb eX7_reckon_73.2.2.2.2.1 rfl (lv_at hl 1 rfl) ?_
            refine va_get (D := (dC, dI)) (ci := 7) (v := .ref uR) (C := RX7) (T := TX7) (N := 11) hx hb hts i_X7 hown hK hP 0 rfl rfl 2 (Nat.le_of_ble_eq_true rfl) (hts _ q_284) (fun _ h9 => h9) rfl eX7_reckon_73.2.2.2.2.2.1 ?_
            refine lv_iload_n hx hb eX7_reckon_73.2.2.2.2.2.2.1 rfl (lv_at hl 2 rfl) ?_
            refine lv_iconst (v := 1) hx hb eX7_reckon_73.2.2.2.2.2.2.2.1 ic_1 ?_
            refine lv_isub hx hb eX7_reckon_73.2.2.2.2.2.2.2.2.1 ?_
            refine lv_topi (fun v_13 ev_13 => ?_)
            have hp := hp v_13 ev_13
            have hin := hp.1
            have hp := hp.2
            refine va_iald hx hb hK hP 2 0 rfl rfl hin eX7_reckon_73.2.2.2.2.2.2.2.2.2.1 ?_
            refine lv_ineg hx hb eX7_reckon_73.2.2.2.2.2.2.2.2.2.2.1 ?_
            refine lv_topi (fun v_14 ev_14 => ?_)
            have hp := hp v_14 ev_14
            have hin := hp.1
            have hp := hp.2
            refine va_iast hx hb hK hP hD hS 2 0 rfl rfl hin eX7_reckon_73.2.2.2.2.2.2.2.2.2.2.2.1 (fun H locs hP hD hS => ?_)
            have hP : va_P (dC, dI) classes (wd_X7_reckon cI cC cZ cB cJ xH uS sW uR qY sY pG qB sH uP pQ mW qO (upd qQ v_12.toNatClampNeg v_14) oF) H := hP
            have hD : va_D A (wd_X7_reckon cI cC cZ cB cJ xH uS sW uR qY sY pG qB sH uP pQ mW qO (upd qQ v_12.toNatClampNeg v_14) oF) := hD
            refine lv_goto (tgt := 130) hx hb eX7_reckon_73.2.2.2.2.2.2.2.2.2.2.2.2.1 (by decide) ?_
            exact ks_X7_reckon_130 C0 hKn x1 x2 (upd qQ v_12.toNatClampNeg v_14) H locs ls hp hP hD hS (lv_sub hl [1, 2, 3] rfl)
      · have hp := hp.2 hc
        refine lv_iload_n hx hb eX7_reckon_26.2.2.2.2.2.1 rfl (lv_at hl 2 rfl) ?_
        refine lv_aload_n hx hb eX7_reckon_26.2.2.2.2.2.2.1 rfl (lv_at hl 1 rfl) ?_
        refine va_get (D := (dC, dI)) (ci := 7) (v := .ref uR) (C := RX7) (T := TX7) (N := 11) hx hb hts i_X7 hown hK hP 0 rfl rfl 2 (Nat.le_of_ble_eq_true rfl) (hts _ q_284) (fun _ h9 => h9) rfl eX7_reckon_26.2.2.2.2.2.2.2.1 ?_
        refine va_alen (v := 40) hx hb hK hP 2 0 rfl rfl rfl eX7_reckon_26.2.2.2.2.2.2.2.2.1 ?_
        refine lv_icmp_ge (tgt := 130) hx hb eX7_reckon_26.2.2.2.2.2.2.2.2.2.1 (by decide) (fun hc => ?_) (fun hc => ?_)
        · have hp := hp.1 hc
          exact ks_X7_reckon_130 C0 hKn x1 x2 qQ H locs ls hp hP hD hS (lv_sub hl [1, 2, 3] rfl)
        · have hp := hp.2 hc
          refine lv_aload_n hx hb eX7_reckon_26.2.2.2.2.2.2.2.2.2.2.1 rfl (lv_at hl 1 rfl) ?_
          refine va_get (D := (dC, dI)) (ci := 7) (v := .ref uR) (C := RX7) (T := TX7) (N := 11) hx hb hts i_X7 hown hK hP 0 rfl rfl 2 (Nat.le_of_ble_eq_true rfl) (hts _ q_284) (fun _ h9 => h9) rfl eX7_reckon_26.2.2.2.2.2.2.2.2.2.2.2.1 ?_
          refine lv_iload_n hx hb eX7_reckon_26.2.2.2.2.2.2.2.2.2.2.2.2.1 rfl (lv_at hl 2 rfl) ?_
          refine lv_aload_n hx hb eX7_reckon_26.2.2.2.2.2.2.2.2.2.2.2.2.2.1 rfl (lv_at hl 1 rfl) ?_
          refine lv_iload_n hx hb eX7_reckon_26.2.2.2.2.2.2.2.2.2.2.2.2.2.2.1 rfl (lv_at hl 0 rfl) ?_
          have hm := mgk (wc := (wd_X7_meant cI cC cZ cB cJ xH uS sW uR qY sY pG qB sH uP pQ mW qO)) hP mk_1 4 rfl rfl rfl
          refine g_calli hP hD hS hA (mixT mk_1) (mixF mk_1) hm.1 hm.2 (nd_F _) (dis_g _) (g_runV (As := [.int v_3]) (rest := [.int x1, .ref uR]) C0 hP hD hS (mixT mk_1) hm.1 (nd_T _) 0 7 rfl rfl (c_X7_meant l dC dI cI cC cZ cB cJ xH uS sW uR qY sY H.size v_3 pG qB sH uP pQ mW qO _ hp) q_288 q_291 q_289 q_290 q_108 h_X7_meant rfl rfl ⟨Nat.le_of_ble_eq_true rfl, Nat.le_of_ble_eq_true rfl⟩ rfl rfl hl.1 rfl (lv_room (Nat.le_of_ble_eq_true rfl)) eX7_reckon_26.2.2.2.2.2.2.2.2.2.2.2.2.2.2.2 ⟨Nat.zero_le _, Nat.zero_le _⟩) (fun r_15 u H locs hp hP hD hS => ?_)
          have hPD := PDm (ws' := (wd_X7_reckon cI cC cZ cB cJ xH uS sW uR qY sY pG qB sH uP pQ mW qO qQ oF)) hP hD 4 rfl rfl rfl
          have hP := hPD.1
          have hD := hPD.2
          have hin := hp.1
          have hp := hp.2
          refine va_iast hx hb hK hP hD hS 2 0 rfl rfl hin eX7_reckon_54.1 (fun H locs hP hD hS => ?_)
          have hP : va_P (dC, dI) classes (wd_X7_reckon cI cC cZ cB cJ xH uS sW uR qY sY pG qB sH uP pQ mW qO (upd qQ x1.toNatClampNeg r_15) oF) H := hP
          have hD : va_D A (wd_X7_reckon cI cC cZ cB cJ xH uS sW uR qY sY pG qB sH uP pQ mW qO (upd qQ x1.toNatClampNeg r_15) oF) := hD
          obtain ⟨v_16, ev_16⟩ : ∃ y : Int32, y = x1 + 1 := ⟨_, rfl⟩
          refine lv_iinc (v := v_16) (lv' := [(1, .int v_16), (3, .int v_3), (0, .ref xH), (2, .int x2)]) hx hb eX7_reckon_54.2.1 hl (k := 2) rfl (by rw [ev_16]; rfl) (by decide) rfl (fun ls hl => ?_)
          have hp := hp v_16 ev_16
          refine lv_goto (tgt := 130) hx hb eX7_reckon_54.2.2.1 (by decide) ?_
          exact ks_X7_reckon_130 C0 hKn v_16 x2 (upd qQ x1.toNatClampNeg r_15) H locs ls hp hP hD hS (lv_sub hl [2, 0, 3] rfl)
set_option maxHeartbeats 4000000 in
set_option maxRecDepth 100000 in
theorem kb_X7_reckon_4 (C0 : gc cX7_reckon (some .int) 4 RX7 (dC, dI) (tyl cI cC cZ cB cJ) A p s m args meth c) : ∀ (n : Nat), ∀ (x1 x2 : Int32) (qQ : Nat → Int32) (H : Heap) (locs : List Loc) (ls : Array Slot), (wb_X7_reckon_4 post pG qO oF n) x1 x2 qQ → va_P (dC, dI) classes (wd_X7_reckon cI cC cZ cB cJ xH uS sW uR qY sY pG qB sH uP pQ mW qO qQ oF) H → va_D A (wd_X7_reckon cI cC cZ cB cJ xH uS sW uR qY sY pG qB sH uP pQ mW qO qQ oF) → va_S A s.heap H locs → lv_has ls 4 [(0, .ref xH), (1, .int x1), (2, .int x2)] → W p l e rm_X7_reckon s m args below meth c H locs 0 0 (MQ below (q_X7_reckon dC dI cI cC cZ cB cJ A xH uS sW uR qY sY pG qB sH uP pQ mW qO oF post) args s 0 0 A) (F0 m 4 ls []) := by
  intro n
  induction n with
  | zero =>
    intro x1 x2 qQ H locs ls hp
    exact False.elim hp
  | succ n ih =>
    intro x1 x2 qQ H locs ls hp
    exact ks_X7_reckon_4 C0 ih x1 x2 qQ H locs ls hp
end S_X7_reckon
noncomputable def wp_X7_reckon (post : Int32 → (Nat → Int32) → Prop) (pG : Int32) (qO qQ oF : Nat → Int32) : Prop := ∃ n : Nat, wb_X7_reckon_4 post pG qO oF n 0 0 qQ
set_option maxHeartbeats 4000000 in
set_option maxRecDepth 100000 in
theorem c_X7_reckon (l : Launch) (dC : Nat → ClassId) (dI : Nat → Nat → Nat) (cI cC cZ cB cJ : ClassId) (xH uS sW uR qY sY sz : Nat) (pG qB sH uP pQ mW : Int32) (qO qQ oF : Nat → Int32) (post : Int32 → (Nat → Int32) → Prop) (hw : wp_X7_reckon post pG qO qQ oF) : Met l yX7_reckon (gw yX7_reckon cX7_reckon 4 (some .int)) rm_X7_reckon (va_Pc [.ref xH] (gPre (dC, dI) (tyl cI cC cZ cB cJ) (wd_X7_reckon cI cC cZ cB cJ xH uS sW uR qY sY pG qB sH uP pQ mW qO qQ oF) sz)) (q_X7_reckon dC dI cI cC cZ cB cJ (va_A (wd_X7_reckon cI cC cZ cB cJ xH uS sW uR qY sY pG qB sH uP pQ mW qO qQ oF) sz) xH uS sW uR qY sY pG qB sH uP pQ mW qO oF post) 0 0 (va_A (wd_X7_reckon cI cC cZ cB cJ xH uS sW uR qY sY pG qB sH uP pQ mW qO qQ oF) sz) := by
  refine g_enter (own := RX7) (dC, dI) (tyl cI cC cZ cB cJ) (wd_X7_reckon cI cC cZ cB cJ xH uS sW uR qY sY pG qB sH uP pQ mW qO qQ oF) sz [.ref xH] (fun A => q_X7_reckon dC dI cI cC cZ cB cJ A xH uS sW uR qY sY pG qB sH uP pQ mW qO oF post) pn_RX7 rfl (Nat.le_of_ble_eq_true rfl) ?_
  intro p e s m args below meth c A H locs ls C0 hP hD hS hl
  have hl : lv_has ls 4 [(0, .ref xH)] := hl
  obtain ⟨hx, hb, hr, hml, hown, hts, hlocks, hA, hK, hN, tL, tM, hZL, hTL, hZM, hTM, hZX⟩ := id C0
  have hp := hw
  unfold wp_X7_reckon at hp
  refine lv_iconst (v := 0) hx hb eX7_reckon_0.1 ic_0 ?_
  refine lv_istore_n (lv' := [(1, .int 0), (0, .ref xH)]) hx hb eX7_reckon_0.2.1 rfl hl (by decide) rfl (fun ls hl => ?_)
  refine lv_iconst (v := 0) hx hb eX7_reckon_0.2.2.1 ic_0 ?_
  refine lv_istore_n (lv' := [(2, .int 0), (1, .int 0), (0, .ref xH)]) hx hb eX7_reckon_0.2.2.2.1 rfl hl (by decide) rfl (fun ls hl => ?_)
  obtain ⟨n9, hp⟩ := hp
  exact kb_X7_reckon_4 C0 n9 0 0 qQ H locs ls hp hP hD hS (lv_sub hl [2, 1, 0] rfl)
noncomputable abbrev wd_X0_pickSeconds (cI cC cZ cB cJ : ClassId) (wY wJ wQ xH tX jE mX pD oO oQ eG uS sW uR qY sY : Nat) (bZ bD bI aI : Int32) (wD gF pE nJ nY : Nat → Int32) (jC eO eW dO fJ fY jD nG pG qB sH uP pQ mW : Int32) (qO qQ oF : Nat → Int32) : va_W := [(wY, .inr (0, [.ref wJ, .ref wQ, .ref xH])), (wJ, .inr (3, [.ref tX, .ref jE, .ref mX, .ref pD, .ref oO, .ref oQ, .ref eG, .int bZ, .int bD, .int bI, .int aI])), (tX, .inl (cI, 16, .inl wD)), (jE, .inl (cI, 16, .inl gF)), (mX, .inl (cI, 16, .inl pE)), (oO, .inl (cI, 8, .inl nJ)), (oQ, .inl (cI, 8, .inl nY)), (wQ, .inr (2, [.int jC, .int eO, .int eW, .int dO, .int fJ, .int fY, .int jD, .int nG])), (xH, .inr (7, [.ref uS, .ref sW, .ref uR, .ref qY, .ref sY, .int pG, .int qB, .int sH, .int uP, .int pQ, .int mW])), (uS, .inl (cI, 7, .inl qO)), (uR, .inl (cI, 40, .inl qQ)), (qY, .inl (cI, 40, .inl oF))]
noncomputable abbrev q_X0_pickSeconds (dC : Nat → ClassId) (dI : Nat → Nat → Nat) (cI cC cZ cB cJ : ClassId) (A : Nat → Prop) (wY wJ wQ xH tX jE mX pD oO oQ eG uS sW uR qY sY : Nat) (bZ bD bI aI : Int32) (wD gF pE nJ nY : Nat → Int32) (jC eO eW dO fJ fY jD nG pG qB sH uP pQ mW : Int32) (oF : Nat → Int32) (post : Int32 → (Nat → Int32) → (Nat → Int32) → Prop) : Array Value → State → Outcome → State → Prop := va_Qi (fun (r : Int32) (u : (Nat → Int32) × (Nat → Int32)) => post r u.1 u.2) (fun u t => gB (dC, dI) (tyl cI cC cZ cB cJ) A (wd_X0_pickSeconds cI cC cZ cB cJ wY wJ wQ xH tX jE mX pD oO oQ eG uS sW uR qY sY bZ bD bI aI wD gF pE nJ nY jC eO eW dO fJ fY jD nG pG qB sH uP pQ mW u.1 u.2 oF) t) A
noncomputable abbrev rm_X0_pickSeconds : Room := { frames := 2, cells := 0, slots := 0, locals := 45 }
section S_X0_pickSeconds
variable {p : Program} {l : Launch} {e : Env} {s : State} {m : MethodId} {args : Array Value} {below : List Frame} {meth : Method} {c : Code} {dC : Nat → ClassId} {dI : Nat → Nat → Nat} {cI cC cZ cB cJ : ClassId} {A : Nat → Prop} {wY wJ wQ xH tX jE mX pD oO oQ eG uS sW uR qY sY : Nat} {bZ bD bI aI : Int32} {wD gF pE nJ nY : Nat → Int32} {jC eO eW dO fJ fY jD nG pG qB sH uP pQ mW : Int32} {oF : Nat → Int32} {post : Int32 → (Nat → Int32) → (Nat → Int32) → Prop}
noncomputable def ws_X0_pickSeconds_123 (post : Int32 → (Nat → Int32) → (Nat → Int32) → Prop) (bZ : Int32) (wD gF pE nJ nY : Nat → Int32) (dO pG : Int32) (oF : Nat → Int32) (k0 : Int32) (qO qQ : Nat → Int32) : Prop := ∀ v_8 : Int32, v_8 = (if k0 < 99 then k0 else 99) → ∀ v_9 : Int32, v_9 = (if 1 < v_8 then v_8 else 1) → post v_9 qO qQ
set_option maxHeartbeats 4000000 in
set_option maxRecDepth 100000 in
theorem ks_X0_pickSeconds_123 (C0 : gc cX0_pickSeconds (some .int) 9 RX0 (dC, dI) (tyl cI cC cZ cB cJ) A p s m args meth c) : ∀ (k0 : Int32) (qO qQ : Nat → Int32) (H : Heap) (locs : List Loc) (ls : Array Slot), (ws_X0_pickSeconds_123 post bZ wD gF pE nJ nY dO pG oF) k0 qO qQ → va_P (dC, dI) classes (wd_X0_pickSeconds cI cC cZ cB cJ wY wJ wQ xH tX jE mX pD oO oQ eG uS sW uR qY sY bZ bD bI aI wD gF pE nJ nY jC eO eW dO fJ fY jD nG pG qB sH uP pQ mW qO qQ oF) H → va_D A (wd_X0_pickSeconds cI cC cZ cB cJ wY wJ wQ xH tX jE mX pD oO oQ eG uS sW uR qY sY bZ bD bI aI wD gF pE nJ nY jC eO eW dO fJ fY jD nG pG qB sH uP pQ mW qO qQ oF) → va_S A s.heap H locs → lv_has ls 9 [] → W p l e rm_X0_pickSeconds s m args below meth c H locs 0 0 (MQ below (q_X0_pickSeconds dC dI cI cC cZ cB cJ A wY wJ wQ xH tX jE mX pD oO oQ eG uS sW uR qY sY bZ bD bI aI wD gF pE nJ nY jC eO eW dO fJ fY jD nG pG qB sH uP pQ mW oF post) args s 0 0 A) (F0 m 123 ls [.int k0]) := by
  obtain ⟨hx, hb, hr, hml, hown, hts, hlocks, hA, hK, hN, tL, tM, hZL, hTL, hZM, hTM, hZX⟩ := id C0
  intro k0 qO qQ H locs ls hp hP hD hS hl
  unfold ws_X0_pickSeconds_123 at hp
  refine lv_istore (lv' := [(8, .int k0)]) hx hb eX0_pickSeconds_107.2.2.2.2.2.2.2.2.2.1 hl (by decide) rfl (fun ls hl => ?_)
  refine lv_iconst (v := 1) hx hb eX0_pickSeconds_107.2.2.2.2.2.2.2.2.2.2.1 ic_1 ?_
  refine lv_bipush (v := 99) hx hb eX0_pickSeconds_107.2.2.2.2.2.2.2.2.2.2.2.1 bp_99 ?_
  refine lv_iload hx hb eX0_pickSeconds_107.2.2.2.2.2.2.2.2.2.2.2.2.1 (lv_at hl 0 rfl) ?_
  refine va_mmin hx hb (by rw [hml]; exact hl.1.symm) hown (hts _ q_306) (hts _ q_15) (hts _ q_16) (hts _ q_17) (Nat.le_of_ble_eq_true rfl) (Nat.le_of_ble_eq_true rfl) (Nat.zero_le _) (Nat.zero_le _) eX0_pickSeconds_107.2.2.2.2.2.2.2.2.2.2.2.2.2.1 ?_
  refine lv_topi (fun v_8 ev_8 => ?_)
  have hp := hp v_8 ev_8
  refine va_mmax hx hb (by rw [hml]; exact hl.1.symm) hown (hts _ q_307) (hts _ q_134) (hts _ q_16) (hts _ q_135) (Nat.le_of_ble_eq_true rfl) (Nat.le_of_ble_eq_true rfl) (Nat.zero_le _) (Nat.zero_le _) eX0_pickSeconds_107.2.2.2.2.2.2.2.2.2.2.2.2.2.2.1 ?_
  refine lv_topi (fun v_9 ev_9 => ?_)
  have hp := hp v_9 ev_9
  exact W.iret (v := v_9) hx hb hr (fun t ht hW => ⟨⟨v_9, (qO, qQ), rfl, hp, by rw [ht]; exact hP, va_K.moved hW.alike hK, hD⟩, hS.F ht⟩) hS.2.2 eX0_pickSeconds_107.2.2.2.2.2.2.2.2.2.2.2.2.2.2.2
noncomputable def ws_X0_pickSeconds_92 (post : Int32 → (Nat → Int32) → (Nat → Int32) → Prop) (bZ : Int32) (wD gF pE nJ nY : Nat → Int32) (dO pG : Int32) (oF : Nat → Int32) (x6 x7 : Int32) (qO qQ : Nat → Int32) : Prop := (¬ pG = 0 → wp_X7_reckon (fun r_6 aF4 => ws_X0_pickSeconds_123 post bZ wD gF pE nJ nY dO pG oF r_6 qO aF4) pG qO qQ oF) ∧ (pG = 0 → ∀ v_10 : Int32, v_10 = 2 + (x6 / 4) → ∀ v_11 : Int32, v_11 = v_10 + (x7 / 2) → ws_X0_pickSeconds_123 post bZ wD gF pE nJ nY dO pG oF v_11 qO qQ)
set_option maxHeartbeats 4000000 in
set_option maxRecDepth 100000 in
theorem ks_X0_pickSeconds_92 (C0 : gc cX0_pickSeconds (some .int) 9 RX0 (dC, dI) (tyl cI cC cZ cB cJ) A p s m args meth c) : ∀ (x6 x7 : Int32) (qO qQ : Nat → Int32) (H : Heap) (locs : List Loc) (ls : Array Slot), (ws_X0_pickSeconds_92 post bZ wD gF pE nJ nY dO pG oF) x6 x7 qO qQ → va_P (dC, dI) classes (wd_X0_pickSeconds cI cC cZ cB cJ wY wJ wQ xH tX jE mX pD oO oQ eG uS sW uR qY sY bZ bD bI aI wD gF pE nJ nY jC eO eW dO fJ fY jD nG pG qB sH uP pQ mW qO qQ oF) H → va_D A (wd_X0_pickSeconds cI cC cZ cB cJ wY wJ wQ xH tX jE mX pD oO oQ eG uS sW uR qY sY bZ bD bI aI wD gF pE nJ nY jC eO eW dO fJ fY jD nG pG qB sH uP pQ mW qO qQ oF) → va_S A s.heap H locs → lv_has ls 9 [(0, .ref wY), (6, .int x6), (7, .int x7)] → W p l e rm_X0_pickSeconds s m args below meth c H locs 0 0 (MQ below (q_X0_pickSeconds dC dI cI cC cZ cB cJ A wY wJ wQ xH tX jE mX pD oO oQ eG uS sW uR qY sY bZ bD bI aI wD gF pE nJ nY jC eO eW dO fJ fY jD nG pG qB sH uP pQ mW oF post) args s 0 0 A) (F0 m 92 ls []) := by
  obtain ⟨hx, hb, hr, hml, hown, hts, hlocks, hA, hK, hN, tL, tM, hZL, hTL, hZM, hTM, hZX⟩ := id C0
  intro x6 x7 qO qQ H locs ls hp hP hD hS hl
  unfold ws_X0_pickSeconds_92 at hp
  refine lv_aload_n hx hb eX0_pickSeconds_80.2.2.2.2.2.2.2.2.1 rfl (lv_at hl 0 rfl) ?_
  refine va_get (D := (dC, dI)) (ci := 0) (v := .ref xH) (C := RX0) (T := TX0) (N := 3) hx hb hts i_X0 hown hK hP 0 rfl rfl 2 (Nat.le_of_ble_eq_true rfl) (hts _ q_292) (fun _ h9 => h9) rfl eX0_pickSeconds_80.2.2.2.2.2.2.2.2.2.1 ?_
  refine va_get (D := (dC, dI)) (ci := 7) (v := .int pG) (C := RX7) (T := TX7) (N := 11) hx hb hts i_X7 hown hK hP 8 rfl rfl 5 (Nat.le_of_ble_eq_true rfl) (hts _ q_301) (fun _ h9 => h9) rfl eX0_pickSeconds_80.2.2.2.2.2.2.2.2.2.2.1 ?_
  refine lv_if_ne (tgt := 116) hx hb eX0_pickSeconds_80.2.2.2.2.2.2.2.2.2.2.2.1 (by decide) (fun hc => ?_) (fun hc => ?_)
  · have hp := hp.1 hc
    refine lv_aload_n hx hb eX0_pickSeconds_107.2.2.2.2.2.2.1 rfl (lv_at hl 0 rfl) ?_
    refine va_get (D := (dC, dI)) (ci := 0) (v := .ref xH) (C := RX0) (T := TX0) (N := 3) hx hb hts i_X0 hown hK hP 0 rfl rfl 2 (Nat.le_of_ble_eq_true rfl) (hts _ q_292) (fun _ h9 => h9) rfl eX0_pickSeconds_107.2.2.2.2.2.2.2.1 ?_
    have hm := mgk (wc := (wd_X7_reckon cI cC cZ cB cJ xH uS sW uR qY sY pG qB sH uP pQ mW qO qQ oF)) hP mk_51 12 rfl rfl rfl
    refine g_calli hP hD hS hA (mixT mk_51) (mixF mk_51) hm.1 hm.2 (nd_F _) (dis_g _) (g_runV (As := []) (rest := []) C0 hP hD hS (mixT mk_51) hm.1 (nd_T _) 8 7 rfl rfl (c_X7_reckon l dC dI cI cC cZ cB cJ xH uS sW uR qY sY H.size pG qB sH uP pQ mW qO qQ oF _ hp) q_302 q_305 q_303 q_304 q_108 h_X7_reckon rfl rfl ⟨Nat.le_of_ble_eq_true rfl, Nat.le_of_ble_eq_true rfl⟩ rfl rfl hl.1 rfl (lv_room (Nat.le_of_ble_eq_true rfl)) eX0_pickSeconds_107.2.2.2.2.2.2.2.2.1 ⟨Nat.zero_le _, Nat.zero_le _⟩) (fun r_6 u H locs hp hP hD hS => ?_)
    obtain ⟨aF4, rfl⟩ : ∃ z, z = u := ⟨_, rfl⟩
    have hPD := PDm (ws' := (wd_X0_pickSeconds cI cC cZ cB cJ wY wJ wQ xH tX jE mX pD oO oQ eG uS sW uR qY sY bZ bD bI aI wD gF pE nJ nY jC eO eW dO fJ fY jD nG pG qB sH uP pQ mW qO aF4 oF)) hP hD 12 rfl rfl rfl
    have hP := hPD.1
    have hD := hPD.2
    exact ks_X0_pickSeconds_123 C0 r_6 qO aF4 H locs ls hp hP hD hS (lv_sub hl [] rfl)
  · have hp := hp.2 hc
    refine lv_iconst (v := 2) hx hb eX0_pickSeconds_80.2.2.2.2.2.2.2.2.2.2.2.2.1 ic_2 ?_
    refine lv_iload hx hb eX0_pickSeconds_80.2.2.2.2.2.2.2.2.2.2.2.2.2.1 (lv_at hl 1 rfl) ?_
    refine lv_iconst (v := 4) hx hb eX0_pickSeconds_80.2.2.2.2.2.2.2.2.2.2.2.2.2.2.1 ic_4 ?_
    refine lv_idiv hx hb eX0_pickSeconds_80.2.2.2.2.2.2.2.2.2.2.2.2.2.2.2 (by decide) ?_
    refine lv_iadd hx hb eX0_pickSeconds_107.1 ?_
    refine lv_topi (fun v_10 ev_10 => ?_)
    have hp := hp v_10 ev_10
    refine lv_iload hx hb eX0_pickSeconds_107.2.1 (lv_at hl 2 rfl) ?_
    refine lv_iconst (v := 2) hx hb eX0_pickSeconds_107.2.2.1 ic_2 ?_
    refine lv_idiv hx hb eX0_pickSeconds_107.2.2.2.1 (by decide) ?_
    refine lv_iadd hx hb eX0_pickSeconds_107.2.2.2.2.1 ?_
    refine lv_topi (fun v_11 ev_11 => ?_)
    have hp := hp v_11 ev_11
    refine lv_goto (tgt := 123) hx hb eX0_pickSeconds_107.2.2.2.2.2.1 (by decide) ?_
    exact ks_X0_pickSeconds_123 C0 v_11 qO qQ H locs ls hp hP hD hS (lv_sub hl [] rfl)
end S_X0_pickSeconds
noncomputable def wp_X0_pickSeconds (post : Int32 → (Nat → Int32) → (Nat → Int32) → Prop) (p0 p1 p2 p3 bZ : Int32) (wD gF pE nJ nY : Nat → Int32) (dO pG : Int32) (qO qQ oF : Nat → Int32) : Prop := wp_X3_aside (fun r_1 => wp_X3_above (fun r_2 => vp_in p0 16 ∧ (∀ v_3 : Int32, v_3 = gF p0.toNatClampNeg → ∀ v_4 : Int32, v_4 = 1 <<< (p0 &&& 31) → wp_X0_worthOf (fun r_5 => ws_X0_pickSeconds_92 post bZ wD gF pE nJ nY dO pG oF r_1 r_2 (upd (upd (upd (upd (upd (upd (upd qO (0 : Int32).toNatClampNeg r_1) (1 : Int32).toNatClampNeg r_2) (2 : Int32).toNatClampNeg v_3) (3 : Int32).toNatClampNeg r_5) (4 : Int32).toNatClampNeg p1) (5 : Int32).toNatClampNeg p3) (6 : Int32).toNatClampNeg p2) qQ) v_4 bZ pE dO)) p0 p1 gF nY) p0 p1 wD nJ
set_option maxHeartbeats 4000000 in
set_option maxRecDepth 100000 in
theorem c_X0_pickSeconds (l : Launch) (dC : Nat → ClassId) (dI : Nat → Nat → Nat) (cI cC cZ cB cJ : ClassId) (wY wJ wQ xH tX jE mX pD oO oQ eG uS sW uR qY sY sz : Nat) (p0 p1 p2 p3 bZ bD bI aI : Int32) (wD gF pE nJ nY : Nat → Int32) (jC eO eW dO fJ fY jD nG pG qB sH uP pQ mW : Int32) (qO qQ oF : Nat → Int32) (post : Int32 → (Nat → Int32) → (Nat → Int32) → Prop) (hw : wp_X0_pickSeconds post p0 p1 p2 p3 bZ wD gF pE nJ nY dO pG qO qQ oF) : Met l yX0_pickSeconds (gw yX0_pickSeconds cX0_pickSeconds 9 (some .int)) rm_X0_pickSeconds (va_Pc [.ref wY, .int p0, .int p1, .int p2, .int p3] (gPre (dC, dI) (tyl cI cC cZ cB cJ) (wd_X0_pickSeconds cI cC cZ cB cJ wY wJ wQ xH tX jE mX pD oO oQ eG uS sW uR qY sY bZ bD bI aI wD gF pE nJ nY jC eO eW dO fJ fY jD nG pG qB sH uP pQ mW qO qQ oF) sz)) (q_X0_pickSeconds dC dI cI cC cZ cB cJ (va_A (wd_X0_pickSeconds cI cC cZ cB cJ wY wJ wQ xH tX jE mX pD oO oQ eG uS sW uR qY sY bZ bD bI aI wD gF pE nJ nY jC eO eW dO fJ fY jD nG pG qB sH uP pQ mW qO qQ oF) sz) wY wJ wQ xH tX jE mX pD oO oQ eG uS sW uR qY sY bZ bD bI aI wD gF pE nJ nY jC eO eW dO fJ fY jD nG pG qB sH uP pQ mW oF post) 0 0 (va_A (wd_X0_pickSeconds cI cC cZ cB cJ wY wJ wQ xH tX jE mX pD oO oQ eG uS sW uR qY sY bZ bD bI aI wD gF pE nJ nY jC eO eW dO fJ fY jD nG pG qB sH uP pQ mW qO qQ oF) sz) := by
  refine g_enter (own := RX0) (dC, dI) (tyl cI cC cZ cB cJ) (wd_X0_pickSeconds cI cC cZ cB cJ wY wJ wQ xH tX jE mX pD oO oQ eG uS sW uR qY sY bZ bD bI aI wD gF pE nJ nY jC eO eW dO fJ fY jD nG pG qB sH uP pQ mW qO qQ oF) sz [.ref wY, .int p0, .int p1, .int p2, .int p3] (fun A => q_X0_pickSeconds dC dI cI cC cZ cB cJ A wY wJ wQ xH tX jE mX pD oO oQ eG uS sW uR qY sY bZ bD bI aI wD gF pE nJ nY jC eO eW dO fJ fY jD nG pG qB sH uP pQ mW oF post) pn_RX0 rfl (Nat.le_of_ble_eq_true rfl) ?_
  intro p e s m args below meth c A H locs ls C0 hP hD hS hl
  have hl : lv_has ls 9 [(0, .ref wY), (1, .int p0), (2, .int p1), (3, .int p2), (4, .int p3)] := hl
  obtain ⟨hx, hb, hr, hml, hown, hts, hlocks, hA, hK, hN, tL, tM, hZL, hTL, hZM, hTM, hZX⟩ := id C0
  have hp := hw
  unfold wp_X0_pickSeconds at hp
  refine lv_aload_n hx hb eX0_pickSeconds_0.1 rfl (lv_at hl 0 rfl) ?_
  refine va_get (D := (dC, dI)) (ci := 0) (v := .ref xH) (C := RX0) (T := TX0) (N := 3) hx hb hts i_X0 hown hK hP 0 rfl rfl 2 (Nat.le_of_ble_eq_true rfl) (hts _ q_292) (fun _ h9 => h9) rfl eX0_pickSeconds_0.2.1 ?_
  refine va_get (D := (dC, dI)) (ci := 7) (v := .ref uS) (C := RX7) (T := TX7) (N := 11) hx hb hts i_X7 hown hK hP 8 rfl rfl 0 (Nat.le_of_ble_eq_true rfl) (hts _ q_293) (fun _ h9 => h9) rfl eX0_pickSeconds_0.2.2.1 ?_
  refine lv_astore (lv' := [(5, .ref uS), (0, .ref wY), (1, .int p0), (2, .int p1), (3, .int p2), (4, .int p3)]) hx hb eX0_pickSeconds_0.2.2.2.1 hl (by decide) rfl (fun ls hl => ?_)
  refine lv_aload_n hx hb eX0_pickSeconds_0.2.2.2.2.1 rfl (lv_at hl 1 rfl) ?_
  refine va_get (D := (dC, dI)) (ci := 0) (v := .ref wJ) (C := RX0) (T := TX0) (N := 3) hx hb hts i_X0 hown hK hP 0 rfl rfl 0 (Nat.le_of_ble_eq_true rfl) (hts _ q_156) (fun _ h9 => h9) rfl eX0_pickSeconds_0.2.2.2.2.2.1 ?_
  refine lv_iload_n hx hb eX0_pickSeconds_0.2.2.2.2.2.2.1 rfl (lv_at hl 2 rfl) ?_
  refine lv_iload_n hx hb eX0_pickSeconds_0.2.2.2.2.2.2.2.1 rfl (lv_at hl 3 rfl) ?_
  have hm := mgk (wc := (wd_X3_aside cI cC cZ cB cJ wJ tX jE mX pD oO oQ eG bZ bD bI aI wD nJ)) hP mk_52 12 rfl rfl rfl
  refine g_calli hP hD hS hA (mixT mk_52) (mixF mk_52) hm.1 hm.2 (nd_F _) (dis_g _) (g_runV (As := [.int p0, .int p1]) (rest := []) C0 hP hD hS (mixT mk_52) hm.1 (nd_T _) 1 3 rfl rfl (c_X3_aside l dC dI cI cC cZ cB cJ wJ tX jE mX pD oO oQ eG H.size p0 p1 bZ bD bI aI wD nJ _ hp) q_267 q_294 q_268 q_269 q_48 h_X3_aside rfl rfl ⟨Nat.le_of_ble_eq_true rfl, Nat.le_of_ble_eq_true rfl⟩ rfl rfl hl.1 rfl (lv_room (Nat.le_of_ble_eq_true rfl)) eX0_pickSeconds_0.2.2.2.2.2.2.2.2.1 ⟨Nat.zero_le _, Nat.zero_le _⟩) (fun r_1 u H locs hp hP hD hS => ?_)
  have hPD := PDm (ws' := (wd_X0_pickSeconds cI cC cZ cB cJ wY wJ wQ xH tX jE mX pD oO oQ eG uS sW uR qY sY bZ bD bI aI wD gF pE nJ nY jC eO eW dO fJ fY jD nG pG qB sH uP pQ mW qO qQ oF)) hP hD 12 rfl rfl rfl
  have hP := hPD.1
  have hD := hPD.2
  refine lv_istore (lv' := [(6, .int r_1), (5, .ref uS), (0, .ref wY), (1, .int p0), (2, .int p1), (3, .int p2), (4, .int p3)]) hx hb eX0_pickSeconds_0.2.2.2.2.2.2.2.2.2.1 hl (by decide) rfl (fun ls hl => ?_)
  refine lv_aload_n hx hb eX0_pickSeconds_0.2.2.2.2.2.2.2.2.2.2.1 rfl (lv_at hl 2 rfl) ?_
  refine va_get (D := (dC, dI)) (ci := 0) (v := .ref wJ) (C := RX0) (T := TX0) (N := 3) hx hb hts i_X0 hown hK hP 0 rfl rfl 0 (Nat.le_of_ble_eq_true rfl) (hts _ q_156) (fun _ h9 => h9) rfl eX0_pickSeconds_0.2.2.2.2.2.2.2.2.2.2.2.1 ?_
  refine lv_iload_n hx hb eX0_pickSeconds_0.2.2.2.2.2.2.2.2.2.2.2.2.1 rfl (lv_at hl 3 rfl) ?_
  refine lv_iload_n hx hb eX0_pickSeconds_0.2.2.2.2.2.2.2.2.2.2.2.2.2.1 rfl (lv_at hl 4 rfl) ?_
  have hm := mgk (wc := (wd_X3_above cI cC cZ cB cJ wJ tX jE mX pD oO oQ eG bZ bD bI aI gF nY)) hP mk_53 12 rfl rfl rfl
  refine g_calli hP hD hS hA (mixT mk_53) (mixF mk_53) hm.1 hm.2 (nd_F _) (dis_g _) (g_runV (As := [.int p0, .int p1]) (rest := []) C0 hP hD hS (mixT mk_53) hm.1 (nd_T _) 1 3 rfl rfl (c_X3_above l dC dI cI cC cZ cB cJ wJ tX jE mX pD oO oQ eG H.size p0 p1 bZ bD bI aI gF nY _ hp) q_271 q_295 q_272 q_273 q_48 h_X3_above rfl rfl ⟨Nat.le_of_ble_eq_true rfl, Nat.le_of_ble_eq_true rfl⟩ rfl rfl hl.1 rfl (lv_room (Nat.le_of_ble_eq_true rfl)) eX0_pickSeconds_0.2.2.2.2.2.2.2.2.2.2.2.2.2.2.1 ⟨Nat.zero_le _, Nat.zero_le _⟩) (fun r_2 u H locs hp hP hD hS => ?_)
  have hPD := PDm (ws' := (wd_X0_pickSeconds cI cC cZ cB cJ wY wJ wQ xH tX jE mX pD oO oQ eG uS sW uR qY sY bZ bD bI aI wD gF pE nJ nY jC eO eW dO fJ fY jD nG pG qB sH uP pQ mW qO qQ oF)) hP hD 12 rfl rfl rfl
  have hP := hPD.1
  have hD := hPD.2
  refine lv_istore (lv' := [(7, .int r_2), (6, .int r_1), (5, .ref uS), (0, .ref wY), (1, .int p0), (2, .int p1), (3, .int p2), (4, .int p3)]) hx hb eX0_pickSeconds_0.2.2.2.2.2.2.2.2.2.2.2.2.2.2.2 hl (by decide) rfl (fun ls hl => ?_)
  refine lv_aload hx hb eX0_pickSeconds_31.1 (lv_at hl 2 rfl) ?_
  refine va_alen (v := 7) hx hb hK hP 9 0 rfl rfl rfl eX0_pickSeconds_31.2.1 ?_
  refine lv_bipush (v := 7) hx hb eX0_pickSeconds_31.2.2.1 bp_7 ?_
  refine lv_icmp_lt (tgt := 92) hx hb eX0_pickSeconds_31.2.2.2.1 (by decide) (fun hc => absurd hc (by decide)) (fun hc => ?_)
  refine lv_aload hx hb eX0_pickSeconds_31.2.2.2.2.1 (lv_at hl 2 rfl) ?_
  refine lv_iconst (v := 0) hx hb eX0_pickSeconds_31.2.2.2.2.2.1 ic_0 ?_
  refine lv_iload hx hb eX0_pickSeconds_31.2.2.2.2.2.2.1 (lv_at hl 1 rfl) ?_
  refine va_iast hx hb hK hP hD hS 9 0 rfl rfl (g_in rfl) eX0_pickSeconds_31.2.2.2.2.2.2.2.1 (fun H locs hP hD hS => ?_)
  have hP : va_P (dC, dI) classes (wd_X0_pickSeconds cI cC cZ cB cJ wY wJ wQ xH tX jE mX pD oO oQ eG uS sW uR qY sY bZ bD bI aI wD gF pE nJ nY jC eO eW dO fJ fY jD nG pG qB sH uP pQ mW (upd qO (0 : Int32).toNatClampNeg r_1) qQ oF) H := hP
  have hD : va_D A (wd_X0_pickSeconds cI cC cZ cB cJ wY wJ wQ xH tX jE mX pD oO oQ eG uS sW uR qY sY bZ bD bI aI wD gF pE nJ nY jC eO eW dO fJ fY jD nG pG qB sH uP pQ mW (upd qO (0 : Int32).toNatClampNeg r_1) qQ oF) := hD
  refine lv_aload hx hb eX0_pickSeconds_31.2.2.2.2.2.2.2.2.1 (lv_at hl 2 rfl) ?_
  refine lv_iconst (v := 1) hx hb eX0_pickSeconds_31.2.2.2.2.2.2.2.2.2.1 ic_1 ?_
  refine lv_iload hx hb eX0_pickSeconds_31.2.2.2.2.2.2.2.2.2.2.1 (lv_at hl 0 rfl) ?_
  refine va_iast hx hb hK hP hD hS 9 0 rfl rfl (g_in rfl) eX0_pickSeconds_31.2.2.2.2.2.2.2.2.2.2.2.1 (fun H locs hP hD hS => ?_)
  have hP : va_P (dC, dI) classes (wd_X0_pickSeconds cI cC cZ cB cJ wY wJ wQ xH tX jE mX pD oO oQ eG uS sW uR qY sY bZ bD bI aI wD gF pE nJ nY jC eO eW dO fJ fY jD nG pG qB sH uP pQ mW (upd (upd qO (0 : Int32).toNatClampNeg r_1) (1 : Int32).toNatClampNeg r_2) qQ oF) H := hP
  have hD : va_D A (wd_X0_pickSeconds cI cC cZ cB cJ wY wJ wQ xH tX jE mX pD oO oQ eG uS sW uR qY sY bZ bD bI aI wD gF pE nJ nY jC eO eW dO fJ fY jD nG pG qB sH uP pQ mW (upd (upd qO (0 : Int32).toNatClampNeg r_1) (1 : Int32).toNatClampNeg r_2) qQ oF) := hD
  refine lv_aload hx hb eX0_pickSeconds_31.2.2.2.2.2.2.2.2.2.2.2.2.1 (lv_at hl 2 rfl) ?_
  refine lv_iconst (v := 2) hx hb eX0_pickSeconds_31.2.2.2.2.2.2.2.2.2.2.2.2.2.1 ic_2 ?_
  refine lv_aload_n hx hb eX0_pickSeconds_31.2.2.2.2.2.2.2.2.2.2.2.2.2.2.1 rfl (lv_at hl 3 rfl) ?_
  refine va_get (D := (dC, dI)) (ci := 0) (v := .ref wJ) (C := RX0) (T := TX0) (N := 3) hx hb hts i_X0 hown hK hP 0 rfl rfl 0 (Nat.le_of_ble_eq_true rfl) (hts _ q_156) (fun _ h9 => h9) rfl eX0_pickSeconds_31.2.2.2.2.2.2.2.2.2.2.2.2.2.2.2 ?_
  refine va_get (D := (dC, dI)) (ci := 3) (v := .ref jE) (C := RX3) (T := TX3) (N := 11) hx hb hts i_X3 hown hK hP 1 rfl rfl 1 (Nat.le_of_ble_eq_true rfl) (hts _ q_296) (fun _ h9 => h9) rfl eX0_pickSeconds_58.1 ?_
  refine lv_iload_n hx hb eX0_pickSeconds_58.2.1 rfl (lv_at hl 4 rfl) ?_
  have hin := hp.1
  have hp := hp.2
  refine va_iald hx hb hK hP 3 0 rfl rfl hin eX0_pickSeconds_58.2.2.1 ?_
  refine lv_topi (fun v_3 ev_3 => ?_)
  have hp := hp v_3 ev_3
  refine va_iast hx hb hK hP hD hS 9 0 rfl rfl (g_in rfl) eX0_pickSeconds_58.2.2.2.1 (fun H locs hP hD hS => ?_)
  have hP : va_P (dC, dI) classes (wd_X0_pickSeconds cI cC cZ cB cJ wY wJ wQ xH tX jE mX pD oO oQ eG uS sW uR qY sY bZ bD bI aI wD gF pE nJ nY jC eO eW dO fJ fY jD nG pG qB sH uP pQ mW (upd (upd (upd qO (0 : Int32).toNatClampNeg r_1) (1 : Int32).toNatClampNeg r_2) (2 : Int32).toNatClampNeg v_3) qQ oF) H := hP
  have hD : va_D A (wd_X0_pickSeconds cI cC cZ cB cJ wY wJ wQ xH tX jE mX pD oO oQ eG uS sW uR qY sY bZ bD bI aI wD gF pE nJ nY jC eO eW dO fJ fY jD nG pG qB sH uP pQ mW (upd (upd (upd qO (0 : Int32).toNatClampNeg r_1) (1 : Int32).toNatClampNeg r_2) (2 : Int32).toNatClampNeg v_3) qQ oF) := hD
  refine lv_aload hx hb eX0_pickSeconds_58.2.2.2.2.1 (lv_at hl 2 rfl) ?_
  refine lv_iconst (v := 3) hx hb eX0_pickSeconds_58.2.2.2.2.2.1 ic_3 ?_
  refine lv_aload_n hx hb eX0_pickSeconds_58.2.2.2.2.2.2.1 rfl (lv_at hl 3 rfl) ?_
  refine lv_iconst (v := 1) hx hb eX0_pickSeconds_58.2.2.2.2.2.2.2.1 ic_1 ?_
  refine lv_iload_n hx hb eX0_pickSeconds_58.2.2.2.2.2.2.2.2.1 rfl (lv_at hl 4 rfl) ?_
  refine lv_ishl hx hb eX0_pickSeconds_58.2.2.2.2.2.2.2.2.2.1 ?_
  refine lv_topi (fun v_4 ev_4 => ?_)
  have hp := hp v_4 ev_4
  have hm := mgk (wc := (wd_X0_worthOf cI cC cZ cB cJ wY wJ wQ xH tX jE mX pD oO oQ eG bZ bD bI aI pE jC eO eW dO fJ fY jD nG)) hP mk_54 12 rfl rfl rfl
  refine g_calli hP hD hS hA (mixT mk_54) (mixF mk_54) hm.1 hm.2 (nd_F _) (dis_g _) (g_runV (As := [.int v_4]) (rest := [.int 3, .ref uS]) C0 hP hD hS (mixT mk_54) hm.1 (nd_T _) 0 0 rfl rfl (c_X0_worthOf l dC dI cI cC cZ cB cJ wY wJ wQ xH tX jE mX pD oO oQ eG H.size v_4 bZ bD bI aI pE jC eO eW dO fJ fY jD nG _ hp) q_297 q_300 q_298 q_299 q_187 h_X0_worthOf rfl rfl ⟨Nat.le_of_ble_eq_true rfl, Nat.le_of_ble_eq_true rfl⟩ rfl rfl hl.1 rfl (lv_room (Nat.le_of_ble_eq_true rfl)) eX0_pickSeconds_58.2.2.2.2.2.2.2.2.2.2.1 ⟨Nat.zero_le _, Nat.zero_le _⟩) (fun r_5 u H locs hp hP hD hS => ?_)
  have hPD := PDm (ws' := (wd_X0_pickSeconds cI cC cZ cB cJ wY wJ wQ xH tX jE mX pD oO oQ eG uS sW uR qY sY bZ bD bI aI wD gF pE nJ nY jC eO eW dO fJ fY jD nG pG qB sH uP pQ mW (upd (upd (upd qO (0 : Int32).toNatClampNeg r_1) (1 : Int32).toNatClampNeg r_2) (2 : Int32).toNatClampNeg v_3) qQ oF)) hP hD 12 rfl rfl rfl
  have hP := hPD.1
  have hD := hPD.2
  refine va_iast hx hb hK hP hD hS 9 0 rfl rfl (g_in rfl) eX0_pickSeconds_58.2.2.2.2.2.2.2.2.2.2.2.1 (fun H locs hP hD hS => ?_)
  have hP : va_P (dC, dI) classes (wd_X0_pickSeconds cI cC cZ cB cJ wY wJ wQ xH tX jE mX pD oO oQ eG uS sW uR qY sY bZ bD bI aI wD gF pE nJ nY jC eO eW dO fJ fY jD nG pG qB sH uP pQ mW (upd (upd (upd (upd qO (0 : Int32).toNatClampNeg r_1) (1 : Int32).toNatClampNeg r_2) (2 : Int32).toNatClampNeg v_3) (3 : Int32).toNatClampNeg r_5) qQ oF) H := hP
  have hD : va_D A (wd_X0_pickSeconds cI cC cZ cB cJ wY wJ wQ xH tX jE mX pD oO oQ eG uS sW uR qY sY bZ bD bI aI wD gF pE nJ nY jC eO eW dO fJ fY jD nG pG qB sH uP pQ mW (upd (upd (upd (upd qO (0 : Int32).toNatClampNeg r_1) (1 : Int32).toNatClampNeg r_2) (2 : Int32).toNatClampNeg v_3) (3 : Int32).toNatClampNeg r_5) qQ oF) := hD
  refine lv_aload hx hb eX0_pickSeconds_58.2.2.2.2.2.2.2.2.2.2.2.2.1 (lv_at hl 2 rfl) ?_
  refine lv_iconst (v := 4) hx hb eX0_pickSeconds_58.2.2.2.2.2.2.2.2.2.2.2.2.2.1 ic_4 ?_
  refine lv_iload_n hx hb eX0_pickSeconds_58.2.2.2.2.2.2.2.2.2.2.2.2.2.2.1 rfl (lv_at hl 5 rfl) ?_
  refine va_iast hx hb hK hP hD hS 9 0 rfl rfl (g_in rfl) eX0_pickSeconds_58.2.2.2.2.2.2.2.2.2.2.2.2.2.2.2 (fun H locs hP hD hS => ?_)
  have hP : va_P (dC, dI) classes (wd_X0_pickSeconds cI cC cZ cB cJ wY wJ wQ xH tX jE mX pD oO oQ eG uS sW uR qY sY bZ bD bI aI wD gF pE nJ nY jC eO eW dO fJ fY jD nG pG qB sH uP pQ mW (upd (upd (upd (upd (upd qO (0 : Int32).toNatClampNeg r_1) (1 : Int32).toNatClampNeg r_2) (2 : Int32).toNatClampNeg v_3) (3 : Int32).toNatClampNeg r_5) (4 : Int32).toNatClampNeg p1) qQ oF) H := hP
  have hD : va_D A (wd_X0_pickSeconds cI cC cZ cB cJ wY wJ wQ xH tX jE mX pD oO oQ eG uS sW uR qY sY bZ bD bI aI wD gF pE nJ nY jC eO eW dO fJ fY jD nG pG qB sH uP pQ mW (upd (upd (upd (upd (upd qO (0 : Int32).toNatClampNeg r_1) (1 : Int32).toNatClampNeg r_2) (2 : Int32).toNatClampNeg v_3) (3 : Int32).toNatClampNeg r_5) (4 : Int32).toNatClampNeg p1) qQ oF) := hD
  refine lv_aload hx hb eX0_pickSeconds_80.1 (lv_at hl 2 rfl) ?_
  refine lv_iconst (v := 5) hx hb eX0_pickSeconds_80.2.1 ic_5 ?_
  refine lv_iload hx hb eX0_pickSeconds_80.2.2.1 (lv_at hl 7 rfl) ?_
  refine va_iast hx hb hK hP hD hS 9 0 rfl rfl (g_in rfl) eX0_pickSeconds_80.2.2.2.1 (fun H locs hP hD hS => ?_)
  have hP : va_P (dC, dI) classes (wd_X0_pickSeconds cI cC cZ cB cJ wY wJ wQ xH tX jE mX pD oO oQ eG uS sW uR qY sY bZ bD bI aI wD gF pE nJ nY jC eO eW dO fJ fY jD nG pG qB sH uP pQ mW (upd (upd (upd (upd (upd (upd qO (0 : Int32).toNatClampNeg r_1) (1 : Int32).toNatClampNeg r_2) (2 : Int32).toNatClampNeg v_3) (3 : Int32).toNatClampNeg r_5) (4 : Int32).toNatClampNeg p1) (5 : Int32).toNatClampNeg p3) qQ oF) H := hP
  have hD : va_D A (wd_X0_pickSeconds cI cC cZ cB cJ wY wJ wQ xH tX jE mX pD oO oQ eG uS sW uR qY sY bZ bD bI aI wD gF pE nJ nY jC eO eW dO fJ fY jD nG pG qB sH uP pQ mW (upd (upd (upd (upd (upd (upd qO (0 : Int32).toNatClampNeg r_1) (1 : Int32).toNatClampNeg r_2) (2 : Int32).toNatClampNeg v_3) (3 : Int32).toNatClampNeg r_5) (4 : Int32).toNatClampNeg p1) (5 : Int32).toNatClampNeg p3) qQ oF) := hD
  refine lv_aload hx hb eX0_pickSeconds_80.2.2.2.2.1 (lv_at hl 2 rfl) ?_
  refine lv_bipush (v := 6) hx hb eX0_pickSeconds_80.2.2.2.2.2.1 bp_6 ?_
  refine lv_iload_n hx hb eX0_pickSeconds_80.2.2.2.2.2.2.1 rfl (lv_at hl 6 rfl) ?_
  refine va_iast hx hb hK hP hD hS 9 0 rfl rfl (g_in rfl) eX0_pickSeconds_80.2.2.2.2.2.2.2.1 (fun H locs hP hD hS => ?_)
  have hP : va_P (dC, dI) classes (wd_X0_pickSeconds cI cC cZ cB cJ wY wJ wQ xH tX jE mX pD oO oQ eG uS sW uR qY sY bZ bD bI aI wD gF pE nJ nY jC eO eW dO fJ fY jD nG pG qB sH uP pQ mW (upd (upd (upd (upd (upd (upd (upd qO (0 : Int32).toNatClampNeg r_1) (1 : Int32).toNatClampNeg r_2) (2 : Int32).toNatClampNeg v_3) (3 : Int32).toNatClampNeg r_5) (4 : Int32).toNatClampNeg p1) (5 : Int32).toNatClampNeg p3) (6 : Int32).toNatClampNeg p2) qQ oF) H := hP
  have hD : va_D A (wd_X0_pickSeconds cI cC cZ cB cJ wY wJ wQ xH tX jE mX pD oO oQ eG uS sW uR qY sY bZ bD bI aI wD gF pE nJ nY jC eO eW dO fJ fY jD nG pG qB sH uP pQ mW (upd (upd (upd (upd (upd (upd (upd qO (0 : Int32).toNatClampNeg r_1) (1 : Int32).toNatClampNeg r_2) (2 : Int32).toNatClampNeg v_3) (3 : Int32).toNatClampNeg r_5) (4 : Int32).toNatClampNeg p1) (5 : Int32).toNatClampNeg p3) (6 : Int32).toNatClampNeg p2) qQ oF) := hD
  exact ks_X0_pickSeconds_92 C0 r_1 r_2 (upd (upd (upd (upd (upd (upd (upd qO (0 : Int32).toNatClampNeg r_1) (1 : Int32).toNatClampNeg r_2) (2 : Int32).toNatClampNeg v_3) (3 : Int32).toNatClampNeg r_5) (4 : Int32).toNatClampNeg p1) (5 : Int32).toNatClampNeg p3) (6 : Int32).toNatClampNeg p2) qQ H locs ls hp hP hD hS (lv_sub hl [3, 1, 0] rfl)
noncomputable abbrev wd_X0_pickFruit (cI cC cZ cB cJ : ClassId) (wY wJ wQ xH tX jE mX pD oO oQ eG uS sW uR qY sY : Nat) (bZ bD bI aI : Int32) (wD gF pE qA nJ nY dQ : Nat → Int32) (jC eO eW dO fJ fY jD nG pG qB sH uP pQ mW : Int32) (qO qQ oF : Nat → Int32) : va_W := [(wY, .inr (0, [.ref wJ, .ref wQ, .ref xH])), (wJ, .inr (3, [.ref tX, .ref jE, .ref mX, .ref pD, .ref oO, .ref oQ, .ref eG, .int bZ, .int bD, .int bI, .int aI])), (tX, .inl (cI, 16, .inl wD)), (jE, .inl (cI, 16, .inl gF)), (mX, .inl (cI, 16, .inl pE)), (pD, .inl (cI, 16, .inl qA)), (oO, .inl (cI, 8, .inl nJ)), (oQ, .inl (cI, 8, .inl nY)), (eG, .inl (cI, 5, .inl dQ)), (wQ, .inr (2, [.int jC, .int eO, .int eW, .int dO, .int fJ, .int fY, .int jD, .int nG])), (xH, .inr (7, [.ref uS, .ref sW, .ref uR, .ref qY, .ref sY, .int pG, .int qB, .int sH, .int uP, .int pQ, .int mW])), (uS, .inl (cI, 7, .inl qO)), (uR, .inl (cI, 40, .inl qQ)), (qY, .inl (cI, 40, .inl oF))]
noncomputable abbrev q_X0_pickFruit (dC : Nat → ClassId) (dI : Nat → Nat → Nat) (cI cC cZ cB cJ : ClassId) (A : Nat → Prop) (wY wJ wQ xH tX jE mX pD oO oQ eG uS sW uR qY sY : Nat) (bZ bD bI aI : Int32) (wD gF pE qA nJ nY dQ : Nat → Int32) (eO eW fJ fY jD pG qB sH uP pQ mW : Int32) (oF : Nat → Int32) (post : Int32 → Int32 → Int32 → Int32 → (Nat → Int32) → (Nat → Int32) → Prop) : Array Value → State → Outcome → State → Prop := va_Qi (fun (r : Int32) (u : Int32 × Int32 × Int32 × (Nat → Int32) × (Nat → Int32)) => post r u.1 u.2.1 u.2.2.1 u.2.2.2.1 u.2.2.2.2) (fun u t => gB (dC, dI) (tyl cI cC cZ cB cJ) A (wd_X0_pickFruit cI cC cZ cB cJ wY wJ wQ xH tX jE mX pD oO oQ eG uS sW uR qY sY bZ bD bI aI wD gF pE qA nJ nY dQ u.1 eO eW u.2.1 fJ fY jD u.2.2.1 pG qB sH uP pQ mW u.2.2.2.1 u.2.2.2.2 oF) t) A
noncomputable abbrev rm_X0_pickFruit : Room := { frames := 3, cells := 0, slots := 0, locals := 73 }
noncomputable def wp_X0_pickFruit (post : Int32 → Int32 → Int32 → Int32 → (Nat → Int32) → (Nat → Int32) → Prop) (p0 p1 bZ : Int32) (wD gF pE qA nJ nY dQ : Nat → Int32) (jC eO eW dO fJ fY jD nG pG : Int32) (qO qQ oF : Nat → Int32) : Prop := wp_X3_hasFruit (fun r_1 => (r_1 = 0 → post (-1) jC dO nG qO qQ) ∧ (¬ r_1 = 0 → wp_X9_isYesOrNo (fun r_2 => (¬ r_2 = 0 → wp_X0_hanging (fun r_3 => ∀ v_4 : Int32, v_4 = r_3 >>> (p0 &&& 31) → (¬ (v_4 &&& 1) = 0 → vp_in p0 16 ∧ (∀ v_5 : Int32, v_5 = qA p0.toNatClampNeg → (v_5 ≤ jD → (fJ = (-1) → post (-4) jC dO nG qO qQ) ∧ (¬ fJ = (-1) → wp_X3_reach (fun r_6 => wp_X3_isWithin (fun r_7 => (¬ r_7 = 0 → wp_J6_bitCount_0f7a4 (fun r_8 => (r_8 < (dQ (4 : Int32).toNatClampNeg) → wp_X0_pickSeconds (fun r_9 aCA aCB => wp_X3_lowerThan (fun r_12 => ∀ v_13 : Int32, v_13 = dO ||| r_12 → ∀ v_14 : Int32, v_14 = jC ||| (1 <<< (p0 &&& 31)) → wp_X2_spend (fun no_clock_15 => post r_9 v_14 v_13 no_clock_15 aCA aCB) r_9 nG) p0 r_3 bZ wD gF) p0 fJ p1 r_8 bZ wD gF pE nJ nY dO pG qO qQ oF) ∧ (¬ r_8 < (dQ (4 : Int32).toNatClampNeg) → post (-5) jC dO nG qO qQ)) jC) ∧ (r_7 = 0 → post (-4) jC dO nG qO qQ)) p0 fJ r_6 wD gF nJ nY) fY p1 dQ)) ∧ (¬ v_5 ≤ jD → post (-3) jC dO nG qO qQ))) ∧ ((v_4 &&& 1) = 0 → post (-2) jC dO nG qO qQ)) bZ jC eO eW) ∧ (r_2 = 0 → post (-1) jC dO nG qO qQ)) p1)) p0 bZ
set_option maxHeartbeats 4000000 in
set_option maxRecDepth 100000 in
theorem c_X0_pickFruit (l : Launch) (dC : Nat → ClassId) (dI : Nat → Nat → Nat) (cI cC cZ cB cJ : ClassId) (wY wJ wQ xH tX jE mX pD oO oQ eG uS sW uR qY sY sz : Nat) (p0 p1 bZ bD bI aI : Int32) (wD gF pE qA nJ nY dQ : Nat → Int32) (jC eO eW dO fJ fY jD nG pG qB sH uP pQ mW : Int32) (qO qQ oF : Nat → Int32) (post : Int32 → Int32 → Int32 → Int32 → (Nat → Int32) → (Nat → Int32) → Prop) (hw : wp_X0_pickFruit post p0 p1 bZ wD gF pE qA nJ nY dQ jC eO eW dO fJ fY jD nG pG qO qQ oF) : Met l yX0_pickFruit (gw yX0_pickFruit cX0_pickFruit 6 (some .int)) rm_X0_pickFruit (va_Pc [.ref wY, .int p0, .int p1] (gPre (dC, dI) (tyl cI cC cZ cB cJ) (wd_X0_pickFruit cI cC cZ cB cJ wY wJ wQ xH tX jE mX pD oO oQ eG uS sW uR qY sY bZ bD bI aI wD gF pE qA nJ nY dQ jC eO eW dO fJ fY jD nG pG qB sH uP pQ mW qO qQ oF) sz)) (q_X0_pickFruit dC dI cI cC cZ cB cJ (va_A (wd_X0_pickFruit cI cC cZ cB cJ wY wJ wQ xH tX jE mX pD oO oQ eG uS sW uR qY sY bZ bD bI aI wD gF pE qA nJ nY dQ jC eO eW dO fJ fY jD nG pG qB sH uP pQ mW qO qQ oF) sz) wY wJ wQ xH tX jE mX pD oO oQ eG uS sW uR qY sY bZ bD bI aI wD gF pE qA nJ nY dQ eO eW fJ fY jD pG qB sH uP pQ mW oF post) 0 0 (va_A (wd_X0_pickFruit cI cC cZ cB cJ wY wJ wQ xH tX jE mX pD oO oQ eG uS sW uR qY sY bZ bD bI aI wD gF pE qA nJ nY dQ jC eO eW dO fJ fY jD nG pG qB sH uP pQ mW qO qQ oF) sz) := by
  refine g_enter (own := RX0) (dC, dI) (tyl cI cC cZ cB cJ) (wd_X0_pickFruit cI cC cZ cB cJ wY wJ wQ xH tX jE mX pD oO oQ eG uS sW uR qY sY bZ bD bI aI wD gF pE qA nJ nY dQ jC eO eW dO fJ fY jD nG pG qB sH uP pQ mW qO qQ oF) sz [.ref wY, .int p0, .int p1] (fun A => q_X0_pickFruit dC dI cI cC cZ cB cJ A wY wJ wQ xH tX jE mX pD oO oQ eG uS sW uR qY sY bZ bD bI aI wD gF pE qA nJ nY dQ eO eW fJ fY jD pG qB sH uP pQ mW oF post) pn_RX0 rfl (Nat.le_of_ble_eq_true rfl) ?_
  intro p e s m args below meth c A H locs ls C0 hP hD hS hl
  have hl : lv_has ls 6 [(0, .ref wY), (1, .int p0), (2, .int p1)] := hl
  obtain ⟨hx, hb, hr, hml, hown, hts, hlocks, hA, hK, hN, tL, tM, hZL, hTL, hZM, hTM, hZX⟩ := id C0
  have hp := hw
  unfold wp_X0_pickFruit at hp
  refine lv_aload_n hx hb eX0_pickFruit_0.1 rfl (lv_at hl 0 rfl) ?_
  refine va_get (D := (dC, dI)) (ci := 0) (v := .ref wJ) (C := RX0) (T := TX0) (N := 3) hx hb hts i_X0 hown hK hP 0 rfl rfl 0 (Nat.le_of_ble_eq_true rfl) (hts _ q_156) (fun _ h9 => h9) rfl eX0_pickFruit_0.2.1 ?_
  refine lv_iload_n hx hb eX0_pickFruit_0.2.2.1 rfl (lv_at hl 1 rfl) ?_
  have hm := mgk (wc := (wd_X3_hasFruit cI cC cZ cB cJ wJ tX jE mX pD oO oQ eG bZ bD bI aI)) hP mk_55 14 rfl rfl rfl
  refine g_calli hP hD hS hA (mixT mk_55) (mixF mk_55) hm.1 hm.2 (nd_F _) (dis_g _) (g_runV (As := [.int p0]) (rest := []) C0 hP hD hS (mixT mk_55) hm.1 (nd_T _) 1 3 rfl rfl (c_X3_hasFruit l dC dI cI cC cZ cB cJ wJ tX jE mX pD oO oQ eG H.size p0 bZ bD bI aI _ hp) q_171 q_308 q_172 q_173 q_48 h_X3_hasFruit rfl rfl ⟨Nat.le_of_ble_eq_true rfl, Nat.le_of_ble_eq_true rfl⟩ rfl rfl hl.1 rfl (lv_room (Nat.le_of_ble_eq_true rfl)) eX0_pickFruit_0.2.2.2.1 ⟨Nat.zero_le _, Nat.zero_le _⟩) (fun r_1 u H locs hp hP hD hS => ?_)
  have hPD := PDm (ws' := (wd_X0_pickFruit cI cC cZ cB cJ wY wJ wQ xH tX jE mX pD oO oQ eG uS sW uR qY sY bZ bD bI aI wD gF pE qA nJ nY dQ jC eO eW dO fJ fY jD nG pG qB sH uP pQ mW qO qQ oF)) hP hD 14 rfl rfl rfl
  have hP := hPD.1
  have hD := hPD.2
  refine lv_if_eq (tgt := 18) hx hb eX0_pickFruit_0.2.2.2.2.1 (by decide) (fun hc => ?_) (fun hc => ?_)
  · have hp := hp.1 hc
    refine lv_iconst (v := (-1)) hx hb eX0_pickFruit_0.2.2.2.2.2.2.2.2.1 ic_m1 ?_
    exact W.iret (v := (-1)) hx hb hr (fun t ht hW => ⟨⟨(-1), (jC, dO, nG, qO, qQ), rfl, hp, by rw [ht]; exact hP, va_K.moved hW.alike hK, hD⟩, hS.F ht⟩) hS.2.2 eX0_pickFruit_0.2.2.2.2.2.2.2.2.2.1
  · have hp := hp.2 hc
    refine lv_iload_n hx hb eX0_pickFruit_0.2.2.2.2.2.1 rfl (lv_at hl 2 rfl) ?_
    have hm := mgk (wc := (wd_X9_isYesOrNo cI cC cZ cB cJ)) hP aAy 14 rfl rfl rfl
    refine g_calli hP hD hS hA (mixT aAy) (mixF aAy) hm.1 hm.2 (nd_F _) (dis_g _) (g_runSN (As := [.int p1]) (rest := []) C0 hP hD hS (mixT aAy) hm.1 (nd_T _) (c_X9_isYesOrNo l dC dI cI cC cZ cB cJ H.size p1 _ hp) q_260 n_1 q_261 q_256 h_X9_isYesOrNo rfl rfl ⟨Nat.le_of_ble_eq_true rfl, Nat.le_of_ble_eq_true rfl⟩ rfl rfl hl.1 rfl (lv_room (Nat.le_of_ble_eq_true rfl)) eX0_pickFruit_0.2.2.2.2.2.2.1 ⟨Nat.zero_le _, Nat.zero_le _⟩) (fun r_2 u H locs hp hP hD hS => ?_)
    have hPD := PDm (ws' := (wd_X0_pickFruit cI cC cZ cB cJ wY wJ wQ xH tX jE mX pD oO oQ eG uS sW uR qY sY bZ bD bI aI wD gF pE qA nJ nY dQ jC eO eW dO fJ fY jD nG pG qB sH uP pQ mW qO qQ oF)) hP hD 14 rfl rfl rfl
    have hP := hPD.1
    have hD := hPD.2
    refine lv_if_ne (tgt := 20) hx hb eX0_pickFruit_0.2.2.2.2.2.2.2.1 (by decide) (fun hc => ?_) (fun hc => ?_)
    · have hp := hp.1 hc
      refine lv_aload_n hx hb eX0_pickFruit_0.2.2.2.2.2.2.2.2.2.2.1 rfl (lv_at hl 0 rfl) ?_
      have hm := mgk (wc := (wd_X0_hanging cI cC cZ cB cJ wY wJ wQ xH tX jE mX pD oO oQ eG bZ bD bI aI jC eO eW dO fJ fY jD nG)) hP mk_57 14 rfl rfl rfl
      refine g_calli hP hD hS hA (mixT mk_57) (mixF mk_57) hm.1 hm.2 (nd_F _) (dis_g _) (g_runV (As := []) (rest := []) C0 hP hD hS (mixT mk_57) hm.1 (nd_T _) 0 0 rfl rfl (c_X0_hanging l dC dI cI cC cZ cB cJ wY wJ wQ xH tX jE mX pD oO oQ eG H.size bZ bD bI aI jC eO eW dO fJ fY jD nG _ hp) q_186 q_309 q_188 q_189 q_187 h_X0_hanging rfl rfl ⟨Nat.le_of_ble_eq_true rfl, Nat.le_of_ble_eq_true rfl⟩ rfl rfl hl.1 rfl (lv_room (Nat.le_of_ble_eq_true rfl)) eX0_pickFruit_0.2.2.2.2.2.2.2.2.2.2.2.1 ⟨Nat.zero_le _, Nat.zero_le _⟩) (fun r_3 u H locs hp hP hD hS => ?_)
      have hPD := PDm (ws' := (wd_X0_pickFruit cI cC cZ cB cJ wY wJ wQ xH tX jE mX pD oO oQ eG uS sW uR qY sY bZ bD bI aI wD gF pE qA nJ nY dQ jC eO eW dO fJ fY jD nG pG qB sH uP pQ mW qO qQ oF)) hP hD 14 rfl rfl rfl
      have hP := hPD.1
      have hD := hPD.2
      refine lv_istore_n (lv' := [(3, .int r_3), (0, .ref wY), (1, .int p0), (2, .int p1)]) hx hb eX0_pickFruit_0.2.2.2.2.2.2.2.2.2.2.2.2.1 rfl hl (by decide) rfl (fun ls hl => ?_)
      refine lv_iload_n hx hb eX0_pickFruit_0.2.2.2.2.2.2.2.2.2.2.2.2.2.1 rfl (lv_at hl 0 rfl) ?_
      refine lv_iload_n hx hb eX0_pickFruit_0.2.2.2.2.2.2.2.2.2.2.2.2.2.2.1 rfl (lv_at hl 2 rfl) ?_
      refine lv_ishr hx hb eX0_pickFruit_0.2.2.2.2.2.2.2.2.2.2.2.2.2.2.2 ?_
      refine lv_topi (fun v_4 ev_4 => ?_)
      have hp := hp v_4 ev_4
      refine lv_iconst (v := 1) hx hb eX0_pickFruit_28.1 ic_1 ?_
      refine lv_iand hx hb eX0_pickFruit_28.2.1 ?_
      refine lv_if_ne (tgt := 36) hx hb eX0_pickFruit_28.2.2.1 (by decide) (fun hc => ?_) (fun hc => ?_)
      · have hp := hp.1 hc
        refine lv_aload_n hx hb eX0_pickFruit_28.2.2.2.2.2.1 rfl (lv_at hl 1 rfl) ?_
        refine va_get (D := (dC, dI)) (ci := 0) (v := .ref wJ) (C := RX0) (T := TX0) (N := 3) hx hb hts i_X0 hown hK hP 0 rfl rfl 0 (Nat.le_of_ble_eq_true rfl) (hts _ q_156) (fun _ h9 => h9) rfl eX0_pickFruit_28.2.2.2.2.2.2.1 ?_
        refine va_get (D := (dC, dI)) (ci := 3) (v := .ref pD) (C := RX3) (T := TX3) (N := 11) hx hb hts i_X3 hown hK hP 1 rfl rfl 3 (Nat.le_of_ble_eq_true rfl) (hts _ q_310) (fun _ h9 => h9) rfl eX0_pickFruit_28.2.2.2.2.2.2.2.1 ?_
        refine lv_iload_n hx hb eX0_pickFruit_28.2.2.2.2.2.2.2.2.1 rfl (lv_at hl 2 rfl) ?_
        have hin := hp.1
        have hp := hp.2
        refine va_iald hx hb hK hP 5 0 rfl rfl hin eX0_pickFruit_28.2.2.2.2.2.2.2.2.2.1 ?_
        refine lv_topi (fun v_5 ev_5 => ?_)
        have hp := hp v_5 ev_5
        refine lv_aload_n hx hb eX0_pickFruit_28.2.2.2.2.2.2.2.2.2.2.1 rfl (lv_at hl 1 rfl) ?_
        refine va_get (D := (dC, dI)) (ci := 0) (v := .ref wQ) (C := RX0) (T := TX0) (N := 3) hx hb hts i_X0 hown hK hP 0 rfl rfl 1 (Nat.le_of_ble_eq_true rfl) (hts _ q_161) (fun _ h9 => h9) rfl eX0_pickFruit_28.2.2.2.2.2.2.2.2.2.2.2.1 ?_
        refine va_get (D := (dC, dI)) (ci := 2) (v := .int jD) (C := RX2) (T := TX2) (N := 8) hx hb hts i_X2 hown hK hP 9 rfl rfl 6 (Nat.le_of_ble_eq_true rfl) (hts _ q_311) (fun _ h9 => h9) rfl eX0_pickFruit_28.2.2.2.2.2.2.2.2.2.2.2.2.1 ?_
        refine lv_icmp_le (tgt := 58) hx hb eX0_pickFruit_28.2.2.2.2.2.2.2.2.2.2.2.2.2.1 (by decide) (fun hc => ?_) (fun hc => ?_)
        · have hp := hp.1 hc
          refine lv_aload_n hx hb eX0_pickFruit_58.1 rfl (lv_at hl 1 rfl) ?_
          refine va_get (D := (dC, dI)) (ci := 0) (v := .ref wQ) (C := RX0) (T := TX0) (N := 3) hx hb hts i_X0 hown hK hP 0 rfl rfl 1 (Nat.le_of_ble_eq_true rfl) (hts _ q_161) (fun _ h9 => h9) rfl eX0_pickFruit_58.2.1 ?_
          refine va_get (D := (dC, dI)) (ci := 2) (v := .int fJ) (C := RX2) (T := TX2) (N := 8) hx hb hts i_X2 hown hK hP 9 rfl rfl 4 (Nat.le_of_ble_eq_true rfl) (hts _ q_228) (fun _ h9 => h9) rfl eX0_pickFruit_58.2.2.1 ?_
          refine lv_iconst (v := (-1)) hx hb eX0_pickFruit_58.2.2.2.1 ic_m1 ?_
          refine lv_icmp_eq (tgt := 102) hx hb eX0_pickFruit_58.2.2.2.2.1 (by decide) (fun hc => ?_) (fun hc => ?_)
          · have hp := hp.1 hc
            refine lv_bipush (v := (-4)) hx hb eX0_pickFruit_92.2.2.2.2.1 bp_m4 ?_
            exact W.iret (v := (-4)) hx hb hr (fun t ht hW => ⟨⟨(-4), (jC, dO, nG, qO, qQ), rfl, hp, by rw [ht]; exact hP, va_K.moved hW.alike hK, hD⟩, hS.F ht⟩) hS.2.2 eX0_pickFruit_92.2.2.2.2.2.1
          · have hp := hp.2 hc
            refine lv_aload_n hx hb eX0_pickFruit_58.2.2.2.2.2.1 rfl (lv_at hl 1 rfl) ?_
            refine va_get (D := (dC, dI)) (ci := 0) (v := .ref wJ) (C := RX0) (T := TX0) (N := 3) hx hb hts i_X0 hown hK hP 0 rfl rfl 0 (Nat.le_of_ble_eq_true rfl) (hts _ q_156) (fun _ h9 => h9) rfl eX0_pickFruit_58.2.2.2.2.2.2.1 ?_
            refine lv_iload_n hx hb eX0_pickFruit_58.2.2.2.2.2.2.2.1 rfl (lv_at hl 2 rfl) ?_
            refine lv_aload_n hx hb eX0_pickFruit_58.2.2.2.2.2.2.2.2.1 rfl (lv_at hl 1 rfl) ?_
            refine va_get (D := (dC, dI)) (ci := 0) (v := .ref wQ) (C := RX0) (T := TX0) (N := 3) hx hb hts i_X0 hown hK hP 0 rfl rfl 1 (Nat.le_of_ble_eq_true rfl) (hts _ q_161) (fun _ h9 => h9) rfl eX0_pickFruit_58.2.2.2.2.2.2.2.2.2.1 ?_
            refine va_get (D := (dC, dI)) (ci := 2) (v := .int fJ) (C := RX2) (T := TX2) (N := 8) hx hb hts i_X2 hown hK hP 9 rfl rfl 4 (Nat.le_of_ble_eq_true rfl) (hts _ q_228) (fun _ h9 => h9) rfl eX0_pickFruit_58.2.2.2.2.2.2.2.2.2.2.1 ?_
            refine lv_aload_n hx hb eX0_pickFruit_58.2.2.2.2.2.2.2.2.2.2.2.1 rfl (lv_at hl 1 rfl) ?_
            refine va_get (D := (dC, dI)) (ci := 0) (v := .ref wJ) (C := RX0) (T := TX0) (N := 3) hx hb hts i_X0 hown hK hP 0 rfl rfl 0 (Nat.le_of_ble_eq_true rfl) (hts _ q_156) (fun _ h9 => h9) rfl eX0_pickFruit_58.2.2.2.2.2.2.2.2.2.2.2.2.1 ?_
            refine lv_aload_n hx hb eX0_pickFruit_58.2.2.2.2.2.2.2.2.2.2.2.2.2.1 rfl (lv_at hl 1 rfl) ?_
            refine va_get (D := (dC, dI)) (ci := 0) (v := .ref wQ) (C := RX0) (T := TX0) (N := 3) hx hb hts i_X0 hown hK hP 0 rfl rfl 1 (Nat.le_of_ble_eq_true rfl) (hts _ q_161) (fun _ h9 => h9) rfl eX0_pickFruit_58.2.2.2.2.2.2.2.2.2.2.2.2.2.2.1 ?_
            refine va_get (D := (dC, dI)) (ci := 2) (v := .int fY) (C := RX2) (T := TX2) (N := 8) hx hb hts i_X2 hown hK hP 9 rfl rfl 5 (Nat.le_of_ble_eq_true rfl) (hts _ q_262) (fun _ h9 => h9) rfl eX0_pickFruit_58.2.2.2.2.2.2.2.2.2.2.2.2.2.2.2 ?_
            refine lv_iload_n hx hb eX0_pickFruit_92.1 rfl (lv_at hl 3 rfl) ?_
            have hm := mgk (wc := (wd_X3_reach cI cC cZ cB cJ wJ tX jE mX pD oO oQ eG bZ bD bI aI dQ)) hP mk_58 14 rfl rfl rfl
            refine g_calli hP hD hS hA (mixT mk_58) (mixF mk_58) hm.1 hm.2 (nd_F _) (dis_g _) (g_runV (As := [.int fY, .int p1]) (rest := [.int fJ, .int p0, .ref wJ]) C0 hP hD hS (mixT mk_58) hm.1 (nd_T _) 1 3 rfl rfl (c_X3_reach l dC dI cI cC cZ cB cJ wJ tX jE mX pD oO oQ eG H.size fY p1 bZ bD bI aI dQ _ hp) q_312 q_315 q_313 q_314 q_48 h_X3_reach rfl rfl ⟨Nat.le_of_ble_eq_true rfl, Nat.le_of_ble_eq_true rfl⟩ rfl rfl hl.1 rfl (lv_room (Nat.le_of_ble_eq_true rfl)) eX0_pickFruit_92.2.1 ⟨Nat.zero_le _, Nat.zero_le _⟩) (fun r_6 u H locs hp hP hD hS => ?_)
            have hPD := PDm (ws' := (wd_X0_pickFruit cI cC cZ cB cJ wY wJ wQ xH tX jE mX pD oO oQ eG uS sW uR qY sY bZ bD bI aI wD gF pE qA nJ nY dQ jC eO eW dO fJ fY jD nG pG qB sH uP pQ mW qO qQ oF)) hP hD 14 rfl rfl rfl
            have hP := hPD.1
            have hD := hPD.2
            have hm := mgk (wc := (wd_X3_isWithin cI cC cZ cB cJ wJ tX jE mX pD oO oQ eG bZ bD bI aI wD gF nJ nY)) hP mk_59 14 rfl rfl rfl
            refine g_calli hP hD hS hA (mixT mk_59) (mixF mk_59) hm.1 hm.2 (nd_F _) (dis_g _) (g_runV (As := [.int p0, .int fJ, .int r_6]) (rest := []) C0 hP hD hS (mixT mk_59) hm.1 (nd_T _) 1 3 rfl rfl (c_X3_isWithin l dC dI cI cC cZ cB cJ wJ tX jE mX pD oO oQ eG H.size p0 fJ r_6 bZ bD bI aI wD gF nJ nY _ hp) q_316 q_319 q_317 q_318 q_48 h_X3_isWithin rfl rfl ⟨Nat.le_of_ble_eq_true rfl, Nat.le_of_ble_eq_true rfl⟩ rfl rfl hl.1 rfl (lv_room (Nat.le_of_ble_eq_true rfl)) eX0_pickFruit_92.2.2.1 ⟨Nat.zero_le _, Nat.zero_le _⟩) (fun r_7 u H locs hp hP hD hS => ?_)
            have hPD := PDm (ws' := (wd_X0_pickFruit cI cC cZ cB cJ wY wJ wQ xH tX jE mX pD oO oQ eG uS sW uR qY sY bZ bD bI aI wD gF pE qA nJ nY dQ jC eO eW dO fJ fY jD nG pG qB sH uP pQ mW qO qQ oF)) hP hD 14 rfl rfl rfl
            have hP := hPD.1
            have hD := hPD.2
            refine lv_if_ne (tgt := 105) hx hb eX0_pickFruit_92.2.2.2.1 (by decide) (fun hc => ?_) (fun hc => ?_)
            · have hp := hp.1 hc
              refine lv_aload_n hx hb eX0_pickFruit_92.2.2.2.2.2.2.1 rfl (lv_at hl 1 rfl) ?_
              refine va_get (D := (dC, dI)) (ci := 0) (v := .ref wQ) (C := RX0) (T := TX0) (N := 3) hx hb hts i_X0 hown hK hP 0 rfl rfl 1 (Nat.le_of_ble_eq_true rfl) (hts _ q_161) (fun _ h9 => h9) rfl eX0_pickFruit_92.2.2.2.2.2.2.2.1 ?_
              refine va_get (D := (dC, dI)) (ci := 2) (v := .int jC) (C := RX2) (T := TX2) (N := 8) hx hb hts i_X2 hown hK hP 9 rfl rfl 0 (Nat.le_of_ble_eq_true rfl) (hts _ q_162) (fun _ h9 => h9) rfl eX0_pickFruit_92.2.2.2.2.2.2.2.2.1 ?_
              have hm := mgk (wc := (wd_J6_bitCount_0f7a4 cI cC cZ cB cJ)) hP aAy 14 rfl rfl rfl
              refine g_calli hP hD hS hA (mixT aAy) (mixF aAy) hm.1 hm.2 (nd_F _) (dis_g _) (g_runS (As := [.int jC]) (rest := []) C0 hP hD hS (mixT aAy) hm.1 (nd_T _) (c_J6_bitCount_0f7a4 l dC dI cI cC cZ cB cJ H.size jC _ hp) q_320 q_323 q_322 q_321 h_J6_bitCount_0f7a4 rfl rfl ⟨Nat.le_of_ble_eq_true rfl, Nat.le_of_ble_eq_true rfl⟩ rfl rfl hl.1 rfl (lv_room (Nat.le_of_ble_eq_true rfl)) eX0_pickFruit_92.2.2.2.2.2.2.2.2.2.1 ⟨Nat.zero_le _, Nat.zero_le _⟩) (fun r_8 u H locs hp hP hD hS => ?_)
              have hPD := PDm (ws' := (wd_X0_pickFruit cI cC cZ cB cJ wY wJ wQ xH tX jE mX pD oO oQ eG uS sW uR qY sY bZ bD bI aI wD gF pE qA nJ nY dQ jC eO eW dO fJ fY jD nG pG qB sH uP pQ mW qO qQ oF)) hP hD 14 rfl rfl rfl
              have hP := hPD.1
              have hD := hPD.2
              refine lv_istore (lv' := [(4, .int r_8), (3, .int r_3), (0, .ref wY), (1, .int p0), (2, .int p1)]) hx hb eX0_pickFruit_92.2.2.2.2.2.2.2.2.2.2.1 hl (by decide) rfl (fun ls hl => ?_)
              refine lv_iload hx hb eX0_pickFruit_92.2.2.2.2.2.2.2.2.2.2.2.1 (lv_at hl 0 rfl) ?_
              refine lv_aload_n hx hb eX0_pickFruit_92.2.2.2.2.2.2.2.2.2.2.2.2.1 rfl (lv_at hl 2 rfl) ?_
              refine va_get (D := (dC, dI)) (ci := 0) (v := .ref wJ) (C := RX0) (T := TX0) (N := 3) hx hb hts i_X0 hown hK hP 0 rfl rfl 0 (Nat.le_of_ble_eq_true rfl) (hts _ q_156) (fun _ h9 => h9) rfl eX0_pickFruit_92.2.2.2.2.2.2.2.2.2.2.2.2.2.1 ?_
              refine va_get (D := (dC, dI)) (ci := 3) (v := .ref eG) (C := RX3) (T := TX3) (N := 11) hx hb hts i_X3 hown hK hP 1 rfl rfl 6 (Nat.le_of_ble_eq_true rfl) (hts _ q_324) (fun _ h9 => h9) rfl eX0_pickFruit_92.2.2.2.2.2.2.2.2.2.2.2.2.2.2.1 ?_
              refine lv_iconst (v := 4) hx hb eX0_pickFruit_92.2.2.2.2.2.2.2.2.2.2.2.2.2.2.2 ic_4 ?_
              refine va_iald hx hb hK hP 8 0 rfl rfl (g_in rfl) eX0_pickFruit_127.1 ?_
              refine lv_icmp_lt (tgt := 134) hx hb eX0_pickFruit_127.2.1 (by decide) (fun hc => ?_) (fun hc => ?_)
              · have hp := hp.1 hc
                refine lv_aload_n hx hb eX0_pickFruit_127.2.2.2.2.1 rfl (lv_at hl 2 rfl) ?_
                refine lv_iload_n hx hb eX0_pickFruit_127.2.2.2.2.2.1 rfl (lv_at hl 3 rfl) ?_
                refine lv_aload_n hx hb eX0_pickFruit_127.2.2.2.2.2.2.1 rfl (lv_at hl 2 rfl) ?_
                refine va_get (D := (dC, dI)) (ci := 0) (v := .ref wQ) (C := RX0) (T := TX0) (N := 3) hx hb hts i_X0 hown hK hP 0 rfl rfl 1 (Nat.le_of_ble_eq_true rfl) (hts _ q_161) (fun _ h9 => h9) rfl eX0_pickFruit_127.2.2.2.2.2.2.2.1 ?_
                refine va_get (D := (dC, dI)) (ci := 2) (v := .int fJ) (C := RX2) (T := TX2) (N := 8) hx hb hts i_X2 hown hK hP 9 rfl rfl 4 (Nat.le_of_ble_eq_true rfl) (hts _ q_228) (fun _ h9 => h9) rfl eX0_pickFruit_127.2.2.2.2.2.2.2.2.1 ?_
                refine lv_iload_n hx hb eX0_pickFruit_127.2.2.2.2.2.2.2.2.2.1 rfl (lv_at hl 4 rfl) ?_
                refine lv_iload hx hb eX0_pickFruit_127.2.2.2.2.2.2.2.2.2.2.1 (lv_at hl 0 rfl) ?_
                have hm := mgk (wc := (wd_X0_pickSeconds cI cC cZ cB cJ wY wJ wQ xH tX jE mX pD oO oQ eG uS sW uR qY sY bZ bD bI aI wD gF pE nJ nY jC eO eW dO fJ fY jD nG pG qB sH uP pQ mW qO qQ oF)) hP mk_60 14 rfl rfl rfl
                refine g_calli hP hD hS hA (mixT mk_60) (mixF mk_60) hm.1 hm.2 (nd_F _) (dis_g _) (g_runV (As := [.int p0, .int fJ, .int p1, .int r_8]) (rest := []) C0 hP hD hS (mixT mk_60) hm.1 (nd_T _) 0 0 rfl rfl (c_X0_pickSeconds l dC dI cI cC cZ cB cJ wY wJ wQ xH tX jE mX pD oO oQ eG uS sW uR qY sY H.size p0 fJ p1 r_8 bZ bD bI aI wD gF pE nJ nY jC eO eW dO fJ fY jD nG pG qB sH uP pQ mW qO qQ oF _ hp) q_325 q_328 q_326 q_327 q_187 h_X0_pickSeconds rfl rfl ⟨Nat.le_of_ble_eq_true rfl, Nat.le_of_ble_eq_true rfl⟩ rfl rfl hl.1 rfl (lv_room (Nat.le_of_ble_eq_true rfl)) eX0_pickFruit_127.2.2.2.2.2.2.2.2.2.2.2.1 ⟨Nat.zero_le _, Nat.zero_le _⟩) (fun r_9 u H locs hp hP hD hS => ?_)
                obtain ⟨aCA, aCB⟩ := u
                have hPD := PDm (ws' := (wd_X0_pickFruit cI cC cZ cB cJ wY wJ wQ xH tX jE mX pD oO oQ eG uS sW uR qY sY bZ bD bI aI wD gF pE qA nJ nY dQ jC eO eW dO fJ fY jD nG pG qB sH uP pQ mW aCA aCB oF)) hP hD 14 rfl rfl rfl
                have hP := hPD.1
                have hD := hPD.2
                refine lv_istore (lv' := [(5, .int r_9), (4, .int r_8), (3, .int r_3), (0, .ref wY), (1, .int p0), (2, .int p1)]) hx hb eX0_pickFruit_127.2.2.2.2.2.2.2.2.2.2.2.2.1 hl (by decide) rfl (fun ls hl => ?_)
                refine lv_aload_n hx hb eX0_pickFruit_127.2.2.2.2.2.2.2.2.2.2.2.2.2.1 rfl (lv_at hl 3 rfl) ?_
                refine va_get (D := (dC, dI)) (ci := 0) (v := .ref wQ) (C := RX0) (T := TX0) (N := 3) hx hb hts i_X0 hown hK hP 0 rfl rfl 1 (Nat.le_of_ble_eq_true rfl) (hts _ q_161) (fun _ h9 => h9) rfl eX0_pickFruit_127.2.2.2.2.2.2.2.2.2.2.2.2.2.2.1 ?_
                refine lv_dup hx hb eX0_pickFruit_127.2.2.2.2.2.2.2.2.2.2.2.2.2.2.2 rfl ?_
                refine va_get (D := (dC, dI)) (ci := 2) (v := .int dO) (C := RX2) (T := TX2) (N := 8) hx hb hts i_X2 hown hK hP 9 rfl rfl 3 (Nat.le_of_ble_eq_true rfl) (hts _ q_278) (fun _ h9 => h9) rfl eX0_pickFruit_156.1 ?_
                refine lv_aload_n hx hb eX0_pickFruit_156.2.1 rfl (lv_at hl 3 rfl) ?_
                refine va_get (D := (dC, dI)) (ci := 0) (v := .ref wJ) (C := RX0) (T := TX0) (N := 3) hx hb hts i_X0 hown hK hP 0 rfl rfl 0 (Nat.le_of_ble_eq_true rfl) (hts _ q_156) (fun _ h9 => h9) rfl eX0_pickFruit_156.2.2.1 ?_
                refine lv_iload_n hx hb eX0_pickFruit_156.2.2.2.1 rfl (lv_at hl 4 rfl) ?_
                refine lv_iload_n hx hb eX0_pickFruit_156.2.2.2.2.1 rfl (lv_at hl 2 rfl) ?_
                have hm := mgk (wc := (wd_X3_lowerThan cI cC cZ cB cJ wJ tX jE mX pD oO oQ eG bZ bD bI aI wD gF)) hP mk_61 14 rfl rfl rfl
                refine g_calli hP hD hS hA (mixT mk_61) (mixF mk_61) hm.1 hm.2 (nd_F _) (dis_g _) (g_runV (As := [.int p0, .int r_3]) (rest := [.int dO, .ref wQ]) C0 hP hD hS (mixT mk_61) hm.1 (nd_T _) 1 3 rfl rfl (c_X3_lowerThan l dC dI cI cC cZ cB cJ wJ tX jE mX pD oO oQ eG H.size p0 r_3 bZ bD bI aI wD gF _ hp) q_191 q_329 q_192 q_193 q_48 h_X3_lowerThan rfl rfl ⟨Nat.le_of_ble_eq_true rfl, Nat.le_of_ble_eq_true rfl⟩ rfl rfl hl.1 rfl (lv_room (Nat.le_of_ble_eq_true rfl)) eX0_pickFruit_156.2.2.2.2.2.1 ⟨Nat.zero_le _, Nat.zero_le _⟩) (fun r_12 u H locs hp hP hD hS => ?_)
                have hPD := PDm (ws' := (wd_X0_pickFruit cI cC cZ cB cJ wY wJ wQ xH tX jE mX pD oO oQ eG uS sW uR qY sY bZ bD bI aI wD gF pE qA nJ nY dQ jC eO eW dO fJ fY jD nG pG qB sH uP pQ mW aCA aCB oF)) hP hD 14 rfl rfl rfl
                have hP := hPD.1
                have hD := hPD.2
                refine lv_ior hx hb eX0_pickFruit_156.2.2.2.2.2.2.1 ?_
                refine lv_topi (fun v_13 ev_13 => ?_)
                have hp := hp v_13 ev_13
                refine va_put (D := (dC, dI)) (ci := 2) (v := .int v_13) (ty := .int) (C := RX2) (T := TX2) (N := 8) hx hb hts i_X2 tyX2 tyX2_ok nmX2 hown hK hP hD hS 9 rfl rfl 3 (Nat.le_of_ble_eq_true rfl) (hts _ q_278) (fun _ h9 => h9) rfl (tyX2_ok 3 (Nat.le_of_ble_eq_true rfl)) rfl rfl (Nat.le_of_ble_eq_true rfl) eX0_pickFruit_156.2.2.2.2.2.2.2.1 (fun H locs hP hD hS => ?_)
                have hP : va_P (dC, dI) classes (wd_X0_pickFruit cI cC cZ cB cJ wY wJ wQ xH tX jE mX pD oO oQ eG uS sW uR qY sY bZ bD bI aI wD gF pE qA nJ nY dQ jC eO eW v_13 fJ fY jD nG pG qB sH uP pQ mW aCA aCB oF) H := hP
                have hD : va_D A (wd_X0_pickFruit cI cC cZ cB cJ wY wJ wQ xH tX jE mX pD oO oQ eG uS sW uR qY sY bZ bD bI aI wD gF pE qA nJ nY dQ jC eO eW v_13 fJ fY jD nG pG qB sH uP pQ mW aCA aCB oF) := hD
                refine lv_aload_n hx hb eX0_pickFruit_156.2.2.2.2.2.2.2.2.1 rfl (lv_at hl 3 rfl) ?_
                refine va_get (D := (dC, dI)) (ci := 0) (v := .ref wQ) (C := RX0) (T := TX0) (N := 3) hx hb hts i_X0 hown hK hP 0 rfl rfl 1 (Nat.le_of_ble_eq_true rfl) (hts _ q_161) (fun _ h9 => h9) rfl eX0_pickFruit_156.2.2.2.2.2.2.2.2.2.1 ?_
                refine lv_dup hx hb eX0_pickFruit_156.2.2.2.2.2.2.2.2.2.2.1 rfl ?_
                refine va_get (D := (dC, dI)) (ci := 2) (v := .int jC) (C := RX2) (T := TX2) (N := 8) hx hb hts i_X2 hown hK hP 9 rfl rfl 0 (Nat.le_of_ble_eq_true rfl) (hts _ q_162) (fun _ h9 => h9) rfl eX0_pickFruit_156.2.2.2.2.2.2.2.2.2.2.2.1 ?_
                refine lv_iconst (v := 1) hx hb eX0_pickFruit_156.2.2.2.2.2.2.2.2.2.2.2.2.1 ic_1 ?_
                refine lv_iload_n hx hb eX0_pickFruit_156.2.2.2.2.2.2.2.2.2.2.2.2.2.1 rfl (lv_at hl 4 rfl) ?_
                refine lv_ishl hx hb eX0_pickFruit_156.2.2.2.2.2.2.2.2.2.2.2.2.2.2.1 ?_
                refine lv_ior hx hb eX0_pickFruit_156.2.2.2.2.2.2.2.2.2.2.2.2.2.2.2 ?_
                refine lv_topi (fun v_14 ev_14 => ?_)
                have hp := hp v_14 ev_14
                refine va_put (D := (dC, dI)) (ci := 2) (v := .int v_14) (ty := .int) (C := RX2) (T := TX2) (N := 8) hx hb hts i_X2 tyX2 tyX2_ok nmX2 hown hK hP hD hS 9 rfl rfl 0 (Nat.le_of_ble_eq_true rfl) (hts _ q_162) (fun _ h9 => h9) rfl (tyX2_ok 0 (Nat.le_of_ble_eq_true rfl)) rfl rfl (Nat.le_of_ble_eq_true rfl) eX0_pickFruit_184.1 (fun H locs hP hD hS => ?_)
                have hP : va_P (dC, dI) classes (wd_X0_pickFruit cI cC cZ cB cJ wY wJ wQ xH tX jE mX pD oO oQ eG uS sW uR qY sY bZ bD bI aI wD gF pE qA nJ nY dQ v_14 eO eW v_13 fJ fY jD nG pG qB sH uP pQ mW aCA aCB oF) H := hP
                have hD : va_D A (wd_X0_pickFruit cI cC cZ cB cJ wY wJ wQ xH tX jE mX pD oO oQ eG uS sW uR qY sY bZ bD bI aI wD gF pE qA nJ nY dQ v_14 eO eW v_13 fJ fY jD nG pG qB sH uP pQ mW aCA aCB oF) := hD
                refine lv_aload_n hx hb eX0_pickFruit_184.2.1 rfl (lv_at hl 3 rfl) ?_
                refine va_get (D := (dC, dI)) (ci := 0) (v := .ref wQ) (C := RX0) (T := TX0) (N := 3) hx hb hts i_X0 hown hK hP 0 rfl rfl 1 (Nat.le_of_ble_eq_true rfl) (hts _ q_161) (fun _ h9 => h9) rfl eX0_pickFruit_184.2.2.1 ?_
                refine lv_iload hx hb eX0_pickFruit_184.2.2.2.1 (lv_at hl 0 rfl) ?_
                have hm := mgk (wc := (wd_X2_spend cI cC cZ cB cJ wQ v_14 eO eW v_13 fJ fY jD nG)) hP mk_62 14 rfl rfl rfl
                refine g_callv hP hD hS hA (mixT mk_62) (mixF mk_62) hm.1 hm.2 (nd_F _) (dis_g _) (g_runV (As := [.int r_9]) (rest := []) C0 hP hD hS (mixT mk_62) hm.1 (nd_T _) 9 2 rfl rfl (c_X2_spend l dC dI cI cC cZ cB cJ wQ H.size r_9 v_14 eO eW v_13 fJ fY jD nG _ hp) q_237 q_240 q_238 q_239 q_181 h_X2_spend rfl rfl ⟨Nat.le_of_ble_eq_true rfl, Nat.le_of_ble_eq_true rfl⟩ rfl rfl hl.1 rfl (lv_room (Nat.le_of_ble_eq_true rfl)) eX0_pickFruit_184.2.2.2.2.1 ⟨Nat.zero_le _, Nat.zero_le _⟩) (fun u H locs hp hP hD hS => ?_)
                obtain ⟨no_clock_15, rfl⟩ : ∃ z, z = u := ⟨_, rfl⟩
                have hPD := PDm (ws' := (wd_X0_pickFruit cI cC cZ cB cJ wY wJ wQ xH tX jE mX pD oO oQ eG uS sW uR qY sY bZ bD bI aI wD gF pE qA nJ nY dQ v_14 eO eW v_13 fJ fY jD no_clock_15 pG qB sH uP pQ mW aCA aCB oF)) hP hD 14 rfl rfl rfl
                have hP := hPD.1
                have hD := hPD.2
                refine lv_iload hx hb eX0_pickFruit_184.2.2.2.2.2.1 (lv_at hl 0 rfl) ?_
                exact W.iret (v := r_9) hx hb hr (fun t ht hW => ⟨⟨r_9, (v_14, v_13, no_clock_15, aCA, aCB), rfl, hp, by rw [ht]; exact hP, va_K.moved hW.alike hK, hD⟩, hS.F ht⟩) hS.2.2 eX0_pickFruit_184.2.2.2.2.2.2
              · have hp := hp.2 hc
                refine lv_bipush (v := (-5)) hx hb eX0_pickFruit_127.2.2.1 bp_m5 ?_
                exact W.iret (v := (-5)) hx hb hr (fun t ht hW => ⟨⟨(-5), (jC, dO, nG, qO, qQ), rfl, hp, by rw [ht]; exact hP, va_K.moved hW.alike hK, hD⟩, hS.F ht⟩) hS.2.2 eX0_pickFruit_127.2.2.2.1
            · have hp := hp.2 hc
              refine lv_bipush (v := (-4)) hx hb eX0_pickFruit_92.2.2.2.2.1 bp_m4 ?_
              exact W.iret (v := (-4)) hx hb hr (fun t ht hW => ⟨⟨(-4), (jC, dO, nG, qO, qQ), rfl, hp, by rw [ht]; exact hP, va_K.moved hW.alike hK, hD⟩, hS.F ht⟩) hS.2.2 eX0_pickFruit_92.2.2.2.2.2.1
        · have hp := hp.2 hc
          refine lv_bipush (v := (-3)) hx hb eX0_pickFruit_28.2.2.2.2.2.2.2.2.2.2.2.2.2.2.1 bp_m3 ?_
          exact W.iret (v := (-3)) hx hb hr (fun t ht hW => ⟨⟨(-3), (jC, dO, nG, qO, qQ), rfl, hp, by rw [ht]; exact hP, va_K.moved hW.alike hK, hD⟩, hS.F ht⟩) hS.2.2 eX0_pickFruit_28.2.2.2.2.2.2.2.2.2.2.2.2.2.2.2
      · have hp := hp.2 hc
        refine lv_bipush (v := (-2)) hx hb eX0_pickFruit_28.2.2.2.1 bp_m2 ?_
        exact W.iret (v := (-2)) hx hb hr (fun t ht hW => ⟨⟨(-2), (jC, dO, nG, qO, qQ), rfl, hp, by rw [ht]; exact hP, va_K.moved hW.alike hK, hD⟩, hS.F ht⟩) hS.2.2 eX0_pickFruit_28.2.2.2.2.1
    · have hp := hp.2 hc
      refine lv_iconst (v := (-1)) hx hb eX0_pickFruit_0.2.2.2.2.2.2.2.2.1 ic_m1 ?_
      exact W.iret (v := (-1)) hx hb hr (fun t ht hW => ⟨⟨(-1), (jC, dO, nG, qO, qQ), rfl, hp, by rw [ht]; exact hP, va_K.moved hW.alike hK, hD⟩, hS.F ht⟩) hS.2.2 eX0_pickFruit_0.2.2.2.2.2.2.2.2.2.1
noncomputable abbrev wd_X9_pick (cI cC cZ cB cJ : ClassId) (a_x xG xD wY wJ wQ xI xK xJ tW xH tX jE mX pD oO oQ eG uS sW uR qY sY vX uO vQ : Nat) (bZ bD bI aI : Int32) (wD gF pE qA nJ nY dQ : Nat → Int32) (jC eO eW dO fJ fY jD nG pG qB sH uP pQ mW : Int32) (qO qQ oF : Nat → Int32) (oE uF : Int32) (sG : Nat → Int32) : va_W := [(a_x, .inr (9, [.ref xG, .ref xD, .ref wY, .ref wJ, .ref wQ, .ref xI, .ref xK, .ref xJ, .ref tW])), (wY, .inr (0, [.ref wJ, .ref wQ, .ref xH])), (wJ, .inr (3, [.ref tX, .ref jE, .ref mX, .ref pD, .ref oO, .ref oQ, .ref eG, .int bZ, .int bD, .int bI, .int aI])), (tX, .inl (cI, 16, .inl wD)), (jE, .inl (cI, 16, .inl gF)), (mX, .inl (cI, 16, .inl pE)), (pD, .inl (cI, 16, .inl qA)), (oO, .inl (cI, 8, .inl nJ)), (oQ, .inl (cI, 8, .inl nY)), (eG, .inl (cI, 5, .inl dQ)), (wQ, .inr (2, [.int jC, .int eO, .int eW, .int dO, .int fJ, .int fY, .int jD, .int nG])), (xH, .inr (7, [.ref uS, .ref sW, .ref uR, .ref qY, .ref sY, .int pG, .int qB, .int sH, .int uP, .int pQ, .int mW])), (uS, .inl (cI, 7, .inl qO)), (uR, .inl (cI, 40, .inl qQ)), (qY, .inl (cI, 40, .inl oF)), (xI, .inr (4, [.ref vX, .ref uO, .ref vQ, .int oE, .int uF])), (vX, .inl (cI, 104, .inl sG))]
noncomputable abbrev q_X9_pick (dC : Nat → ClassId) (dI : Nat → Nat → Nat) (cI cC cZ cB cJ : ClassId) (A : Nat → Prop) (a_x xG xD wY wJ wQ xI xK xJ tW xH tX jE mX pD oO oQ eG uS sW uR qY sY vX uO vQ : Nat) (bZ bD bI aI : Int32) (wD gF pE qA nJ nY dQ : Nat → Int32) (eO eW fJ fY jD pG qB sH uP pQ mW : Int32) (oF : Nat → Int32) (post : Int32 → Int32 → Int32 → Int32 → (Nat → Int32) → (Nat → Int32) → Int32 → Int32 → (Nat → Int32) → Prop) : Array Value → State → Outcome → State → Prop := va_Qi (fun (r : Int32) (u : Int32 × Int32 × Int32 × (Nat → Int32) × (Nat → Int32) × Int32 × Int32 × (Nat → Int32)) => post r u.1 u.2.1 u.2.2.1 u.2.2.2.1 u.2.2.2.2.1 u.2.2.2.2.2.1 u.2.2.2.2.2.2.1 u.2.2.2.2.2.2.2) (fun u t => gB (dC, dI) (tyl cI cC cZ cB cJ) A (wd_X9_pick cI cC cZ cB cJ a_x xG xD wY wJ wQ xI xK xJ tW xH tX jE mX pD oO oQ eG uS sW uR qY sY vX uO vQ bZ bD bI aI wD gF pE qA nJ nY dQ u.1 eO eW u.2.1 fJ fY jD u.2.2.1 pG qB sH uP pQ mW u.2.2.2.1 u.2.2.2.2.1 oF u.2.2.2.2.2.1 u.2.2.2.2.2.2.1 u.2.2.2.2.2.2.2) t) A
noncomputable abbrev rm_X9_pick : Room := { frames := 4, cells := 0, slots := 0, locals := 98 }
noncomputable def wp_X9_pick (post : Int32 → Int32 → Int32 → Int32 → (Nat → Int32) → (Nat → Int32) → Int32 → Int32 → (Nat → Int32) → Prop) (p0 p1 bZ : Int32) (wD gF pE qA nJ nY dQ : Nat → Int32) (jC eO eW dO fJ fY jD nG pG : Int32) (qO qQ oF : Nat → Int32) (oE uF : Int32) (sG : Nat → Int32) : Prop := wp_X4_note (fun yP => wp_X0_pickFruit (fun r_2 zS aAS zI ru_given_6 aF4 => wp_X9_holdIfDone (fun r_8 aAo aB4 => post r_8 zS aAS zI ru_given_6 aF4 aAo aB4 yP) r_2 oE uF) p0 p1 bZ wD gF pE qA nJ nY dQ jC eO eW dO fJ fY jD nG pG qO qQ oF) jC eO eW dO fJ fY jD nG uF sG
set_option maxHeartbeats 4000000 in
set_option maxRecDepth 100000 in
theorem c_X9_pick (l : Launch) (dC : Nat → ClassId) (dI : Nat → Nat → Nat) (cI cC cZ cB cJ : ClassId) (a_x xG xD wY wJ wQ xI xK xJ tW xH tX jE mX pD oO oQ eG uS sW uR qY sY vX uO vQ sz : Nat) (p0 p1 bZ bD bI aI : Int32) (wD gF pE qA nJ nY dQ : Nat → Int32) (jC eO eW dO fJ fY jD nG pG qB sH uP pQ mW : Int32) (qO qQ oF : Nat → Int32) (oE uF : Int32) (sG : Nat → Int32) (post : Int32 → Int32 → Int32 → Int32 → (Nat → Int32) → (Nat → Int32) → Int32 → Int32 → (Nat → Int32) → Prop) (hw : wp_X9_pick post p0 p1 bZ wD gF pE qA nJ nY dQ jC eO eW dO fJ fY jD nG pG qO qQ oF oE uF sG) : Met l yX9_pick (gw yX9_pick cX9_pick 3 (some .int)) rm_X9_pick (va_Pc [.ref a_x, .int p0, .int p1] (gPre (dC, dI) (tyl cI cC cZ cB cJ) (wd_X9_pick cI cC cZ cB cJ a_x xG xD wY wJ wQ xI xK xJ tW xH tX jE mX pD oO oQ eG uS sW uR qY sY vX uO vQ bZ bD bI aI wD gF pE qA nJ nY dQ jC eO eW dO fJ fY jD nG pG qB sH uP pQ mW qO qQ oF oE uF sG) sz)) (q_X9_pick dC dI cI cC cZ cB cJ (va_A (wd_X9_pick cI cC cZ cB cJ a_x xG xD wY wJ wQ xI xK xJ tW xH tX jE mX pD oO oQ eG uS sW uR qY sY vX uO vQ bZ bD bI aI wD gF pE qA nJ nY dQ jC eO eW dO fJ fY jD nG pG qB sH uP pQ mW qO qQ oF oE uF sG) sz) a_x xG xD wY wJ wQ xI xK xJ tW xH tX jE mX pD oO oQ eG uS sW uR qY sY vX uO vQ bZ bD bI aI wD gF pE qA nJ nY dQ eO eW fJ fY jD pG qB sH uP pQ mW oF post) 0 0 (va_A (wd_X9_pick cI cC cZ cB cJ a_x xG xD wY wJ wQ xI xK xJ tW xH tX jE mX pD oO oQ eG uS sW uR qY sY vX uO vQ bZ bD bI aI wD gF pE qA nJ nY dQ jC eO eW dO fJ fY jD nG pG qB sH uP pQ mW qO qQ oF oE uF sG) sz) := by
  refine g_enter (own := RX9) (dC, dI) (tyl cI cC cZ cB cJ) (wd_X9_pick cI cC cZ cB cJ a_x xG xD wY wJ wQ xI xK xJ tW xH tX jE mX pD oO oQ eG uS sW uR qY sY vX uO vQ bZ bD bI aI wD gF pE qA nJ nY dQ jC eO eW dO fJ fY jD nG pG qB sH uP pQ mW qO qQ oF oE uF sG) sz [.ref a_x, .int p0, .int p1] (fun A => q_X9_pick dC dI cI cC cZ cB cJ A a_x xG xD wY wJ wQ xI xK xJ tW xH tX jE mX pD oO oQ eG uS sW uR qY sY vX uO vQ bZ bD bI aI wD gF pE qA nJ nY dQ eO eW fJ fY jD pG qB sH uP pQ mW oF post) pn_RX9 rfl (Nat.le_of_ble_eq_true rfl) ?_
  intro p e s m args below meth c A H locs ls C0 hP hD hS hl
  have hl : lv_has ls 3 [(0, .ref a_x), (1, .int p0), (2, .int p1)] := hl
  obtain ⟨hx, hb, hr, hml, hown, hts, hlocks, hA, hK, hN, tL, tM, hZL, hTL, hZM, hTM, hZX⟩ := id C0
  have hp := hw
  unfold wp_X9_pick at hp
  refine lv_aload_n hx hb eX9_pick_0.1 rfl (lv_at hl 0 rfl) ?_
  refine va_get (D := (dC, dI)) (ci := 9) (v := .ref xI) (C := RX9) (T := TX9) (N := 9) hx hb hts i_X9 hown hK hP 0 rfl rfl 5 (Nat.le_of_ble_eq_true rfl) (hts _ q_91) (fun _ h9 => h9) rfl eX9_pick_0.2.1 ?_
  refine lv_aload_n hx hb eX9_pick_0.2.2.1 rfl (lv_at hl 0 rfl) ?_
  refine va_get (D := (dC, dI)) (ci := 9) (v := .ref wQ) (C := RX9) (T := TX9) (N := 9) hx hb hts i_X9 hown hK hP 0 rfl rfl 4 (Nat.le_of_ble_eq_true rfl) (hts _ q_179) (fun _ h9 => h9) rfl eX9_pick_0.2.2.2.1 ?_
  have hm := mgk (wc := (wd_X4_note cI cC cZ cB cJ wQ xI vX uO vQ jC eO eW dO fJ fY jD nG oE uF sG)) hP mk_63 17 rfl rfl rfl
  refine g_callv hP hD hS hA (mixT mk_63) (mixF mk_63) hm.1 hm.2 (nd_F _) (dis_g _) (g_runV (As := [.ref wQ]) (rest := []) C0 hP hD hS (mixT mk_63) hm.1 (nd_T _) 15 4 rfl rfl (c_X4_note l dC dI cI cC cZ cB cJ wQ xI vX uO vQ H.size jC eO eW dO fJ fY jD nG oE uF sG _ hp) q_247 q_250 q_248 q_249 q_93 h_X4_note rfl rfl ⟨Nat.le_of_ble_eq_true rfl, Nat.le_of_ble_eq_true rfl⟩ rfl rfl hl.1 rfl (lv_room (Nat.le_of_ble_eq_true rfl)) eX9_pick_0.2.2.2.2.1 ⟨Nat.zero_le _, Nat.zero_le _⟩) (fun u H locs hp hP hD hS => ?_)
  obtain ⟨yP, rfl⟩ : ∃ z, z = u := ⟨_, rfl⟩
  have hPD := PDm (ws' := (wd_X9_pick cI cC cZ cB cJ a_x xG xD wY wJ wQ xI xK xJ tW xH tX jE mX pD oO oQ eG uS sW uR qY sY vX uO vQ bZ bD bI aI wD gF pE qA nJ nY dQ jC eO eW dO fJ fY jD nG pG qB sH uP pQ mW qO qQ oF oE uF yP)) hP hD 17 rfl rfl rfl
  have hP := hPD.1
  have hD := hPD.2
  refine lv_aload_n hx hb eX9_pick_0.2.2.2.2.2.1 rfl (lv_at hl 0 rfl) ?_
  refine lv_aload_n hx hb eX9_pick_0.2.2.2.2.2.2.1 rfl (lv_at hl 0 rfl) ?_
  refine va_get (D := (dC, dI)) (ci := 9) (v := .ref wY) (C := RX9) (T := TX9) (N := 9) hx hb hts i_X9 hown hK hP 0 rfl rfl 2 (Nat.le_of_ble_eq_true rfl) (hts _ q_146) (fun _ h9 => h9) rfl eX9_pick_0.2.2.2.2.2.2.2.1 ?_
  refine lv_iload_n hx hb eX9_pick_0.2.2.2.2.2.2.2.2.1 rfl (lv_at hl 1 rfl) ?_
  refine lv_iload_n hx hb eX9_pick_0.2.2.2.2.2.2.2.2.2.1 rfl (lv_at hl 2 rfl) ?_
  have hm := mgk (wc := (wd_X0_pickFruit cI cC cZ cB cJ wY wJ wQ xH tX jE mX pD oO oQ eG uS sW uR qY sY bZ bD bI aI wD gF pE qA nJ nY dQ jC eO eW dO fJ fY jD nG pG qB sH uP pQ mW qO qQ oF)) hP mk_64 17 rfl rfl rfl
  refine g_calli hP hD hS hA (mixT mk_64) (mixF mk_64) hm.1 hm.2 (nd_F _) (dis_g _) (g_runV (As := [.int p0, .int p1]) (rest := [.ref a_x]) C0 hP hD hS (mixT mk_64) hm.1 (nd_T _) 1 0 rfl rfl (c_X0_pickFruit l dC dI cI cC cZ cB cJ wY wJ wQ xH tX jE mX pD oO oQ eG uS sW uR qY sY H.size p0 p1 bZ bD bI aI wD gF pE qA nJ nY dQ jC eO eW dO fJ fY jD nG pG qB sH uP pQ mW qO qQ oF _ hp) q_330 q_333 q_331 q_332 q_187 h_X0_pickFruit rfl rfl ⟨Nat.le_of_ble_eq_true rfl, Nat.le_of_ble_eq_true rfl⟩ rfl rfl hl.1 rfl (lv_room (Nat.le_of_ble_eq_true rfl)) eX9_pick_0.2.2.2.2.2.2.2.2.2.2.1 ⟨Nat.zero_le _, Nat.zero_le _⟩) (fun r_2 u H locs hp hP hD hS => ?_)
  obtain ⟨zS, aAS, zI, ru_given_6, aF4⟩ := u
  have hPD := PDm (ws' := (wd_X9_pick cI cC cZ cB cJ a_x xG xD wY wJ wQ xI xK xJ tW xH tX jE mX pD oO oQ eG uS sW uR qY sY vX uO vQ bZ bD bI aI wD gF pE qA nJ nY dQ zS eO eW aAS fJ fY jD zI pG qB sH uP pQ mW ru_given_6 aF4 oF oE uF yP)) hP hD 17 rfl rfl rfl
  have hP := hPD.1
  have hD := hPD.2
  have hm := mgk (wc := (wd_X9_holdIfDone cI cC cZ cB cJ a_x xG xD wY wJ wQ xI xK xJ tW vX uO vQ oE uF)) hP mk_65 17 rfl rfl rfl
  refine g_calli hP hD hS hA (mixT mk_65) (mixF mk_65) hm.1 hm.2 (nd_F _) (dis_g _) (g_runV (As := [.int r_2]) (rest := []) C0 hP hD hS (mixT mk_65) hm.1 (nd_T _) 0 9 rfl rfl (c_X9_holdIfDone l dC dI cI cC cZ cB cJ a_x xG xD wY wJ wQ xI xK xJ tW vX uO vQ H.size r_2 oE uF _ hp) q_255 q_259 q_257 q_258 q_256 h_X9_holdIfDone rfl rfl ⟨Nat.le_of_ble_eq_true rfl, Nat.le_of_ble_eq_true rfl⟩ rfl rfl hl.1 rfl (lv_room (Nat.le_of_ble_eq_true rfl)) eX9_pick_0.2.2.2.2.2.2.2.2.2.2.2.1 ⟨Nat.zero_le _, Nat.zero_le _⟩) (fun r_8 u H locs hp hP hD hS => ?_)
  obtain ⟨aAo, aB4⟩ := u
  have hPD := PDm (ws' := (wd_X9_pick cI cC cZ cB cJ a_x xG xD wY wJ wQ xI xK xJ tW xH tX jE mX pD oO oQ eG uS sW uR qY sY vX uO vQ bZ bD bI aI wD gF pE qA nJ nY dQ zS eO eW aAS fJ fY jD zI pG qB sH uP pQ mW ru_given_6 aF4 oF aAo aB4 yP)) hP hD 17 rfl rfl rfl
  have hP := hPD.1
  have hD := hPD.2
  exact W.iret (v := r_8) hx hb hr (fun t ht hW => ⟨⟨r_8, (zS, aAS, zI, ru_given_6, aF4, aAo, aB4, yP), rfl, hp, by rw [ht]; exact hP, va_K.moved hW.alike hK, hD⟩, hS.F ht⟩) hS.2.2 eX9_pick_0.2.2.2.2.2.2.2.2.2.2.2.2
noncomputable abbrev wd_X0_goDown (cI cC cZ cB cJ : ClassId) (wY wJ wQ xH tX jE mX pD oO oQ eG : Nat) (bZ bD bI aI : Int32) (nY : Nat → Int32) (jC eO eW dO fJ fY jD nG : Int32) : va_W := [(wY, .inr (0, [.ref wJ, .ref wQ, .ref xH])), (wJ, .inr (3, [.ref tX, .ref jE, .ref mX, .ref pD, .ref oO, .ref oQ, .ref eG, .int bZ, .int bD, .int bI, .int aI])), (oQ, .inl (cI, 8, .inl nY)), (wQ, .inr (2, [.int jC, .int eO, .int eW, .int dO, .int fJ, .int fY, .int jD, .int nG]))]
noncomputable abbrev q_X0_goDown (dC : Nat → ClassId) (dI : Nat → Nat → Nat) (cI cC cZ cB cJ : ClassId) (A : Nat → Prop) (wY wJ wQ xH tX jE mX pD oO oQ eG : Nat) (bZ bD bI aI : Int32) (nY : Nat → Int32) (eW dO fJ fY jD : Int32) (post : Int32 → Int32 → Int32 → Int32 → Prop) : Array Value → State → Outcome → State → Prop := va_Qi (fun (r : Int32) (u : Int32 × Int32 × Int32) => post r u.1 u.2.1 u.2.2) (fun u t => gB (dC, dI) (tyl cI cC cZ cB cJ) A (wd_X0_goDown cI cC cZ cB cJ wY wJ wQ xH tX jE mX pD oO oQ eG bZ bD bI aI nY u.1 u.2.1 eW dO fJ fY jD u.2.2) t) A
noncomputable abbrev rm_X0_goDown : Room := { frames := 2, cells := 0, slots := 0, locals := 42 }
noncomputable def wp_X0_goDown (post : Int32 → Int32 → Int32 → Int32 → Prop) (nY : Nat → Int32) (jC eO fJ nG : Int32) : Prop := (fJ = (-1) → post (-2) jC eO nG) ∧ (¬ fJ = (-1) → (¬ jC = 0 → wp_J6_bitCount_0f7a4 (fun r_1 => wp_X2_emptyApron (fun aAm zY => wp_X3_downSeconds (fun r_4 => wp_X2_spend (fun zI => post r_1 aAm zY zI) r_4 nG) fJ nY) jC eO) jC) ∧ (jC = 0 → post (-2) jC eO nG))
set_option maxHeartbeats 4000000 in
set_option maxRecDepth 100000 in
theorem c_X0_goDown (l : Launch) (dC : Nat → ClassId) (dI : Nat → Nat → Nat) (cI cC cZ cB cJ : ClassId) (wY wJ wQ xH tX jE mX pD oO oQ eG sz : Nat) (bZ bD bI aI : Int32) (nY : Nat → Int32) (jC eO eW dO fJ fY jD nG : Int32) (post : Int32 → Int32 → Int32 → Int32 → Prop) (hw : wp_X0_goDown post nY jC eO fJ nG) : Met l yX0_goDown (gw yX0_goDown cX0_goDown 2 (some .int)) rm_X0_goDown (va_Pc [.ref wY] (gPre (dC, dI) (tyl cI cC cZ cB cJ) (wd_X0_goDown cI cC cZ cB cJ wY wJ wQ xH tX jE mX pD oO oQ eG bZ bD bI aI nY jC eO eW dO fJ fY jD nG) sz)) (q_X0_goDown dC dI cI cC cZ cB cJ (va_A (wd_X0_goDown cI cC cZ cB cJ wY wJ wQ xH tX jE mX pD oO oQ eG bZ bD bI aI nY jC eO eW dO fJ fY jD nG) sz) wY wJ wQ xH tX jE mX pD oO oQ eG bZ bD bI aI nY eW dO fJ fY jD post) 0 0 (va_A (wd_X0_goDown cI cC cZ cB cJ wY wJ wQ xH tX jE mX pD oO oQ eG bZ bD bI aI nY jC eO eW dO fJ fY jD nG) sz) := by
  refine g_enter (own := RX0) (dC, dI) (tyl cI cC cZ cB cJ) (wd_X0_goDown cI cC cZ cB cJ wY wJ wQ xH tX jE mX pD oO oQ eG bZ bD bI aI nY jC eO eW dO fJ fY jD nG) sz [.ref wY] (fun A => q_X0_goDown dC dI cI cC cZ cB cJ A wY wJ wQ xH tX jE mX pD oO oQ eG bZ bD bI aI nY eW dO fJ fY jD post) pn_RX0 rfl (Nat.le_of_ble_eq_true rfl) ?_
  intro p e s m args below meth c A H locs ls C0 hP hD hS hl
  have hl : lv_has ls 2 [(0, .ref wY)] := hl
  obtain ⟨hx, hb, hr, hml, hown, hts, hlocks, hA, hK, hN, tL, tM, hZL, hTL, hZM, hTM, hZX⟩ := id C0
  have hp := hw
  unfold wp_X0_goDown at hp
  refine lv_aload_n hx hb eX0_goDown_0.1 rfl (lv_at hl 0 rfl) ?_
  refine va_get (D := (dC, dI)) (ci := 0) (v := .ref wQ) (C := RX0) (T := TX0) (N := 3) hx hb hts i_X0 hown hK hP 0 rfl rfl 1 (Nat.le_of_ble_eq_true rfl) (hts _ q_161) (fun _ h9 => h9) rfl eX0_goDown_0.2.1 ?_
  refine va_get (D := (dC, dI)) (ci := 2) (v := .int fJ) (C := RX2) (T := TX2) (N := 8) hx hb hts i_X2 hown hK hP 3 rfl rfl 4 (Nat.le_of_ble_eq_true rfl) (hts _ q_228) (fun _ h9 => h9) rfl eX0_goDown_0.2.2.1 ?_
  refine lv_iconst (v := (-1)) hx hb eX0_goDown_0.2.2.2.1 ic_m1 ?_
  refine lv_icmp_eq (tgt := 21) hx hb eX0_goDown_0.2.2.2.2.1 (by decide) (fun hc => ?_) (fun hc => ?_)
  · have hp := hp.1 hc
    refine lv_bipush (v := (-2)) hx hb eX0_goDown_0.2.2.2.2.2.2.2.2.2.1 bp_m2 ?_
    exact W.iret (v := (-2)) hx hb hr (fun t ht hW => ⟨⟨(-2), (jC, eO, nG), rfl, hp, by rw [ht]; exact hP, va_K.moved hW.alike hK, hD⟩, hS.F ht⟩) hS.2.2 eX0_goDown_0.2.2.2.2.2.2.2.2.2.2.1
  · have hp := hp.2 hc
    refine lv_aload_n hx hb eX0_goDown_0.2.2.2.2.2.1 rfl (lv_at hl 0 rfl) ?_
    refine va_get (D := (dC, dI)) (ci := 0) (v := .ref wQ) (C := RX0) (T := TX0) (N := 3) hx hb hts i_X0 hown hK hP 0 rfl rfl 1 (Nat.le_of_ble_eq_true rfl) (hts _ q_161) (fun _ h9 => h9) rfl eX0_goDown_0.2.2.2.2.2.2.1 ?_
    refine va_get (D := (dC, dI)) (ci := 2) (v := .int jC) (C := RX2) (T := TX2) (N := 8) hx hb hts i_X2 hown hK hP 3 rfl rfl 0 (Nat.le_of_ble_eq_true rfl) (hts _ q_162) (fun _ h9 => h9) rfl eX0_goDown_0.2.2.2.2.2.2.2.1 ?_
    refine lv_if_ne (tgt := 24) hx hb eX0_goDown_0.2.2.2.2.2.2.2.2.1 (by decide) (fun hc => ?_) (fun hc => ?_)
    · have hp := hp.1 hc
      refine lv_aload_n hx hb eX0_goDown_0.2.2.2.2.2.2.2.2.2.2.2.1 rfl (lv_at hl 0 rfl) ?_
      refine va_get (D := (dC, dI)) (ci := 0) (v := .ref wQ) (C := RX0) (T := TX0) (N := 3) hx hb hts i_X0 hown hK hP 0 rfl rfl 1 (Nat.le_of_ble_eq_true rfl) (hts _ q_161) (fun _ h9 => h9) rfl eX0_goDown_0.2.2.2.2.2.2.2.2.2.2.2.2.1 ?_
      refine va_get (D := (dC, dI)) (ci := 2) (v := .int jC) (C := RX2) (T := TX2) (N := 8) hx hb hts i_X2 hown hK hP 3 rfl rfl 0 (Nat.le_of_ble_eq_true rfl) (hts _ q_162) (fun _ h9 => h9) rfl eX0_goDown_0.2.2.2.2.2.2.2.2.2.2.2.2.2.1 ?_
      have hm := mgk (wc := (wd_J6_bitCount_0f7a4 cI cC cZ cB cJ)) hP mk_50 4 rfl rfl rfl
      refine g_calli hP hD hS hA (mixT mk_50) (mixF mk_50) hm.1 hm.2 (nd_F _) (dis_g _) (g_runS (As := [.int jC]) (rest := []) C0 hP hD hS (mixT mk_50) hm.1 (nd_T _) (c_J6_bitCount_0f7a4 l dC dI cI cC cZ cB cJ H.size jC _ hp) q_320 q_323 q_322 q_321 h_J6_bitCount_0f7a4 rfl rfl ⟨Nat.le_of_ble_eq_true rfl, Nat.le_of_ble_eq_true rfl⟩ rfl rfl hl.1 rfl (lv_room (Nat.le_of_ble_eq_true rfl)) eX0_goDown_0.2.2.2.2.2.2.2.2.2.2.2.2.2.2.1 ⟨Nat.zero_le _, Nat.zero_le _⟩) (fun r_1 u H locs hp hP hD hS => ?_)
      have hPD := PDm (ws' := (wd_X0_goDown cI cC cZ cB cJ wY wJ wQ xH tX jE mX pD oO oQ eG bZ bD bI aI nY jC eO eW dO fJ fY jD nG)) hP hD 4 rfl rfl rfl
      have hP := hPD.1
      have hD := hPD.2
      refine lv_istore_n (lv' := [(1, .int r_1), (0, .ref wY)]) hx hb eX0_goDown_0.2.2.2.2.2.2.2.2.2.2.2.2.2.2.2 rfl hl (by decide) rfl (fun ls hl => ?_)
      refine lv_aload_n hx hb eX0_goDown_35.1 rfl (lv_at hl 1 rfl) ?_
      refine va_get (D := (dC, dI)) (ci := 0) (v := .ref wQ) (C := RX0) (T := TX0) (N := 3) hx hb hts i_X0 hown hK hP 0 rfl rfl 1 (Nat.le_of_ble_eq_true rfl) (hts _ q_161) (fun _ h9 => h9) rfl eX0_goDown_35.2.1 ?_
      have hm := mgk (wc := (wd_X2_emptyApron cI cC cZ cB cJ wQ jC eO eW dO fJ fY jD nG)) hP mk_66 4 rfl rfl rfl
      refine g_callv hP hD hS hA (mixT mk_66) (mixF mk_66) hm.1 hm.2 (nd_F _) (dis_g _) (g_runV (As := []) (rest := []) C0 hP hD hS (mixT mk_66) hm.1 (nd_T _) 3 2 rfl rfl (c_X2_emptyApron l dC dI cI cC cZ cB cJ wQ H.size jC eO eW dO fJ fY jD nG _ hp) q_233 q_236 q_234 q_235 q_181 h_X2_emptyApron rfl rfl ⟨Nat.le_of_ble_eq_true rfl, Nat.le_of_ble_eq_true rfl⟩ rfl rfl hl.1 rfl (lv_room (Nat.le_of_ble_eq_true rfl)) eX0_goDown_35.2.2.1 ⟨Nat.zero_le _, Nat.zero_le _⟩) (fun u H locs hp hP hD hS => ?_)
      obtain ⟨aAm, zY⟩ := u
      have hPD := PDm (ws' := (wd_X0_goDown cI cC cZ cB cJ wY wJ wQ xH tX jE mX pD oO oQ eG bZ bD bI aI nY aAm zY eW dO fJ fY jD nG)) hP hD 4 rfl rfl rfl
      have hP := hPD.1
      have hD := hPD.2
      refine lv_aload_n hx hb eX0_goDown_35.2.2.2.1 rfl (lv_at hl 1 rfl) ?_
      refine va_get (D := (dC, dI)) (ci := 0) (v := .ref wQ) (C := RX0) (T := TX0) (N := 3) hx hb hts i_X0 hown hK hP 0 rfl rfl 1 (Nat.le_of_ble_eq_true rfl) (hts _ q_161) (fun _ h9 => h9) rfl eX0_goDown_35.2.2.2.2.1 ?_
      refine lv_aload_n hx hb eX0_goDown_35.2.2.2.2.2.1 rfl (lv_at hl 1 rfl) ?_
      refine va_get (D := (dC, dI)) (ci := 0) (v := .ref wJ) (C := RX0) (T := TX0) (N := 3) hx hb hts i_X0 hown hK hP 0 rfl rfl 0 (Nat.le_of_ble_eq_true rfl) (hts _ q_156) (fun _ h9 => h9) rfl eX0_goDown_35.2.2.2.2.2.2.1 ?_
      refine lv_aload_n hx hb eX0_goDown_35.2.2.2.2.2.2.2.1 rfl (lv_at hl 1 rfl) ?_
      refine va_get (D := (dC, dI)) (ci := 0) (v := .ref wQ) (C := RX0) (T := TX0) (N := 3) hx hb hts i_X0 hown hK hP 0 rfl rfl 1 (Nat.le_of_ble_eq_true rfl) (hts _ q_161) (fun _ h9 => h9) rfl eX0_goDown_35.2.2.2.2.2.2.2.2.1 ?_
      refine va_get (D := (dC, dI)) (ci := 2) (v := .int fJ) (C := RX2) (T := TX2) (N := 8) hx hb hts i_X2 hown hK hP 3 rfl rfl 4 (Nat.le_of_ble_eq_true rfl) (hts _ q_228) (fun _ h9 => h9) rfl eX0_goDown_35.2.2.2.2.2.2.2.2.2.1 ?_
      have hm := mgk (wc := (wd_X3_downSeconds cI cC cZ cB cJ wJ tX jE mX pD oO oQ eG bZ bD bI aI nY)) hP mk_49 4 rfl rfl rfl
      refine g_calli hP hD hS hA (mixT mk_49) (mixF mk_49) hm.1 hm.2 (nd_F _) (dis_g _) (g_runV (As := [.int fJ]) (rest := [.ref wQ]) C0 hP hD hS (mixT mk_49) hm.1 (nd_T _) 1 3 rfl rfl (c_X3_downSeconds l dC dI cI cC cZ cB cJ wJ tX jE mX pD oO oQ eG H.size fJ bZ bD bI aI nY _ hp) q_201 q_241 q_202 q_203 q_48 h_X3_downSeconds rfl rfl ⟨Nat.le_of_ble_eq_true rfl, Nat.le_of_ble_eq_true rfl⟩ rfl rfl hl.1 rfl (lv_room (Nat.le_of_ble_eq_true rfl)) eX0_goDown_35.2.2.2.2.2.2.2.2.2.2.1 ⟨Nat.zero_le _, Nat.zero_le _⟩) (fun r_4 u H locs hp hP hD hS => ?_)
      have hPD := PDm (ws' := (wd_X0_goDown cI cC cZ cB cJ wY wJ wQ xH tX jE mX pD oO oQ eG bZ bD bI aI nY aAm zY eW dO fJ fY jD nG)) hP hD 4 rfl rfl rfl
      have hP := hPD.1
      have hD := hPD.2
      have hm := mgk (wc := (wd_X2_spend cI cC cZ cB cJ wQ aAm zY eW dO fJ fY jD nG)) hP mk_66 4 rfl rfl rfl
      refine g_callv hP hD hS hA (mixT mk_66) (mixF mk_66) hm.1 hm.2 (nd_F _) (dis_g _) (g_runV (As := [.int r_4]) (rest := []) C0 hP hD hS (mixT mk_66) hm.1 (nd_T _) 3 2 rfl rfl (c_X2_spend l dC dI cI cC cZ cB cJ wQ H.size r_4 aAm zY eW dO fJ fY jD nG _ hp) q_237 q_240 q_238 q_239 q_181 h_X2_spend rfl rfl ⟨Nat.le_of_ble_eq_true rfl, Nat.le_of_ble_eq_true rfl⟩ rfl rfl hl.1 rfl (lv_room (Nat.le_of_ble_eq_true rfl)) eX0_goDown_35.2.2.2.2.2.2.2.2.2.2.2.1 ⟨Nat.zero_le _, Nat.zero_le _⟩) (fun u H locs hp hP hD hS => ?_)
      obtain ⟨zI, rfl⟩ : ∃ z, z = u := ⟨_, rfl⟩
      have hPD := PDm (ws' := (wd_X0_goDown cI cC cZ cB cJ wY wJ wQ xH tX jE mX pD oO oQ eG bZ bD bI aI nY aAm zY eW dO fJ fY jD zI)) hP hD 4 rfl rfl rfl
      have hP := hPD.1
      have hD := hPD.2
      refine lv_iload_n hx hb eX0_goDown_35.2.2.2.2.2.2.2.2.2.2.2.2.1 rfl (lv_at hl 0 rfl) ?_
      exact W.iret (v := r_1) hx hb hr (fun t ht hW => ⟨⟨r_1, (aAm, zY, zI), rfl, hp, by rw [ht]; exact hP, va_K.moved hW.alike hK, hD⟩, hS.F ht⟩) hS.2.2 eX0_goDown_35.2.2.2.2.2.2.2.2.2.2.2.2.2
    · have hp := hp.2 hc
      refine lv_bipush (v := (-2)) hx hb eX0_goDown_0.2.2.2.2.2.2.2.2.2.1 bp_m2 ?_
      exact W.iret (v := (-2)) hx hb hr (fun t ht hW => ⟨⟨(-2), (jC, eO, nG), rfl, hp, by rw [ht]; exact hP, va_K.moved hW.alike hK, hD⟩, hS.F ht⟩) hS.2.2 eX0_goDown_0.2.2.2.2.2.2.2.2.2.2.1
noncomputable abbrev wd_X9_down (cI cC cZ cB cJ : ClassId) (a_x xG xD wY wJ wQ xI xK xJ tW xH tX jE mX pD oO oQ eG vX uO vQ : Nat) (bZ bD bI aI : Int32) (nY : Nat → Int32) (jC eO eW dO fJ fY jD nG oE uF : Int32) (sG : Nat → Int32) : va_W := [(a_x, .inr (9, [.ref xG, .ref xD, .ref wY, .ref wJ, .ref wQ, .ref xI, .ref xK, .ref xJ, .ref tW])), (wY, .inr (0, [.ref wJ, .ref wQ, .ref xH])), (wJ, .inr (3, [.ref tX, .ref jE, .ref mX, .ref pD, .ref oO, .ref oQ, .ref eG, .int bZ, .int bD, .int bI, .int aI])), (oQ, .inl (cI, 8, .inl nY)), (wQ, .inr (2, [.int jC, .int eO, .int eW, .int dO, .int fJ, .int fY, .int jD, .int nG])), (xI, .inr (4, [.ref vX, .ref uO, .ref vQ, .int oE, .int uF])), (vX, .inl (cI, 104, .inl sG))]
noncomputable abbrev q_X9_down (dC : Nat → ClassId) (dI : Nat → Nat → Nat) (cI cC cZ cB cJ : ClassId) (A : Nat → Prop) (a_x xG xD wY wJ wQ xI xK xJ tW xH tX jE mX pD oO oQ eG vX uO vQ : Nat) (bZ bD bI aI : Int32) (nY : Nat → Int32) (eW dO fJ fY jD : Int32) (post : Int32 → Int32 → Int32 → Int32 → Int32 → Int32 → (Nat → Int32) → Prop) : Array Value → State → Outcome → State → Prop := va_Qi (fun (r : Int32) (u : Int32 × Int32 × Int32 × Int32 × Int32 × (Nat → Int32)) => post r u.1 u.2.1 u.2.2.1 u.2.2.2.1 u.2.2.2.2.1 u.2.2.2.2.2) (fun u t => gB (dC, dI) (tyl cI cC cZ cB cJ) A (wd_X9_down cI cC cZ cB cJ a_x xG xD wY wJ wQ xI xK xJ tW xH tX jE mX pD oO oQ eG vX uO vQ bZ bD bI aI nY u.1 u.2.1 eW dO fJ fY jD u.2.2.1 u.2.2.2.1 u.2.2.2.2.1 u.2.2.2.2.2) t) A
noncomputable abbrev rm_X9_down : Room := { frames := 3, cells := 0, slots := 0, locals := 63 }
noncomputable def wp_X9_down (post : Int32 → Int32 → Int32 → Int32 → Int32 → Int32 → (Nat → Int32) → Prop) (nY : Nat → Int32) (jC eO eW dO fJ fY jD nG oE uF : Int32) (sG : Nat → Int32) : Prop := wp_X4_note (fun yP => wp_X0_goDown (fun r_2 zS zX zI => wp_X9_holdIfDone (fun r_6 aCh aLd => post r_6 zS zX zI aCh aLd yP) r_2 oE uF) nY jC eO fJ nG) jC eO eW dO fJ fY jD nG uF sG
set_option maxHeartbeats 4000000 in
set_option maxRecDepth 100000 in
theorem c_X9_down (l : Launch) (dC : Nat → ClassId) (dI : Nat → Nat → Nat) (cI cC cZ cB cJ : ClassId) (a_x xG xD wY wJ wQ xI xK xJ tW xH tX jE mX pD oO oQ eG vX uO vQ sz : Nat) (bZ bD bI aI : Int32) (nY : Nat → Int32) (jC eO eW dO fJ fY jD nG oE uF : Int32) (sG : Nat → Int32) (post : Int32 → Int32 → Int32 → Int32 → Int32 → Int32 → (Nat → Int32) → Prop) (hw : wp_X9_down post nY jC eO eW dO fJ fY jD nG oE uF sG) : Met l yX9_down (gw yX9_down cX9_down 1 (some .int)) rm_X9_down (va_Pc [.ref a_x] (gPre (dC, dI) (tyl cI cC cZ cB cJ) (wd_X9_down cI cC cZ cB cJ a_x xG xD wY wJ wQ xI xK xJ tW xH tX jE mX pD oO oQ eG vX uO vQ bZ bD bI aI nY jC eO eW dO fJ fY jD nG oE uF sG) sz)) (q_X9_down dC dI cI cC cZ cB cJ (va_A (wd_X9_down cI cC cZ cB cJ a_x xG xD wY wJ wQ xI xK xJ tW xH tX jE mX pD oO oQ eG vX uO vQ bZ bD bI aI nY jC eO eW dO fJ fY jD nG oE uF sG) sz) a_x xG xD wY wJ wQ xI xK xJ tW xH tX jE mX pD oO oQ eG vX uO vQ bZ bD bI aI nY eW dO fJ fY jD post) 0 0 (va_A (wd_X9_down cI cC cZ cB cJ a_x xG xD wY wJ wQ xI xK xJ tW xH tX jE mX pD oO oQ eG vX uO vQ bZ bD bI aI nY jC eO eW dO fJ fY jD nG oE uF sG) sz) := by
  refine g_enter (own := RX9) (dC, dI) (tyl cI cC cZ cB cJ) (wd_X9_down cI cC cZ cB cJ a_x xG xD wY wJ wQ xI xK xJ tW xH tX jE mX pD oO oQ eG vX uO vQ bZ bD bI aI nY jC eO eW dO fJ fY jD nG oE uF sG) sz [.ref a_x] (fun A => q_X9_down dC dI cI cC cZ cB cJ A a_x xG xD wY wJ wQ xI xK xJ tW xH tX jE mX pD oO oQ eG vX uO vQ bZ bD bI aI nY eW dO fJ fY jD post) pn_RX9 rfl (Nat.le_of_ble_eq_true rfl) ?_
  intro p e s m args below meth c A H locs ls C0 hP hD hS hl
  have hl : lv_has ls 1 [(0, .ref a_x)] := hl
  obtain ⟨hx, hb, hr, hml, hown, hts, hlocks, hA, hK, hN, tL, tM, hZL, hTL, hZM, hTM, hZX⟩ := id C0
  have hp := hw
  unfold wp_X9_down at hp
  refine lv_aload_n hx hb eX9_down_0.1 rfl (lv_at hl 0 rfl) ?_
  refine va_get (D := (dC, dI)) (ci := 9) (v := .ref xI) (C := RX9) (T := TX9) (N := 9) hx hb hts i_X9 hown hK hP 0 rfl rfl 5 (Nat.le_of_ble_eq_true rfl) (hts _ q_91) (fun _ h9 => h9) rfl eX9_down_0.2.1 ?_
  refine lv_aload_n hx hb eX9_down_0.2.2.1 rfl (lv_at hl 0 rfl) ?_
  refine va_get (D := (dC, dI)) (ci := 9) (v := .ref wQ) (C := RX9) (T := TX9) (N := 9) hx hb hts i_X9 hown hK hP 0 rfl rfl 4 (Nat.le_of_ble_eq_true rfl) (hts _ q_179) (fun _ h9 => h9) rfl eX9_down_0.2.2.2.1 ?_
  have hm := mgk (wc := (wd_X4_note cI cC cZ cB cJ wQ xI vX uO vQ jC eO eW dO fJ fY jD nG oE uF sG)) hP mk_67 7 rfl rfl rfl
  refine g_callv hP hD hS hA (mixT mk_67) (mixF mk_67) hm.1 hm.2 (nd_F _) (dis_g _) (g_runV (As := [.ref wQ]) (rest := []) C0 hP hD hS (mixT mk_67) hm.1 (nd_T _) 5 4 rfl rfl (c_X4_note l dC dI cI cC cZ cB cJ wQ xI vX uO vQ H.size jC eO eW dO fJ fY jD nG oE uF sG _ hp) q_247 q_250 q_248 q_249 q_93 h_X4_note rfl rfl ⟨Nat.le_of_ble_eq_true rfl, Nat.le_of_ble_eq_true rfl⟩ rfl rfl hl.1 rfl (lv_room (Nat.le_of_ble_eq_true rfl)) eX9_down_0.2.2.2.2.1 ⟨Nat.zero_le _, Nat.zero_le _⟩) (fun u H locs hp hP hD hS => ?_)
  obtain ⟨yP, rfl⟩ : ∃ z, z = u := ⟨_, rfl⟩
  have hPD := PDm (ws' := (wd_X9_down cI cC cZ cB cJ a_x xG xD wY wJ wQ xI xK xJ tW xH tX jE mX pD oO oQ eG vX uO vQ bZ bD bI aI nY jC eO eW dO fJ fY jD nG oE uF yP)) hP hD 7 rfl rfl rfl
  have hP := hPD.1
  have hD := hPD.2
  refine lv_aload_n hx hb eX9_down_0.2.2.2.2.2.1 rfl (lv_at hl 0 rfl) ?_
  refine lv_aload_n hx hb eX9_down_0.2.2.2.2.2.2.1 rfl (lv_at hl 0 rfl) ?_
  refine va_get (D := (dC, dI)) (ci := 9) (v := .ref wY) (C := RX9) (T := TX9) (N := 9) hx hb hts i_X9 hown hK hP 0 rfl rfl 2 (Nat.le_of_ble_eq_true rfl) (hts _ q_146) (fun _ h9 => h9) rfl eX9_down_0.2.2.2.2.2.2.2.1 ?_
  have hm := mgk (wc := (wd_X0_goDown cI cC cZ cB cJ wY wJ wQ xH tX jE mX pD oO oQ eG bZ bD bI aI nY jC eO eW dO fJ fY jD nG)) hP mk_68 7 rfl rfl rfl
  refine g_calli hP hD hS hA (mixT mk_68) (mixF mk_68) hm.1 hm.2 (nd_F _) (dis_g _) (g_runV (As := []) (rest := [.ref a_x]) C0 hP hD hS (mixT mk_68) hm.1 (nd_T _) 1 0 rfl rfl (c_X0_goDown l dC dI cI cC cZ cB cJ wY wJ wQ xH tX jE mX pD oO oQ eG H.size bZ bD bI aI nY jC eO eW dO fJ fY jD nG _ hp) q_334 q_337 q_335 q_336 q_187 h_X0_goDown rfl rfl ⟨Nat.le_of_ble_eq_true rfl, Nat.le_of_ble_eq_true rfl⟩ rfl rfl hl.1 rfl (lv_room (Nat.le_of_ble_eq_true rfl)) eX9_down_0.2.2.2.2.2.2.2.2.1 ⟨Nat.zero_le _, Nat.zero_le _⟩) (fun r_2 u H locs hp hP hD hS => ?_)
  obtain ⟨zS, zX, zI⟩ := u
  have hPD := PDm (ws' := (wd_X9_down cI cC cZ cB cJ a_x xG xD wY wJ wQ xI xK xJ tW xH tX jE mX pD oO oQ eG vX uO vQ bZ bD bI aI nY zS zX eW dO fJ fY jD zI oE uF yP)) hP hD 7 rfl rfl rfl
  have hP := hPD.1
  have hD := hPD.2
  have hm := mgk (wc := (wd_X9_holdIfDone cI cC cZ cB cJ a_x xG xD wY wJ wQ xI xK xJ tW vX uO vQ oE uF)) hP mk_69 7 rfl rfl rfl
  refine g_calli hP hD hS hA (mixT mk_69) (mixF mk_69) hm.1 hm.2 (nd_F _) (dis_g _) (g_runV (As := [.int r_2]) (rest := []) C0 hP hD hS (mixT mk_69) hm.1 (nd_T _) 0 9 rfl rfl (c_X9_holdIfDone l dC dI cI cC cZ cB cJ a_x xG xD wY wJ wQ xI xK xJ tW vX uO vQ H.size r_2 oE uF _ hp) q_255 q_259 q_257 q_258 q_256 h_X9_holdIfDone rfl rfl ⟨Nat.le_of_ble_eq_true rfl, Nat.le_of_ble_eq_true rfl⟩ rfl rfl hl.1 rfl (lv_room (Nat.le_of_ble_eq_true rfl)) eX9_down_0.2.2.2.2.2.2.2.2.2.1 ⟨Nat.zero_le _, Nat.zero_le _⟩) (fun r_6 u H locs hp hP hD hS => ?_)
  obtain ⟨aCh, aLd⟩ := u
  have hPD := PDm (ws' := (wd_X9_down cI cC cZ cB cJ a_x xG xD wY wJ wQ xI xK xJ tW xH tX jE mX pD oO oQ eG vX uO vQ bZ bD bI aI nY zS zX eW dO fJ fY jD zI aCh aLd yP)) hP hD 7 rfl rfl rfl
  have hP := hPD.1
  have hD := hPD.2
  exact W.iret (v := r_6) hx hb hr (fun t ht hW => ⟨⟨r_6, (zS, zX, zI, aCh, aLd, yP), rfl, hp, by rw [ht]; exact hP, va_K.moved hW.alike hK, hD⟩, hS.F ht⟩) hS.2.2 eX9_down_0.2.2.2.2.2.2.2.2.2.2
noncomputable abbrev wd_X3_within (cI cC cZ cB cJ : ClassId) (wJ tX jE mX pD oO oQ eG : Nat) (bZ bD bI aI : Int32) (wD gF nJ nY : Nat → Int32) : va_W := [(wJ, .inr (3, [.ref tX, .ref jE, .ref mX, .ref pD, .ref oO, .ref oQ, .ref eG, .int bZ, .int bD, .int bI, .int aI])), (tX, .inl (cI, 16, .inl wD)), (jE, .inl (cI, 16, .inl gF)), (oO, .inl (cI, 8, .inl nJ)), (oQ, .inl (cI, 8, .inl nY))]
noncomputable abbrev q_X3_within (dC : Nat → ClassId) (dI : Nat → Nat → Nat) (cI cC cZ cB cJ : ClassId) (A : Nat → Prop) (wJ tX jE mX pD oO oQ eG : Nat) (bZ bD bI aI : Int32) (wD gF nJ nY : Nat → Int32) (post : Int32 → Prop) : Array Value → State → Outcome → State → Prop := va_Qi (fun (r : Int32) (u : Unit) => post r) (fun u t => gB (dC, dI) (tyl cI cC cZ cB cJ) A (wd_X3_within cI cC cZ cB cJ wJ tX jE mX pD oO oQ eG bZ bD bI aI wD gF nJ nY) t) A
noncomputable abbrev rm_X3_within : Room := { frames := 2, cells := 0, slots := 0, locals := 47 }
section S_X3_within
variable {p : Program} {l : Launch} {e : Env} {s : State} {m : MethodId} {args : Array Value} {below : List Frame} {meth : Method} {c : Code} {dC : Nat → ClassId} {dI : Nat → Nat → Nat} {cI cC cZ cB cJ : ClassId} {A : Nat → Prop} {wJ tX jE mX pD oO oQ eG : Nat} {bZ bD bI aI : Int32} {wD gF nJ nY : Nat → Int32} {post : Int32 → Prop}
noncomputable def ws_X3_within_32 (post : Int32 → Prop) (K5 : Int32 → Int32 → Int32 → Int32 → Prop) (bZ : Int32) (wD gF nJ nY : Nat → Int32) (x1 x2 x3 x4 : Int32) : Prop := ∀ v_2 : Int32, v_2 = x4 + 1 → K5 x1 x2 x3 v_2
set_option maxHeartbeats 4000000 in
set_option maxRecDepth 100000 in
theorem ks_X3_within_32 (C0 : gc cX3_within (some .int) 5 RX3 (dC, dI) (tyl cI cC cZ cB cJ) A p s m args meth c) {K5 : Int32 → Int32 → Int32 → Int32 → Prop} (hK5 : ∀ (x1 : Int32) (x2 : Int32) (x3 : Int32) (x4 : Int32) (H : Heap) (locs : List Loc) (ls : Array Slot), K5 x1 x2 x3 x4 → va_P (dC, dI) classes (wd_X3_within cI cC cZ cB cJ wJ tX jE mX pD oO oQ eG bZ bD bI aI wD gF nJ nY) H → va_D A (wd_X3_within cI cC cZ cB cJ wJ tX jE mX pD oO oQ eG bZ bD bI aI wD gF nJ nY) → va_S A s.heap H locs → lv_has ls 5 [(0, .ref wJ), (1, .int x1), (2, .int x2), (3, .int x3), (4, .int x4)] → W p l e rm_X3_within s m args below meth c H locs 0 0 (MQ below (q_X3_within dC dI cI cC cZ cB cJ A wJ tX jE mX pD oO oQ eG bZ bD bI aI wD gF nJ nY post) args s 0 0 A) (F0 m 5 ls [])) : ∀ (x1 x2 x3 x4 : Int32) (H : Heap) (locs : List Loc) (ls : Array Slot), (ws_X3_within_32 post K5 bZ wD gF nJ nY) x1 x2 x3 x4 → va_P (dC, dI) classes (wd_X3_within cI cC cZ cB cJ wJ tX jE mX pD oO oQ eG bZ bD bI aI wD gF nJ nY) H → va_D A (wd_X3_within cI cC cZ cB cJ wJ tX jE mX pD oO oQ eG bZ bD bI aI wD gF nJ nY) → va_S A s.heap H locs → lv_has ls 5 [(0, .ref wJ), (1, .int x1), (2, .int x2), (3, .int x3), (4, .int x4)] → W p l e rm_X3_within s m args below meth c H locs 0 0 (MQ below (q_X3_within dC dI cI cC cZ cB cJ A wJ tX jE mX pD oO oQ eG bZ bD bI aI wD gF nJ nY post) args s 0 0 A) (F0 m 32 ls []) := by
  obtain ⟨hx, hb, hr, hml, hown, hts, hlocks, hA, hK, hN, tL, tM, hZL, hTL, hZM, hTM, hZX⟩ := id C0
  intro x1 x2 x3 x4 H locs ls hp hP hD hS hl
  unfold ws_X3_within_32 at hp
  obtain ⟨v_2, ev_2⟩ : ∃ y : Int32, y = x4 + 1 := ⟨_, rfl⟩
  refine lv_iinc (v := v_2) (lv' := [(4, .int v_2), (0, .ref wJ), (1, .int x1), (2, .int x2), (3, .int x3)]) hx hb eX3_within_27.2.2.2.2.1 hl (k := 4) rfl (by rw [ev_2]; rfl) (by decide) rfl (fun ls hl => ?_)
  have hp := hp v_2 ev_2
  refine lv_goto (tgt := 5) hx hb eX3_within_27.2.2.2.2.2.1 (by decide) ?_
  exact hK5 x1 x2 x3 v_2 H locs ls hp hP hD hS (lv_sub hl [1, 2, 3, 4, 0] rfl)
noncomputable def ws_X3_within_5 (post : Int32 → Prop) (next : Int32 → Int32 → Int32 → Int32 → Prop) (bZ : Int32) (wD gF nJ nY : Nat → Int32) (x1 x2 x3 x4 : Int32) : Prop := (bZ ≤ x4 → post x3) ∧ (¬ bZ ≤ x4 → wp_X3_isWithin (fun r_1 => (r_1 = 0 → ws_X3_within_32 post next bZ wD gF nJ nY x1 x2 x3 x4) ∧ (¬ r_1 = 0 → ∀ v_3 : Int32, v_3 = x3 ||| (1 <<< (x4 &&& 31)) → ws_X3_within_32 post next bZ wD gF nJ nY x1 x2 v_3 x4)) x4 x1 x2 wD gF nJ nY)
noncomputable def wb_X3_within_5 (post : Int32 → Prop) (bZ : Int32) (wD gF nJ nY : Nat → Int32) : Nat → Int32 → Int32 → Int32 → Int32 → Prop := fun n => Nat.rec (motive := fun _ => Int32 → Int32 → Int32 → Int32 → Prop) (fun _ _ _ _ => False) (fun _ ih => ws_X3_within_5 post ih bZ wD gF nJ nY) n
set_option maxHeartbeats 4000000 in
set_option maxRecDepth 100000 in
theorem ks_X3_within_5 (C0 : gc cX3_within (some .int) 5 RX3 (dC, dI) (tyl cI cC cZ cB cJ) A p s m args meth c) {next : Int32 → Int32 → Int32 → Int32 → Prop} (hKn : ∀ (x1 : Int32) (x2 : Int32) (x3 : Int32) (x4 : Int32) (H : Heap) (locs : List Loc) (ls : Array Slot), next x1 x2 x3 x4 → va_P (dC, dI) classes (wd_X3_within cI cC cZ cB cJ wJ tX jE mX pD oO oQ eG bZ bD bI aI wD gF nJ nY) H → va_D A (wd_X3_within cI cC cZ cB cJ wJ tX jE mX pD oO oQ eG bZ bD bI aI wD gF nJ nY) → va_S A s.heap H locs → lv_has ls 5 [(0, .ref wJ), (1, .int x1), (2, .int x2), (3, .int x3), (4, .int x4)] → W p l e rm_X3_within s m args below meth c H locs 0 0 (MQ below (q_X3_within dC dI cI cC cZ cB cJ A wJ tX jE mX pD oO oQ eG bZ bD bI aI wD gF nJ nY post) args s 0 0 A) (F0 m 5 ls [])) : ∀ (x1 x2 x3 x4 : Int32) (H : Heap) (locs : List Loc) (ls : Array Slot), (ws_X3_within_5 post next bZ wD gF nJ nY) x1 x2 x3 x4 → va_P (dC, dI) classes (wd_X3_within cI cC cZ cB cJ wJ tX jE mX pD oO oQ eG bZ bD bI aI wD gF nJ nY) H → va_D A (wd_X3_within cI cC cZ cB cJ wJ tX jE mX pD oO oQ eG bZ bD bI aI wD gF nJ nY) → va_S A s.heap H locs → lv_has ls 5 [(0, .ref wJ), (1, .int x1), (2, .int x2), (3, .int x3), (4, .int x4)] → W p l e rm_X3_within s m args below meth c H locs 0 0 (MQ below (q_X3_within dC dI cI cC cZ cB cJ A wJ tX jE mX pD oO oQ eG bZ bD bI aI wD gF nJ nY post) args s 0 0 A) (F0 m 5 ls []) := by
  obtain ⟨hx, hb, hr, hml, hown, hts, hlocks, hA, hK, hN, tL, tM, hZL, hTL, hZM, hTM, hZX⟩ := id C0
  intro x1 x2 x3 x4 H locs ls hp hP hD hS hl
  unfold ws_X3_within_5 at hp
  refine lv_iload hx hb eX3_within_0.2.2.2.2.1 (lv_at hl 4 rfl) ?_
  refine lv_aload_n hx hb eX3_within_0.2.2.2.2.2.1 rfl (lv_at hl 0 rfl) ?_
  refine va_get (D := (dC, dI)) (ci := 3) (v := .int bZ) (C := RX3) (T := TX3) (N := 11) hx hb hts i_X3 hown hK hP 0 rfl rfl 7 (Nat.le_of_ble_eq_true rfl) (hts _ q_20) (fun _ h9 => h9) rfl eX3_within_0.2.2.2.2.2.2.1 ?_
  refine lv_icmp_ge (tgt := 38) hx hb eX3_within_0.2.2.2.2.2.2.2.1 (by decide) (fun hc => ?_) (fun hc => ?_)
  · have hp := hp.1 hc
    refine lv_iload_n hx hb eX3_within_27.2.2.2.2.2.2.1 rfl (lv_at hl 3 rfl) ?_
    exact W.iret (v := x3) hx hb hr (fun t ht hW => ⟨⟨x3, (), rfl, hp, by rw [ht]; exact hP, va_K.moved hW.alike hK, hD⟩, hS.F ht⟩) hS.2.2 eX3_within_27.2.2.2.2.2.2.2
  · have hp := hp.2 hc
    refine lv_aload_n hx hb eX3_within_0.2.2.2.2.2.2.2.2.1 rfl (lv_at hl 0 rfl) ?_
    refine lv_iload hx hb eX3_within_0.2.2.2.2.2.2.2.2.2.1 (lv_at hl 4 rfl) ?_
    refine lv_iload_n hx hb eX3_within_0.2.2.2.2.2.2.2.2.2.2.1 rfl (lv_at hl 1 rfl) ?_
    refine lv_iload_n hx hb eX3_within_0.2.2.2.2.2.2.2.2.2.2.2.1 rfl (lv_at hl 2 rfl) ?_
    have hm := mgk (wc := (wd_X3_isWithin cI cC cZ cB cJ wJ tX jE mX pD oO oQ eG bZ bD bI aI wD gF nJ nY)) hP mk_70 5 rfl rfl rfl
    refine g_calli hP hD hS hA (mixT mk_70) (mixF mk_70) hm.1 hm.2 (nd_F _) (dis_g _) (g_runV (As := [.int x4, .int x1, .int x2]) (rest := []) C0 hP hD hS (mixT mk_70) hm.1 (nd_T _) 0 3 rfl rfl (c_X3_isWithin l dC dI cI cC cZ cB cJ wJ tX jE mX pD oO oQ eG H.size x4 x1 x2 bZ bD bI aI wD gF nJ nY _ hp) q_316 q_338 q_317 q_318 q_48 h_X3_isWithin rfl rfl ⟨Nat.le_of_ble_eq_true rfl, Nat.le_of_ble_eq_true rfl⟩ rfl rfl hl.1 rfl (lv_room (Nat.le_of_ble_eq_true rfl)) eX3_within_0.2.2.2.2.2.2.2.2.2.2.2.2.1 ⟨Nat.zero_le _, Nat.zero_le _⟩) (fun r_1 u H locs hp hP hD hS => ?_)
    have hPD := PDm (ws' := (wd_X3_within cI cC cZ cB cJ wJ tX jE mX pD oO oQ eG bZ bD bI aI wD gF nJ nY)) hP hD 5 rfl rfl rfl
    have hP := hPD.1
    have hD := hPD.2
    refine lv_if_eq (tgt := 32) hx hb eX3_within_0.2.2.2.2.2.2.2.2.2.2.2.2.2.1 (by decide) (fun hc => ?_) (fun hc => ?_)
    · have hp := hp.1 hc
      exact ks_X3_within_32 C0 hKn x1 x2 x3 x4 H locs ls hp hP hD hS (lv_sub hl [0, 1, 2, 3, 4] rfl)
    · have hp := hp.2 hc
      refine lv_iload_n hx hb eX3_within_0.2.2.2.2.2.2.2.2.2.2.2.2.2.2.1 rfl (lv_at hl 3 rfl) ?_
      refine lv_iconst (v := 1) hx hb eX3_within_0.2.2.2.2.2.2.2.2.2.2.2.2.2.2.2 ic_1 ?_
      refine lv_iload hx hb eX3_within_27.1 (lv_at hl 4 rfl) ?_
      refine lv_ishl hx hb eX3_within_27.2.1 ?_
      refine lv_ior hx hb eX3_within_27.2.2.1 ?_
      refine lv_topi (fun v_3 ev_3 => ?_)
      have hp := hp v_3 ev_3
      refine lv_istore_n (lv' := [(3, .int v_3), (0, .ref wJ), (1, .int x1), (2, .int x2), (4, .int x4)]) hx hb eX3_within_27.2.2.2.1 rfl hl (by decide) rfl (fun ls hl => ?_)
      exact ks_X3_within_32 C0 hKn x1 x2 v_3 x4 H locs ls hp hP hD hS (lv_sub hl [1, 2, 3, 0, 4] rfl)
set_option maxHeartbeats 4000000 in
set_option maxRecDepth 100000 in
theorem kb_X3_within_5 (C0 : gc cX3_within (some .int) 5 RX3 (dC, dI) (tyl cI cC cZ cB cJ) A p s m args meth c) : ∀ (n : Nat), ∀ (x1 x2 x3 x4 : Int32) (H : Heap) (locs : List Loc) (ls : Array Slot), (wb_X3_within_5 post bZ wD gF nJ nY n) x1 x2 x3 x4 → va_P (dC, dI) classes (wd_X3_within cI cC cZ cB cJ wJ tX jE mX pD oO oQ eG bZ bD bI aI wD gF nJ nY) H → va_D A (wd_X3_within cI cC cZ cB cJ wJ tX jE mX pD oO oQ eG bZ bD bI aI wD gF nJ nY) → va_S A s.heap H locs → lv_has ls 5 [(0, .ref wJ), (1, .int x1), (2, .int x2), (3, .int x3), (4, .int x4)] → W p l e rm_X3_within s m args below meth c H locs 0 0 (MQ below (q_X3_within dC dI cI cC cZ cB cJ A wJ tX jE mX pD oO oQ eG bZ bD bI aI wD gF nJ nY post) args s 0 0 A) (F0 m 5 ls []) := by
  intro n
  induction n with
  | zero =>
    intro x1 x2 x3 x4 H locs ls hp
    exact False.elim hp
  | succ n ih =>
    intro x1 x2 x3 x4 H locs ls hp
    exact ks_X3_within_5 C0 ih x1 x2 x3 x4 H locs ls hp
end S_X3_within
noncomputable def wp_X3_within (post : Int32 → Prop) (p0 p1 bZ : Int32) (wD gF nJ nY : Nat → Int32) : Prop := ∃ n : Nat, wb_X3_within_5 post bZ wD gF nJ nY n p0 p1 0 0
set_option maxHeartbeats 4000000 in
set_option maxRecDepth 100000 in
theorem c_X3_within (l : Launch) (dC : Nat → ClassId) (dI : Nat → Nat → Nat) (cI cC cZ cB cJ : ClassId) (wJ tX jE mX pD oO oQ eG sz : Nat) (p0 p1 bZ bD bI aI : Int32) (wD gF nJ nY : Nat → Int32) (post : Int32 → Prop) (hw : wp_X3_within post p0 p1 bZ wD gF nJ nY) : Met l yX3_within (gw yX3_within cX3_within 5 (some .int)) rm_X3_within (va_Pc [.ref wJ, .int p0, .int p1] (gPre (dC, dI) (tyl cI cC cZ cB cJ) (wd_X3_within cI cC cZ cB cJ wJ tX jE mX pD oO oQ eG bZ bD bI aI wD gF nJ nY) sz)) (q_X3_within dC dI cI cC cZ cB cJ (va_A (wd_X3_within cI cC cZ cB cJ wJ tX jE mX pD oO oQ eG bZ bD bI aI wD gF nJ nY) sz) wJ tX jE mX pD oO oQ eG bZ bD bI aI wD gF nJ nY post) 0 0 (va_A (wd_X3_within cI cC cZ cB cJ wJ tX jE mX pD oO oQ eG bZ bD bI aI wD gF nJ nY) sz) := by
  refine g_enter (own := RX3) (dC, dI) (tyl cI cC cZ cB cJ) (wd_X3_within cI cC cZ cB cJ wJ tX jE mX pD oO oQ eG bZ bD bI aI wD gF nJ nY) sz [.ref wJ, .int p0, .int p1] (fun A => q_X3_within dC dI cI cC cZ cB cJ A wJ tX jE mX pD oO oQ eG bZ bD bI aI wD gF nJ nY post) pn_RX3 rfl (Nat.le_of_ble_eq_true rfl) ?_
  intro p e s m args below meth c A H locs ls C0 hP hD hS hl
  have hl : lv_has ls 5 [(0, .ref wJ), (1, .int p0), (2, .int p1)] := hl
  obtain ⟨hx, hb, hr, hml, hown, hts, hlocks, hA, hK, hN, tL, tM, hZL, hTL, hZM, hTM, hZX⟩ := id C0
  have hp := hw
  unfold wp_X3_within at hp
  refine lv_iconst (v := 0) hx hb eX3_within_0.1 ic_0 ?_
  refine lv_istore_n (lv' := [(3, .int 0), (0, .ref wJ), (1, .int p0), (2, .int p1)]) hx hb eX3_within_0.2.1 rfl hl (by decide) rfl (fun ls hl => ?_)
  refine lv_iconst (v := 0) hx hb eX3_within_0.2.2.1 ic_0 ?_
  refine lv_istore (lv' := [(4, .int 0), (3, .int 0), (0, .ref wJ), (1, .int p0), (2, .int p1)]) hx hb eX3_within_0.2.2.2.1 hl (by decide) rfl (fun ls hl => ?_)
  obtain ⟨n9, hp⟩ := hp
  exact kb_X3_within_5 C0 n9 p0 p1 0 0 H locs ls hp hP hD hS (lv_sub hl [2, 3, 4, 1, 0] rfl)
noncomputable abbrev wd_X3_ripeBy (cI cC cZ cB cJ : ClassId) (wJ tX jE mX pD oO oQ eG : Nat) (bZ bD bI aI : Int32) (qA : Nat → Int32) : va_W := [(wJ, .inr (3, [.ref tX, .ref jE, .ref mX, .ref pD, .ref oO, .ref oQ, .ref eG, .int bZ, .int bD, .int bI, .int aI])), (pD, .inl (cI, 16, .inl qA))]
noncomputable abbrev q_X3_ripeBy (dC : Nat → ClassId) (dI : Nat → Nat → Nat) (cI cC cZ cB cJ : ClassId) (A : Nat → Prop) (wJ tX jE mX pD oO oQ eG : Nat) (bZ bD bI aI : Int32) (qA : Nat → Int32) (post : Int32 → Prop) : Array Value → State → Outcome → State → Prop := va_Qi (fun (r : Int32) (u : Unit) => post r) (fun u t => gB (dC, dI) (tyl cI cC cZ cB cJ) A (wd_X3_ripeBy cI cC cZ cB cJ wJ tX jE mX pD oO oQ eG bZ bD bI aI qA) t) A
noncomputable abbrev rm_X3_ripeBy : Room := { frames := 0, cells := 0, slots := 0, locals := 0 }
section S_X3_ripeBy
variable {p : Program} {l : Launch} {e : Env} {s : State} {m : MethodId} {args : Array Value} {below : List Frame} {meth : Method} {c : Code} {dC : Nat → ClassId} {dI : Nat → Nat → Nat} {cI cC cZ cB cJ : ClassId} {A : Nat → Prop} {wJ tX jE mX pD oO oQ eG : Nat} {bZ bD bI aI : Int32} {qA : Nat → Int32} {post : Int32 → Prop}
noncomputable def ws_X3_ripeBy_28 (post : Int32 → Prop) (K4 : Int32 → Int32 → Int32 → Prop) (bZ : Int32) (qA : Nat → Int32) (x1 x2 x3 : Int32) : Prop := ∀ v_2 : Int32, v_2 = x3 + 1 → K4 x1 x2 v_2
set_option maxHeartbeats 4000000 in
set_option maxRecDepth 100000 in
theorem ks_X3_ripeBy_28 (C0 : gc cX3_ripeBy (some .int) 4 RX3 (dC, dI) (tyl cI cC cZ cB cJ) A p s m args meth c) {K4 : Int32 → Int32 → Int32 → Prop} (hK4 : ∀ (x1 : Int32) (x2 : Int32) (x3 : Int32) (H : Heap) (locs : List Loc) (ls : Array Slot), K4 x1 x2 x3 → va_P (dC, dI) classes (wd_X3_ripeBy cI cC cZ cB cJ wJ tX jE mX pD oO oQ eG bZ bD bI aI qA) H → va_D A (wd_X3_ripeBy cI cC cZ cB cJ wJ tX jE mX pD oO oQ eG bZ bD bI aI qA) → va_S A s.heap H locs → lv_has ls 4 [(0, .ref wJ), (1, .int x1), (2, .int x2), (3, .int x3)] → W p l e rm_X3_ripeBy s m args below meth c H locs 0 0 (MQ below (q_X3_ripeBy dC dI cI cC cZ cB cJ A wJ tX jE mX pD oO oQ eG bZ bD bI aI qA post) args s 0 0 A) (F0 m 4 ls [])) : ∀ (x1 x2 x3 : Int32) (H : Heap) (locs : List Loc) (ls : Array Slot), (ws_X3_ripeBy_28 post K4 bZ qA) x1 x2 x3 → va_P (dC, dI) classes (wd_X3_ripeBy cI cC cZ cB cJ wJ tX jE mX pD oO oQ eG bZ bD bI aI qA) H → va_D A (wd_X3_ripeBy cI cC cZ cB cJ wJ tX jE mX pD oO oQ eG bZ bD bI aI qA) → va_S A s.heap H locs → lv_has ls 4 [(0, .ref wJ), (1, .int x1), (2, .int x2), (3, .int x3)] → W p l e rm_X3_ripeBy s m args below meth c H locs 0 0 (MQ below (q_X3_ripeBy dC dI cI cC cZ cB cJ A wJ tX jE mX pD oO oQ eG bZ bD bI aI qA post) args s 0 0 A) (F0 m 28 ls []) := by
  obtain ⟨hx, hb, hr, hml, hown, hts, hlocks, hA, hK, hN, tL, tM, hZL, hTL, hZM, hTM, hZX⟩ := id C0
  intro x1 x2 x3 H locs ls hp hP hD hS hl
  unfold ws_X3_ripeBy_28 at hp
  obtain ⟨v_2, ev_2⟩ : ∃ y : Int32, y = x3 + 1 := ⟨_, rfl⟩
  refine lv_iinc (v := v_2) (lv' := [(3, .int v_2), (0, .ref wJ), (1, .int x1), (2, .int x2)]) hx hb eX3_ripeBy_24.2.2.2.2.1 hl (k := 3) rfl (by rw [ev_2]; rfl) (by decide) rfl (fun ls hl => ?_)
  have hp := hp v_2 ev_2
  refine lv_goto (tgt := 4) hx hb eX3_ripeBy_24.2.2.2.2.2.1 (by decide) ?_
  exact hK4 x1 x2 v_2 H locs ls hp hP hD hS (lv_sub hl [1, 2, 3, 0] rfl)
noncomputable def ws_X3_ripeBy_4 (post : Int32 → Prop) (next : Int32 → Int32 → Int32 → Prop) (bZ : Int32) (qA : Nat → Int32) (x1 x2 x3 : Int32) : Prop := (bZ ≤ x3 → post x2) ∧ (¬ bZ ≤ x3 → vp_in x3 16 ∧ (∀ v_1 : Int32, v_1 = qA x3.toNatClampNeg → (x1 < v_1 → ws_X3_ripeBy_28 post next bZ qA x1 x2 x3) ∧ (¬ x1 < v_1 → ∀ v_3 : Int32, v_3 = x2 ||| (1 <<< (x3 &&& 31)) → ws_X3_ripeBy_28 post next bZ qA x1 v_3 x3)))
noncomputable def wb_X3_ripeBy_4 (post : Int32 → Prop) (bZ : Int32) (qA : Nat → Int32) : Nat → Int32 → Int32 → Int32 → Prop := fun n => Nat.rec (motive := fun _ => Int32 → Int32 → Int32 → Prop) (fun _ _ _ => False) (fun _ ih => ws_X3_ripeBy_4 post ih bZ qA) n
set_option maxHeartbeats 4000000 in
set_option maxRecDepth 100000 in
theorem ks_X3_ripeBy_4 (C0 : gc cX3_ripeBy (some .int) 4 RX3 (dC, dI) (tyl cI cC cZ cB cJ) A p s m args meth c) {next : Int32 → Int32 → Int32 → Prop} (hKn : ∀ (x1 : Int32) (x2 : Int32) (x3 : Int32) (H : Heap) (locs : List Loc) (ls : Array Slot), next x1 x2 x3 → va_P (dC, dI) classes (wd_X3_ripeBy cI cC cZ cB cJ wJ tX jE mX pD oO oQ eG bZ bD bI aI qA) H → va_D A (wd_X3_ripeBy cI cC cZ cB cJ wJ tX jE mX pD oO oQ eG bZ bD bI aI qA) → va_S A s.heap H locs → lv_has ls 4 [(0, .ref wJ), (1, .int x1), (2, .int x2), (3, .int x3)] → W p l e rm_X3_ripeBy s m args below meth c H locs 0 0 (MQ below (q_X3_ripeBy dC dI cI cC cZ cB cJ A wJ tX jE mX pD oO oQ eG bZ bD bI aI qA post) args s 0 0 A) (F0 m 4 ls [])) : ∀ (x1 x2 x3 : Int32) (H : Heap) (locs : List Loc) (ls : Array Slot), (ws_X3_ripeBy_4 post next bZ qA) x1 x2 x3 → va_P (dC, dI) classes (wd_X3_ripeBy cI cC cZ cB cJ wJ tX jE mX pD oO oQ eG bZ bD bI aI qA) H → va_D A (wd_X3_ripeBy cI cC cZ cB cJ wJ tX jE mX pD oO oQ eG bZ bD bI aI qA) → va_S A s.heap H locs → lv_has ls 4 [(0, .ref wJ), (1, .int x1), (2, .int x2), (3, .int x3)] → W p l e rm_X3_ripeBy s m args below meth c H locs 0 0 (MQ below (q_X3_ripeBy dC dI cI cC cZ cB cJ A wJ tX jE mX pD oO oQ eG bZ bD bI aI qA post) args s 0 0 A) (F0 m 4 ls []) := by
  obtain ⟨hx, hb, hr, hml, hown, hts, hlocks, hA, hK, hN, tL, tM, hZL, hTL, hZM, hTM, hZX⟩ := id C0
  intro x1 x2 x3 H locs ls hp hP hD hS hl
  unfold ws_X3_ripeBy_4 at hp
  refine lv_iload_n hx hb eX3_ripeBy_0.2.2.2.2.1 rfl (lv_at hl 3 rfl) ?_
  refine lv_aload_n hx hb eX3_ripeBy_0.2.2.2.2.2.1 rfl (lv_at hl 0 rfl) ?_
  refine va_get (D := (dC, dI)) (ci := 3) (v := .int bZ) (C := RX3) (T := TX3) (N := 11) hx hb hts i_X3 hown hK hP 0 rfl rfl 7 (Nat.le_of_ble_eq_true rfl) (hts _ q_20) (fun _ h9 => h9) rfl eX3_ripeBy_0.2.2.2.2.2.2.1 ?_
  refine lv_icmp_ge (tgt := 34) hx hb eX3_ripeBy_0.2.2.2.2.2.2.2.1 (by decide) (fun hc => ?_) (fun hc => ?_)
  · have hp := hp.1 hc
    refine lv_iload_n hx hb eX3_ripeBy_24.2.2.2.2.2.2.1 rfl (lv_at hl 2 rfl) ?_
    exact W.iret (v := x2) hx hb hr (fun t ht hW => ⟨⟨x2, (), rfl, hp, by rw [ht]; exact hP, va_K.moved hW.alike hK, hD⟩, hS.F ht⟩) hS.2.2 eX3_ripeBy_24.2.2.2.2.2.2.2
  · have hp := hp.2 hc
    refine lv_aload_n hx hb eX3_ripeBy_0.2.2.2.2.2.2.2.2.1 rfl (lv_at hl 0 rfl) ?_
    refine va_get (D := (dC, dI)) (ci := 3) (v := .ref pD) (C := RX3) (T := TX3) (N := 11) hx hb hts i_X3 hown hK hP 0 rfl rfl 3 (Nat.le_of_ble_eq_true rfl) (hts _ q_52) (fun _ h9 => h9) rfl eX3_ripeBy_0.2.2.2.2.2.2.2.2.2.1 ?_
    refine lv_iload_n hx hb eX3_ripeBy_0.2.2.2.2.2.2.2.2.2.2.1 rfl (lv_at hl 3 rfl) ?_
    have hin := hp.1
    have hp := hp.2
    refine va_iald hx hb hK hP 1 0 rfl rfl hin eX3_ripeBy_0.2.2.2.2.2.2.2.2.2.2.2.1 ?_
    refine lv_topi (fun v_1 ev_1 => ?_)
    have hp := hp v_1 ev_1
    refine lv_iload_n hx hb eX3_ripeBy_0.2.2.2.2.2.2.2.2.2.2.2.2.1 rfl (lv_at hl 1 rfl) ?_
    refine lv_icmp_gt (tgt := 28) hx hb eX3_ripeBy_0.2.2.2.2.2.2.2.2.2.2.2.2.2.1 (by decide) (fun hc => ?_) (fun hc => ?_)
    · have hp := hp.1 hc
      exact ks_X3_ripeBy_28 C0 hKn x1 x2 x3 H locs ls hp hP hD hS (lv_sub hl [0, 1, 2, 3] rfl)
    · have hp := hp.2 hc
      refine lv_iload_n hx hb eX3_ripeBy_0.2.2.2.2.2.2.2.2.2.2.2.2.2.2.1 rfl (lv_at hl 2 rfl) ?_
      refine lv_iconst (v := 1) hx hb eX3_ripeBy_0.2.2.2.2.2.2.2.2.2.2.2.2.2.2.2 ic_1 ?_
      refine lv_iload_n hx hb eX3_ripeBy_24.1 rfl (lv_at hl 3 rfl) ?_
      refine lv_ishl hx hb eX3_ripeBy_24.2.1 ?_
      refine lv_ior hx hb eX3_ripeBy_24.2.2.1 ?_
      refine lv_topi (fun v_3 ev_3 => ?_)
      have hp := hp v_3 ev_3
      refine lv_istore_n (lv' := [(2, .int v_3), (0, .ref wJ), (1, .int x1), (3, .int x3)]) hx hb eX3_ripeBy_24.2.2.2.1 rfl hl (by decide) rfl (fun ls hl => ?_)
      exact ks_X3_ripeBy_28 C0 hKn x1 v_3 x3 H locs ls hp hP hD hS (lv_sub hl [1, 2, 0, 3] rfl)
set_option maxHeartbeats 4000000 in
set_option maxRecDepth 100000 in
theorem kb_X3_ripeBy_4 (C0 : gc cX3_ripeBy (some .int) 4 RX3 (dC, dI) (tyl cI cC cZ cB cJ) A p s m args meth c) : ∀ (n : Nat), ∀ (x1 x2 x3 : Int32) (H : Heap) (locs : List Loc) (ls : Array Slot), (wb_X3_ripeBy_4 post bZ qA n) x1 x2 x3 → va_P (dC, dI) classes (wd_X3_ripeBy cI cC cZ cB cJ wJ tX jE mX pD oO oQ eG bZ bD bI aI qA) H → va_D A (wd_X3_ripeBy cI cC cZ cB cJ wJ tX jE mX pD oO oQ eG bZ bD bI aI qA) → va_S A s.heap H locs → lv_has ls 4 [(0, .ref wJ), (1, .int x1), (2, .int x2), (3, .int x3)] → W p l e rm_X3_ripeBy s m args below meth c H locs 0 0 (MQ below (q_X3_ripeBy dC dI cI cC cZ cB cJ A wJ tX jE mX pD oO oQ eG bZ bD bI aI qA post) args s 0 0 A) (F0 m 4 ls []) := by
  intro n
  induction n with
  | zero =>
    intro x1 x2 x3 H locs ls hp
    exact False.elim hp
  | succ n ih =>
    intro x1 x2 x3 H locs ls hp
    exact ks_X3_ripeBy_4 C0 ih x1 x2 x3 H locs ls hp
end S_X3_ripeBy
noncomputable def wp_X3_ripeBy (post : Int32 → Prop) (p0 bZ : Int32) (qA : Nat → Int32) : Prop := ∃ n : Nat, wb_X3_ripeBy_4 post bZ qA n p0 0 0
set_option maxHeartbeats 4000000 in
set_option maxRecDepth 100000 in
theorem c_X3_ripeBy (l : Launch) (dC : Nat → ClassId) (dI : Nat → Nat → Nat) (cI cC cZ cB cJ : ClassId) (wJ tX jE mX pD oO oQ eG sz : Nat) (p0 bZ bD bI aI : Int32) (qA : Nat → Int32) (post : Int32 → Prop) (hw : wp_X3_ripeBy post p0 bZ qA) : Met l yX3_ripeBy (gw yX3_ripeBy cX3_ripeBy 4 (some .int)) rm_X3_ripeBy (va_Pc [.ref wJ, .int p0] (gPre (dC, dI) (tyl cI cC cZ cB cJ) (wd_X3_ripeBy cI cC cZ cB cJ wJ tX jE mX pD oO oQ eG bZ bD bI aI qA) sz)) (q_X3_ripeBy dC dI cI cC cZ cB cJ (va_A (wd_X3_ripeBy cI cC cZ cB cJ wJ tX jE mX pD oO oQ eG bZ bD bI aI qA) sz) wJ tX jE mX pD oO oQ eG bZ bD bI aI qA post) 0 0 (va_A (wd_X3_ripeBy cI cC cZ cB cJ wJ tX jE mX pD oO oQ eG bZ bD bI aI qA) sz) := by
  refine g_enter (own := RX3) (dC, dI) (tyl cI cC cZ cB cJ) (wd_X3_ripeBy cI cC cZ cB cJ wJ tX jE mX pD oO oQ eG bZ bD bI aI qA) sz [.ref wJ, .int p0] (fun A => q_X3_ripeBy dC dI cI cC cZ cB cJ A wJ tX jE mX pD oO oQ eG bZ bD bI aI qA post) pn_RX3 rfl (Nat.le_of_ble_eq_true rfl) ?_
  intro p e s m args below meth c A H locs ls C0 hP hD hS hl
  have hl : lv_has ls 4 [(0, .ref wJ), (1, .int p0)] := hl
  obtain ⟨hx, hb, hr, hml, hown, hts, hlocks, hA, hK, hN, tL, tM, hZL, hTL, hZM, hTM, hZX⟩ := id C0
  have hp := hw
  unfold wp_X3_ripeBy at hp
  refine lv_iconst (v := 0) hx hb eX3_ripeBy_0.1 ic_0 ?_
  refine lv_istore_n (lv' := [(2, .int 0), (0, .ref wJ), (1, .int p0)]) hx hb eX3_ripeBy_0.2.1 rfl hl (by decide) rfl (fun ls hl => ?_)
  refine lv_iconst (v := 0) hx hb eX3_ripeBy_0.2.2.1 ic_0 ?_
  refine lv_istore_n (lv' := [(3, .int 0), (2, .int 0), (0, .ref wJ), (1, .int p0)]) hx hb eX3_ripeBy_0.2.2.2.1 rfl hl (by decide) rfl (fun ls hl => ?_)
  obtain ⟨n9, hp⟩ := hp
  exact kb_X3_ripeBy_4 C0 n9 p0 0 0 H locs ls hp hP hD hS (lv_sub hl [2, 3, 1, 0] rfl)
noncomputable abbrev wd_X0_readyHere (cI cC cZ cB cJ : ClassId) (wY wJ wQ xH tX jE mX pD oO oQ eG : Nat) (bZ bD bI aI : Int32) (wD gF qA nJ nY dQ : Nat → Int32) (jC eO eW dO fJ fY jD nG : Int32) : va_W := [(wY, .inr (0, [.ref wJ, .ref wQ, .ref xH])), (wJ, .inr (3, [.ref tX, .ref jE, .ref mX, .ref pD, .ref oO, .ref oQ, .ref eG, .int bZ, .int bD, .int bI, .int aI])), (tX, .inl (cI, 16, .inl wD)), (jE, .inl (cI, 16, .inl gF)), (pD, .inl (cI, 16, .inl qA)), (oO, .inl (cI, 8, .inl nJ)), (oQ, .inl (cI, 8, .inl nY)), (eG, .inl (cI, 5, .inl dQ)), (wQ, .inr (2, [.int jC, .int eO, .int eW, .int dO, .int fJ, .int fY, .int jD, .int nG]))]
noncomputable abbrev q_X0_readyHere (dC : Nat → ClassId) (dI : Nat → Nat → Nat) (cI cC cZ cB cJ : ClassId) (A : Nat → Prop) (wY wJ wQ xH tX jE mX pD oO oQ eG : Nat) (bZ bD bI aI : Int32) (wD gF qA nJ nY dQ : Nat → Int32) (jC eO eW dO fJ fY jD nG : Int32) (post : Int32 → Prop) : Array Value → State → Outcome → State → Prop := va_Qi (fun (r : Int32) (u : Unit) => post r) (fun u t => gB (dC, dI) (tyl cI cC cZ cB cJ) A (wd_X0_readyHere cI cC cZ cB cJ wY wJ wQ xH tX jE mX pD oO oQ eG bZ bD bI aI wD gF qA nJ nY dQ jC eO eW dO fJ fY jD nG) t) A
noncomputable abbrev rm_X0_readyHere : Room := { frames := 3, cells := 0, slots := 0, locals := 71 }
noncomputable def wp_X0_readyHere (post : Int32 → Prop) (bZ : Int32) (wD gF qA nJ nY dQ : Nat → Int32) (jC eO eW fJ fY jD : Int32) : Prop := (¬ fJ = (-1) → wp_X3_reach (fun r_1 => wp_X3_within (fun r_2 => wp_X0_hanging (fun r_3 => wp_X3_ripeBy (fun r_4 => ∀ v_5 : Int32, v_5 = r_3 &&& r_4 → post (v_5 &&& r_2)) jD bZ qA) bZ jC eO eW) fJ r_1 bZ wD gF nJ nY) fY 0 dQ) ∧ (fJ = (-1) → post 0)
set_option maxHeartbeats 4000000 in
set_option maxRecDepth 100000 in
theorem c_X0_readyHere (l : Launch) (dC : Nat → ClassId) (dI : Nat → Nat → Nat) (cI cC cZ cB cJ : ClassId) (wY wJ wQ xH tX jE mX pD oO oQ eG sz : Nat) (bZ bD bI aI : Int32) (wD gF qA nJ nY dQ : Nat → Int32) (jC eO eW dO fJ fY jD nG : Int32) (post : Int32 → Prop) (hw : wp_X0_readyHere post bZ wD gF qA nJ nY dQ jC eO eW fJ fY jD) : Met l yX0_readyHere (gw yX0_readyHere cX0_readyHere 2 (some .int)) rm_X0_readyHere (va_Pc [.ref wY] (gPre (dC, dI) (tyl cI cC cZ cB cJ) (wd_X0_readyHere cI cC cZ cB cJ wY wJ wQ xH tX jE mX pD oO oQ eG bZ bD bI aI wD gF qA nJ nY dQ jC eO eW dO fJ fY jD nG) sz)) (q_X0_readyHere dC dI cI cC cZ cB cJ (va_A (wd_X0_readyHere cI cC cZ cB cJ wY wJ wQ xH tX jE mX pD oO oQ eG bZ bD bI aI wD gF qA nJ nY dQ jC eO eW dO fJ fY jD nG) sz) wY wJ wQ xH tX jE mX pD oO oQ eG bZ bD bI aI wD gF qA nJ nY dQ jC eO eW dO fJ fY jD nG post) 0 0 (va_A (wd_X0_readyHere cI cC cZ cB cJ wY wJ wQ xH tX jE mX pD oO oQ eG bZ bD bI aI wD gF qA nJ nY dQ jC eO eW dO fJ fY jD nG) sz) := by
  refine g_enter (own := RX0) (dC, dI) (tyl cI cC cZ cB cJ) (wd_X0_readyHere cI cC cZ cB cJ wY wJ wQ xH tX jE mX pD oO oQ eG bZ bD bI aI wD gF qA nJ nY dQ jC eO eW dO fJ fY jD nG) sz [.ref wY] (fun A => q_X0_readyHere dC dI cI cC cZ cB cJ A wY wJ wQ xH tX jE mX pD oO oQ eG bZ bD bI aI wD gF qA nJ nY dQ jC eO eW dO fJ fY jD nG post) pn_RX0 rfl (Nat.le_of_ble_eq_true rfl) ?_
  intro p e s m args below meth c A H locs ls C0 hP hD hS hl
  have hl : lv_has ls 2 [(0, .ref wY)] := hl
  obtain ⟨hx, hb, hr, hml, hown, hts, hlocks, hA, hK, hN, tL, tM, hZL, hTL, hZM, hTM, hZX⟩ := id C0
  have hp := hw
  unfold wp_X0_readyHere at hp
  refine lv_aload_n hx hb eX0_readyHere_0.1 rfl (lv_at hl 0 rfl) ?_
  refine va_get (D := (dC, dI)) (ci := 0) (v := .ref wQ) (C := RX0) (T := TX0) (N := 3) hx hb hts i_X0 hown hK hP 0 rfl rfl 1 (Nat.le_of_ble_eq_true rfl) (hts _ q_161) (fun _ h9 => h9) rfl eX0_readyHere_0.2.1 ?_
  refine va_get (D := (dC, dI)) (ci := 2) (v := .int fJ) (C := RX2) (T := TX2) (N := 8) hx hb hts i_X2 hown hK hP 8 rfl rfl 4 (Nat.le_of_ble_eq_true rfl) (hts _ q_228) (fun _ h9 => h9) rfl eX0_readyHere_0.2.2.1 ?_
  refine lv_iconst (v := (-1)) hx hb eX0_readyHere_0.2.2.2.1 ic_m1 ?_
  refine lv_icmp_ne (tgt := 13) hx hb eX0_readyHere_0.2.2.2.2.1 (by decide) (fun hc => ?_) (fun hc => ?_)
  · have hp := hp.1 hc
    refine lv_aload_n hx hb eX0_readyHere_0.2.2.2.2.2.2.2.1 rfl (lv_at hl 0 rfl) ?_
    refine va_get (D := (dC, dI)) (ci := 0) (v := .ref wJ) (C := RX0) (T := TX0) (N := 3) hx hb hts i_X0 hown hK hP 0 rfl rfl 0 (Nat.le_of_ble_eq_true rfl) (hts _ q_156) (fun _ h9 => h9) rfl eX0_readyHere_0.2.2.2.2.2.2.2.2.1 ?_
    refine lv_aload_n hx hb eX0_readyHere_0.2.2.2.2.2.2.2.2.2.1 rfl (lv_at hl 0 rfl) ?_
    refine va_get (D := (dC, dI)) (ci := 0) (v := .ref wQ) (C := RX0) (T := TX0) (N := 3) hx hb hts i_X0 hown hK hP 0 rfl rfl 1 (Nat.le_of_ble_eq_true rfl) (hts _ q_161) (fun _ h9 => h9) rfl eX0_readyHere_0.2.2.2.2.2.2.2.2.2.2.1 ?_
    refine va_get (D := (dC, dI)) (ci := 2) (v := .int fJ) (C := RX2) (T := TX2) (N := 8) hx hb hts i_X2 hown hK hP 8 rfl rfl 4 (Nat.le_of_ble_eq_true rfl) (hts _ q_228) (fun _ h9 => h9) rfl eX0_readyHere_0.2.2.2.2.2.2.2.2.2.2.2.1 ?_
    refine lv_aload_n hx hb eX0_readyHere_0.2.2.2.2.2.2.2.2.2.2.2.2.1 rfl (lv_at hl 0 rfl) ?_
    refine va_get (D := (dC, dI)) (ci := 0) (v := .ref wJ) (C := RX0) (T := TX0) (N := 3) hx hb hts i_X0 hown hK hP 0 rfl rfl 0 (Nat.le_of_ble_eq_true rfl) (hts _ q_156) (fun _ h9 => h9) rfl eX0_readyHere_0.2.2.2.2.2.2.2.2.2.2.2.2.2.1 ?_
    refine lv_aload_n hx hb eX0_readyHere_0.2.2.2.2.2.2.2.2.2.2.2.2.2.2.1 rfl (lv_at hl 0 rfl) ?_
    refine va_get (D := (dC, dI)) (ci := 0) (v := .ref wQ) (C := RX0) (T := TX0) (N := 3) hx hb hts i_X0 hown hK hP 0 rfl rfl 1 (Nat.le_of_ble_eq_true rfl) (hts _ q_161) (fun _ h9 => h9) rfl eX0_readyHere_0.2.2.2.2.2.2.2.2.2.2.2.2.2.2.2 ?_
    refine va_get (D := (dC, dI)) (ci := 2) (v := .int fY) (C := RX2) (T := TX2) (N := 8) hx hb hts i_X2 hown hK hP 8 rfl rfl 5 (Nat.le_of_ble_eq_true rfl) (hts _ q_262) (fun _ h9 => h9) rfl eX0_readyHere_32.1 ?_
    refine lv_iconst (v := 0) hx hb eX0_readyHere_32.2.1 ic_0 ?_
    have hm := mgk (wc := (wd_X3_reach cI cC cZ cB cJ wJ tX jE mX pD oO oQ eG bZ bD bI aI dQ)) hP mk_71 9 rfl rfl rfl
    refine g_calli hP hD hS hA (mixT mk_71) (mixF mk_71) hm.1 hm.2 (nd_F _) (dis_g _) (g_runV (As := [.int fY, .int 0]) (rest := [.int fJ, .ref wJ]) C0 hP hD hS (mixT mk_71) hm.1 (nd_T _) 1 3 rfl rfl (c_X3_reach l dC dI cI cC cZ cB cJ wJ tX jE mX pD oO oQ eG H.size fY 0 bZ bD bI aI dQ _ hp) q_312 q_315 q_313 q_314 q_48 h_X3_reach rfl rfl ⟨Nat.le_of_ble_eq_true rfl, Nat.le_of_ble_eq_true rfl⟩ rfl rfl hl.1 rfl (lv_room (Nat.le_of_ble_eq_true rfl)) eX0_readyHere_32.2.2.1 ⟨Nat.zero_le _, Nat.zero_le _⟩) (fun r_1 u H locs hp hP hD hS => ?_)
    have hPD := PDm (ws' := (wd_X0_readyHere cI cC cZ cB cJ wY wJ wQ xH tX jE mX pD oO oQ eG bZ bD bI aI wD gF qA nJ nY dQ jC eO eW dO fJ fY jD nG)) hP hD 9 rfl rfl rfl
    have hP := hPD.1
    have hD := hPD.2
    have hm := mgk (wc := (wd_X3_within cI cC cZ cB cJ wJ tX jE mX pD oO oQ eG bZ bD bI aI wD gF nJ nY)) hP mk_72 9 rfl rfl rfl
    refine g_calli hP hD hS hA (mixT mk_72) (mixF mk_72) hm.1 hm.2 (nd_F _) (dis_g _) (g_runV (As := [.int fJ, .int r_1]) (rest := []) C0 hP hD hS (mixT mk_72) hm.1 (nd_T _) 1 3 rfl rfl (c_X3_within l dC dI cI cC cZ cB cJ wJ tX jE mX pD oO oQ eG H.size fJ r_1 bZ bD bI aI wD gF nJ nY _ hp) q_339 q_342 q_340 q_341 q_48 h_X3_within rfl rfl ⟨Nat.le_of_ble_eq_true rfl, Nat.le_of_ble_eq_true rfl⟩ rfl rfl hl.1 rfl (lv_room (Nat.le_of_ble_eq_true rfl)) eX0_readyHere_32.2.2.2.1 ⟨Nat.zero_le _, Nat.zero_le _⟩) (fun r_2 u H locs hp hP hD hS => ?_)
    have hPD := PDm (ws' := (wd_X0_readyHere cI cC cZ cB cJ wY wJ wQ xH tX jE mX pD oO oQ eG bZ bD bI aI wD gF qA nJ nY dQ jC eO eW dO fJ fY jD nG)) hP hD 9 rfl rfl rfl
    have hP := hPD.1
    have hD := hPD.2
    refine lv_istore_n (lv' := [(1, .int r_2), (0, .ref wY)]) hx hb eX0_readyHere_32.2.2.2.2.1 rfl hl (by decide) rfl (fun ls hl => ?_)
    refine lv_aload_n hx hb eX0_readyHere_32.2.2.2.2.2.1 rfl (lv_at hl 1 rfl) ?_
    have hm := mgk (wc := (wd_X0_hanging cI cC cZ cB cJ wY wJ wQ xH tX jE mX pD oO oQ eG bZ bD bI aI jC eO eW dO fJ fY jD nG)) hP mk_73 9 rfl rfl rfl
    refine g_calli hP hD hS hA (mixT mk_73) (mixF mk_73) hm.1 hm.2 (nd_F _) (dis_g _) (g_runV (As := []) (rest := []) C0 hP hD hS (mixT mk_73) hm.1 (nd_T _) 0 0 rfl rfl (c_X0_hanging l dC dI cI cC cZ cB cJ wY wJ wQ xH tX jE mX pD oO oQ eG H.size bZ bD bI aI jC eO eW dO fJ fY jD nG _ hp) q_186 q_309 q_188 q_189 q_187 h_X0_hanging rfl rfl ⟨Nat.le_of_ble_eq_true rfl, Nat.le_of_ble_eq_true rfl⟩ rfl rfl hl.1 rfl (lv_room (Nat.le_of_ble_eq_true rfl)) eX0_readyHere_32.2.2.2.2.2.2.1 ⟨Nat.zero_le _, Nat.zero_le _⟩) (fun r_3 u H locs hp hP hD hS => ?_)
    have hPD := PDm (ws' := (wd_X0_readyHere cI cC cZ cB cJ wY wJ wQ xH tX jE mX pD oO oQ eG bZ bD bI aI wD gF qA nJ nY dQ jC eO eW dO fJ fY jD nG)) hP hD 9 rfl rfl rfl
    have hP := hPD.1
    have hD := hPD.2
    refine lv_aload_n hx hb eX0_readyHere_32.2.2.2.2.2.2.2.1 rfl (lv_at hl 1 rfl) ?_
    refine va_get (D := (dC, dI)) (ci := 0) (v := .ref wJ) (C := RX0) (T := TX0) (N := 3) hx hb hts i_X0 hown hK hP 0 rfl rfl 0 (Nat.le_of_ble_eq_true rfl) (hts _ q_156) (fun _ h9 => h9) rfl eX0_readyHere_32.2.2.2.2.2.2.2.2.1 ?_
    refine lv_aload_n hx hb eX0_readyHere_32.2.2.2.2.2.2.2.2.2.1 rfl (lv_at hl 1 rfl) ?_
    refine va_get (D := (dC, dI)) (ci := 0) (v := .ref wQ) (C := RX0) (T := TX0) (N := 3) hx hb hts i_X0 hown hK hP 0 rfl rfl 1 (Nat.le_of_ble_eq_true rfl) (hts _ q_161) (fun _ h9 => h9) rfl eX0_readyHere_32.2.2.2.2.2.2.2.2.2.2.1 ?_
    refine va_get (D := (dC, dI)) (ci := 2) (v := .int jD) (C := RX2) (T := TX2) (N := 8) hx hb hts i_X2 hown hK hP 8 rfl rfl 6 (Nat.le_of_ble_eq_true rfl) (hts _ q_311) (fun _ h9 => h9) rfl eX0_readyHere_32.2.2.2.2.2.2.2.2.2.2.2.1 ?_
    have hm := mgk (wc := (wd_X3_ripeBy cI cC cZ cB cJ wJ tX jE mX pD oO oQ eG bZ bD bI aI qA)) hP mk_74 9 rfl rfl rfl
    refine g_calli hP hD hS hA (mixT mk_74) (mixF mk_74) hm.1 hm.2 (nd_F _) (dis_g _) (g_runV (As := [.int jD]) (rest := [.int r_3]) C0 hP hD hS (mixT mk_74) hm.1 (nd_T _) 1 3 rfl rfl (c_X3_ripeBy l dC dI cI cC cZ cB cJ wJ tX jE mX pD oO oQ eG H.size jD bZ bD bI aI qA _ hp) q_343 q_346 q_344 q_345 q_48 h_X3_ripeBy rfl rfl ⟨Nat.le_of_ble_eq_true rfl, Nat.le_of_ble_eq_true rfl⟩ rfl rfl hl.1 rfl (lv_room (Nat.le_of_ble_eq_true rfl)) eX0_readyHere_32.2.2.2.2.2.2.2.2.2.2.2.2.1 ⟨Nat.zero_le _, Nat.zero_le _⟩) (fun r_4 u H locs hp hP hD hS => ?_)
    have hPD := PDm (ws' := (wd_X0_readyHere cI cC cZ cB cJ wY wJ wQ xH tX jE mX pD oO oQ eG bZ bD bI aI wD gF qA nJ nY dQ jC eO eW dO fJ fY jD nG)) hP hD 9 rfl rfl rfl
    have hP := hPD.1
    have hD := hPD.2
    refine lv_iand hx hb eX0_readyHere_32.2.2.2.2.2.2.2.2.2.2.2.2.2.1 ?_
    refine lv_topi (fun v_5 ev_5 => ?_)
    have hp := hp v_5 ev_5
    refine lv_iload_n hx hb eX0_readyHere_32.2.2.2.2.2.2.2.2.2.2.2.2.2.2.1 rfl (lv_at hl 0 rfl) ?_
    refine lv_iand hx hb eX0_readyHere_32.2.2.2.2.2.2.2.2.2.2.2.2.2.2.2 ?_
    exact W.iret (v := v_5 &&& r_2) hx hb hr (fun t ht hW => ⟨⟨v_5 &&& r_2, (), rfl, hp, by rw [ht]; exact hP, va_K.moved hW.alike hK, hD⟩, hS.F ht⟩) hS.2.2 dX0_readyHere_64
  · have hp := hp.2 hc
    refine lv_iconst (v := 0) hx hb eX0_readyHere_0.2.2.2.2.2.1 ic_0 ?_
    exact W.iret (v := 0) hx hb hr (fun t ht hW => ⟨⟨0, (), rfl, hp, by rw [ht]; exact hP, va_K.moved hW.alike hK, hD⟩, hS.F ht⟩) hS.2.2 eX0_readyHere_0.2.2.2.2.2.2.1
noncomputable abbrev wd_X0_shakeTree (cI cC cZ cB cJ : ClassId) (wY wJ wQ xH tX jE mX pD oO oQ eG : Nat) (bZ bD bI aI : Int32) (wD gF qA nJ nY dQ : Nat → Int32) (jC eO eW dO fJ fY jD nG : Int32) : va_W := [(wY, .inr (0, [.ref wJ, .ref wQ, .ref xH])), (wJ, .inr (3, [.ref tX, .ref jE, .ref mX, .ref pD, .ref oO, .ref oQ, .ref eG, .int bZ, .int bD, .int bI, .int aI])), (tX, .inl (cI, 16, .inl wD)), (jE, .inl (cI, 16, .inl gF)), (pD, .inl (cI, 16, .inl qA)), (oO, .inl (cI, 8, .inl nJ)), (oQ, .inl (cI, 8, .inl nY)), (eG, .inl (cI, 5, .inl dQ)), (wQ, .inr (2, [.int jC, .int eO, .int eW, .int dO, .int fJ, .int fY, .int jD, .int nG]))]
noncomputable abbrev q_X0_shakeTree (dC : Nat → ClassId) (dI : Nat → Nat → Nat) (cI cC cZ cB cJ : ClassId) (A : Nat → Prop) (wY wJ wQ xH tX jE mX pD oO oQ eG : Nat) (bZ bD bI aI : Int32) (wD gF qA nJ nY dQ : Nat → Int32) (jC eO fJ fY jD : Int32) (post : Int32 → Int32 → Int32 → Int32 → Prop) : Array Value → State → Outcome → State → Prop := va_Qi (fun (r : Int32) (u : Int32 × Int32 × Int32) => post r u.1 u.2.1 u.2.2) (fun u t => gB (dC, dI) (tyl cI cC cZ cB cJ) A (wd_X0_shakeTree cI cC cZ cB cJ wY wJ wQ xH tX jE mX pD oO oQ eG bZ bD bI aI wD gF qA nJ nY dQ jC eO u.1 u.2.1 fJ fY jD u.2.2) t) A
noncomputable abbrev rm_X0_shakeTree : Room := { frames := 4, cells := 0, slots := 0, locals := 92 }
section S_X0_shakeTree
variable {p : Program} {l : Launch} {e : Env} {s : State} {m : MethodId} {args : Array Value} {below : List Frame} {meth : Method} {c : Code} {dC : Nat → ClassId} {dI : Nat → Nat → Nat} {cI cC cZ cB cJ : ClassId} {A : Nat → Prop} {wY wJ wQ xH tX jE mX pD oO oQ eG : Nat} {bZ bD bI aI : Int32} {wD gF qA nJ nY dQ : Nat → Int32} {jC eO fJ fY jD : Int32} {post : Int32 → Int32 → Int32 → Int32 → Prop}
noncomputable def ws_X0_shakeTree_63 (post : Int32 → Int32 → Int32 → Int32 → Prop) (K29 : Int32 → Int32 → Int32 → Int32 → Int32 → Int32 → Int32 → Prop) (bZ : Int32) (wD gF qA nJ nY dQ : Nat → Int32) (jC eO fJ fY jD x1 x2 x3 x4 eW dO nG : Int32) : Prop := ∀ v_8 : Int32, v_8 = x4 + 1 → K29 x1 x2 x3 v_8 eW dO nG
set_option maxHeartbeats 4000000 in
set_option maxRecDepth 100000 in
theorem ks_X0_shakeTree_63 (C0 : gc cX0_shakeTree (some .int) 5 RX0 (dC, dI) (tyl cI cC cZ cB cJ) A p s m args meth c) {K29 : Int32 → Int32 → Int32 → Int32 → Int32 → Int32 → Int32 → Prop} (hK29 : ∀ (x1 : Int32) (x2 : Int32) (x3 : Int32) (x4 : Int32) (eW : Int32) (dO : Int32) (nG : Int32) (H : Heap) (locs : List Loc) (ls : Array Slot), K29 x1 x2 x3 x4 eW dO nG → va_P (dC, dI) classes (wd_X0_shakeTree cI cC cZ cB cJ wY wJ wQ xH tX jE mX pD oO oQ eG bZ bD bI aI wD gF qA nJ nY dQ jC eO eW dO fJ fY jD nG) H → va_D A (wd_X0_shakeTree cI cC cZ cB cJ wY wJ wQ xH tX jE mX pD oO oQ eG bZ bD bI aI wD gF qA nJ nY dQ jC eO eW dO fJ fY jD nG) → va_S A s.heap H locs → lv_has ls 5 [(0, .ref wY), (1, .int x1), (2, .int x2), (3, .int x3), (4, .int x4)] → W p l e rm_X0_shakeTree s m args below meth c H locs 0 0 (MQ below (q_X0_shakeTree dC dI cI cC cZ cB cJ A wY wJ wQ xH tX jE mX pD oO oQ eG bZ bD bI aI wD gF qA nJ nY dQ jC eO fJ fY jD post) args s 0 0 A) (F0 m 29 ls [])) : ∀ (x1 x2 x3 x4 eW dO nG : Int32) (H : Heap) (locs : List Loc) (ls : Array Slot), (ws_X0_shakeTree_63 post K29 bZ wD gF qA nJ nY dQ jC eO fJ fY jD) x1 x2 x3 x4 eW dO nG → va_P (dC, dI) classes (wd_X0_shakeTree cI cC cZ cB cJ wY wJ wQ xH tX jE mX pD oO oQ eG bZ bD bI aI wD gF qA nJ nY dQ jC eO eW dO fJ fY jD nG) H → va_D A (wd_X0_shakeTree cI cC cZ cB cJ wY wJ wQ xH tX jE mX pD oO oQ eG bZ bD bI aI wD gF qA nJ nY dQ jC eO eW dO fJ fY jD nG) → va_S A s.heap H locs → lv_has ls 5 [(0, .ref wY), (1, .int x1), (2, .int x2), (3, .int x3), (4, .int x4)] → W p l e rm_X0_shakeTree s m args below meth c H locs 0 0 (MQ below (q_X0_shakeTree dC dI cI cC cZ cB cJ A wY wJ wQ xH tX jE mX pD oO oQ eG bZ bD bI aI wD gF qA nJ nY dQ jC eO fJ fY jD post) args s 0 0 A) (F0 m 63 ls []) := by
  obtain ⟨hx, hb, hr, hml, hown, hts, hlocks, hA, hK, hN, tL, tM, hZL, hTL, hZM, hTM, hZX⟩ := id C0
  intro x1 x2 x3 x4 eW dO nG H locs ls hp hP hD hS hl
  unfold ws_X0_shakeTree_63 at hp
  obtain ⟨v_8, ev_8⟩ : ∃ y : Int32, y = x4 + 1 := ⟨_, rfl⟩
  refine lv_iinc (v := v_8) (lv' := [(4, .int v_8), (0, .ref wY), (1, .int x1), (2, .int x2), (3, .int x3)]) hx hb eX0_shakeTree_57.2.2.2.2.1 hl (k := 4) rfl (by rw [ev_8]; rfl) (by decide) rfl (fun ls hl => ?_)
  have hp := hp v_8 ev_8
  refine lv_goto (tgt := 29) hx hb eX0_shakeTree_57.2.2.2.2.2.1 (by decide) ?_
  exact hK29 x1 x2 x3 v_8 eW dO nG H locs ls hp hP hD hS (lv_sub hl [1, 2, 3, 4, 0] rfl)
noncomputable def ws_X0_shakeTree_29 (post : Int32 → Int32 → Int32 → Int32 → Prop) (next : Int32 → Int32 → Int32 → Int32 → Int32 → Int32 → Int32 → Prop) (bZ : Int32) (wD gF qA nJ nY dQ : Nat → Int32) (jC eO fJ fY jD x1 x2 x3 x4 eW dO nG : Int32) : Prop := (bZ ≤ x4 → ∀ v_3 : Int32, v_3 = eW ||| x2 → ∀ v_4 : Int32, v_4 = dO ||| x3 → wp_X2_spend (fun zI => wp_J6_bitCount_0f7a4 (fun r_6 => post r_6 v_3 v_4 zI) x2) 5 nG) ∧ (¬ bZ ≤ x4 → ∀ v_7 : Int32, v_7 = x2 >>> (x4 &&& 31) → ((v_7 &&& 1) = 0 → ws_X0_shakeTree_63 post next bZ wD gF qA nJ nY dQ jC eO fJ fY jD x1 x2 x3 x4 eW dO nG) ∧ (¬ (v_7 &&& 1) = 0 → wp_X3_lowerThan (fun r_9 => ∀ v_10 : Int32, v_10 = x3 ||| r_9 → ws_X0_shakeTree_63 post next bZ wD gF qA nJ nY dQ jC eO fJ fY jD x1 x2 v_10 x4 eW dO nG) x4 x1 bZ wD gF))
noncomputable def wb_X0_shakeTree_29 (post : Int32 → Int32 → Int32 → Int32 → Prop) (bZ : Int32) (wD gF qA nJ nY dQ : Nat → Int32) (jC eO fJ fY jD : Int32) : Nat → Int32 → Int32 → Int32 → Int32 → Int32 → Int32 → Int32 → Prop := fun n => Nat.rec (motive := fun _ => Int32 → Int32 → Int32 → Int32 → Int32 → Int32 → Int32 → Prop) (fun _ _ _ _ _ _ _ => False) (fun _ ih => ws_X0_shakeTree_29 post ih bZ wD gF qA nJ nY dQ jC eO fJ fY jD) n
set_option maxHeartbeats 4000000 in
set_option maxRecDepth 100000 in
theorem ks_X0_shakeTree_29 (C0 : gc cX0_shakeTree (some .int) 5 RX0 (dC, dI) (tyl cI cC cZ cB cJ) A p s m args meth c) {next : Int32 → Int32 → Int32 → Int32 → Int32 → Int32 → Int32 → Prop} (hKn : ∀ (x1 : Int32) (x2 : Int32) (x3 : Int32) (x4 : Int32) (eW : Int32) (dO : Int32) (nG : Int32) (H : Heap) (locs : List Loc) (ls : Array Slot), next x1 x2 x3 x4 eW dO nG → va_P (dC, dI) classes (wd_X0_shakeTree cI cC cZ cB cJ wY wJ wQ xH tX jE mX pD oO oQ eG bZ bD bI aI wD gF qA nJ nY dQ jC eO eW dO fJ fY jD nG) H → va_D A (wd_X0_shakeTree cI cC cZ cB cJ wY wJ wQ xH tX jE mX pD oO oQ eG bZ bD bI aI wD gF qA nJ nY dQ jC eO eW dO fJ fY jD nG) → va_S A s.heap H locs → lv_has ls 5 [(0, .ref wY), (1, .int x1), (2, .int x2), (3, .int x3), (4, .int x4)] → W p l e rm_X0_shakeTree s m args below meth c H locs 0 0 (MQ below (q_X0_shakeTree dC dI cI cC cZ cB cJ A wY wJ wQ xH tX jE mX pD oO oQ eG bZ bD bI aI wD gF qA nJ nY dQ jC eO fJ fY jD post) args s 0 0 A) (F0 m 29 ls [])) : ∀ (x1 x2 x3 x4 eW dO nG : Int32) (H : Heap) (locs : List Loc) (ls : Array Slot), (ws_X0_shakeTree_29 post next bZ wD gF qA nJ nY dQ jC eO fJ fY jD) x1 x2 x3 x4 eW dO nG → va_P (dC, dI) classes (wd_X0_shakeTree cI cC cZ cB cJ wY wJ wQ xH tX jE mX pD oO oQ eG bZ bD bI aI wD gF qA nJ nY dQ jC eO eW dO fJ fY jD nG) H → va_D A (wd_X0_shakeTree cI cC cZ cB cJ wY wJ wQ xH tX jE mX pD oO oQ eG bZ bD bI aI wD gF qA nJ nY dQ jC eO eW dO fJ fY jD nG) → va_S A s.heap H locs → lv_has ls 5 [(0, .ref wY), (1, .int x1), (2, .int x2), (3, .int x3), (4, .int x4)] → W p l e rm_X0_shakeTree s m args below meth c H locs 0 0 (MQ below (q_X0_shakeTree dC dI cI cC cZ cB cJ A wY wJ wQ xH tX jE mX pD oO oQ eG bZ bD bI aI wD gF qA nJ nY dQ jC eO fJ fY jD post) args s 0 0 A) (F0 m 29 ls []) := by
  obtain ⟨hx, hb, hr, hml, hown, hts, hlocks, hA, hK, hN, tL, tM, hZL, hTL, hZM, hTM, hZX⟩ := id C0
  intro x1 x2 x3 x4 eW dO nG H locs ls hp hP hD hS hl
  unfold ws_X0_shakeTree_29 at hp
  refine lv_iload hx hb eX0_shakeTree_27.2.1 (lv_at hl 4 rfl) ?_
  refine lv_aload_n hx hb eX0_shakeTree_27.2.2.1 rfl (lv_at hl 0 rfl) ?_
  refine va_get (D := (dC, dI)) (ci := 0) (v := .ref wJ) (C := RX0) (T := TX0) (N := 3) hx hb hts i_X0 hown hK hP 0 rfl rfl 0 (Nat.le_of_ble_eq_true rfl) (hts _ q_156) (fun _ h9 => h9) rfl eX0_shakeTree_27.2.2.2.1 ?_
  refine va_get (D := (dC, dI)) (ci := 3) (v := .int bZ) (C := RX3) (T := TX3) (N := 11) hx hb hts i_X3 hown hK hP 1 rfl rfl 7 (Nat.le_of_ble_eq_true rfl) (hts _ q_351) (fun _ h9 => h9) rfl eX0_shakeTree_27.2.2.2.2.1 ?_
  refine lv_icmp_ge (tgt := 69) hx hb eX0_shakeTree_27.2.2.2.2.2.1 (by decide) (fun hc => ?_) (fun hc => ?_)
  · have hp := hp.1 hc
    refine lv_aload_n hx hb eX0_shakeTree_57.2.2.2.2.2.2.1 rfl (lv_at hl 0 rfl) ?_
    refine va_get (D := (dC, dI)) (ci := 0) (v := .ref wQ) (C := RX0) (T := TX0) (N := 3) hx hb hts i_X0 hown hK hP 0 rfl rfl 1 (Nat.le_of_ble_eq_true rfl) (hts _ q_161) (fun _ h9 => h9) rfl eX0_shakeTree_57.2.2.2.2.2.2.2.1 ?_
    refine lv_dup hx hb eX0_shakeTree_57.2.2.2.2.2.2.2.2.1 rfl ?_
    refine va_get (D := (dC, dI)) (ci := 2) (v := .int eW) (C := RX2) (T := TX2) (N := 8) hx hb hts i_X2 hown hK hP 8 rfl rfl 2 (Nat.le_of_ble_eq_true rfl) (hts _ q_164) (fun _ h9 => h9) rfl eX0_shakeTree_57.2.2.2.2.2.2.2.2.2.1 ?_
    refine lv_iload_n hx hb eX0_shakeTree_57.2.2.2.2.2.2.2.2.2.2.1 rfl (lv_at hl 2 rfl) ?_
    refine lv_ior hx hb eX0_shakeTree_57.2.2.2.2.2.2.2.2.2.2.2.1 ?_
    refine lv_topi (fun v_3 ev_3 => ?_)
    have hp := hp v_3 ev_3
    refine va_put (D := (dC, dI)) (ci := 2) (v := .int v_3) (ty := .int) (C := RX2) (T := TX2) (N := 8) hx hb hts i_X2 tyX2 tyX2_ok nmX2 hown hK hP hD hS 8 rfl rfl 2 (Nat.le_of_ble_eq_true rfl) (hts _ q_164) (fun _ h9 => h9) rfl (tyX2_ok 2 (Nat.le_of_ble_eq_true rfl)) rfl rfl (Nat.le_of_ble_eq_true rfl) eX0_shakeTree_57.2.2.2.2.2.2.2.2.2.2.2.2.1 (fun H locs hP hD hS => ?_)
    have hP : va_P (dC, dI) classes (wd_X0_shakeTree cI cC cZ cB cJ wY wJ wQ xH tX jE mX pD oO oQ eG bZ bD bI aI wD gF qA nJ nY dQ jC eO v_3 dO fJ fY jD nG) H := hP
    have hD : va_D A (wd_X0_shakeTree cI cC cZ cB cJ wY wJ wQ xH tX jE mX pD oO oQ eG bZ bD bI aI wD gF qA nJ nY dQ jC eO v_3 dO fJ fY jD nG) := hD
    refine lv_aload_n hx hb eX0_shakeTree_57.2.2.2.2.2.2.2.2.2.2.2.2.2.1 rfl (lv_at hl 0 rfl) ?_
    refine va_get (D := (dC, dI)) (ci := 0) (v := .ref wQ) (C := RX0) (T := TX0) (N := 3) hx hb hts i_X0 hown hK hP 0 rfl rfl 1 (Nat.le_of_ble_eq_true rfl) (hts _ q_161) (fun _ h9 => h9) rfl eX0_shakeTree_57.2.2.2.2.2.2.2.2.2.2.2.2.2.2.1 ?_
    refine lv_dup hx hb eX0_shakeTree_57.2.2.2.2.2.2.2.2.2.2.2.2.2.2.2 rfl ?_
    refine va_get (D := (dC, dI)) (ci := 2) (v := .int dO) (C := RX2) (T := TX2) (N := 8) hx hb hts i_X2 hown hK hP 8 rfl rfl 3 (Nat.le_of_ble_eq_true rfl) (hts _ q_278) (fun _ h9 => h9) rfl eX0_shakeTree_87.1 ?_
    refine lv_iload_n hx hb eX0_shakeTree_87.2.1 rfl (lv_at hl 3 rfl) ?_
    refine lv_ior hx hb eX0_shakeTree_87.2.2.1 ?_
    refine lv_topi (fun v_4 ev_4 => ?_)
    have hp := hp v_4 ev_4
    refine va_put (D := (dC, dI)) (ci := 2) (v := .int v_4) (ty := .int) (C := RX2) (T := TX2) (N := 8) hx hb hts i_X2 tyX2 tyX2_ok nmX2 hown hK hP hD hS 8 rfl rfl 3 (Nat.le_of_ble_eq_true rfl) (hts _ q_278) (fun _ h9 => h9) rfl (tyX2_ok 3 (Nat.le_of_ble_eq_true rfl)) rfl rfl (Nat.le_of_ble_eq_true rfl) eX0_shakeTree_87.2.2.2.1 (fun H locs hP hD hS => ?_)
    have hP : va_P (dC, dI) classes (wd_X0_shakeTree cI cC cZ cB cJ wY wJ wQ xH tX jE mX pD oO oQ eG bZ bD bI aI wD gF qA nJ nY dQ jC eO v_3 v_4 fJ fY jD nG) H := hP
    have hD : va_D A (wd_X0_shakeTree cI cC cZ cB cJ wY wJ wQ xH tX jE mX pD oO oQ eG bZ bD bI aI wD gF qA nJ nY dQ jC eO v_3 v_4 fJ fY jD nG) := hD
    refine lv_aload_n hx hb eX0_shakeTree_87.2.2.2.2.1 rfl (lv_at hl 0 rfl) ?_
    refine va_get (D := (dC, dI)) (ci := 0) (v := .ref wQ) (C := RX0) (T := TX0) (N := 3) hx hb hts i_X0 hown hK hP 0 rfl rfl 1 (Nat.le_of_ble_eq_true rfl) (hts _ q_161) (fun _ h9 => h9) rfl eX0_shakeTree_87.2.2.2.2.2.1 ?_
    refine lv_iconst (v := 5) hx hb eX0_shakeTree_87.2.2.2.2.2.2.1 ic_5 ?_
    have hm := mgk (wc := (wd_X2_spend cI cC cZ cB cJ wQ jC eO v_3 v_4 fJ fY jD nG)) hP mk_75 9 rfl rfl rfl
    refine g_callv hP hD hS hA (mixT mk_75) (mixF mk_75) hm.1 hm.2 (nd_F _) (dis_g _) (g_runV (As := [.int 5]) (rest := []) C0 hP hD hS (mixT mk_75) hm.1 (nd_T _) 8 2 rfl rfl (c_X2_spend l dC dI cI cC cZ cB cJ wQ H.size 5 jC eO v_3 v_4 fJ fY jD nG _ hp) q_237 q_240 q_238 q_239 q_181 h_X2_spend rfl rfl ⟨Nat.le_of_ble_eq_true rfl, Nat.le_of_ble_eq_true rfl⟩ rfl rfl hl.1 rfl (lv_room (Nat.le_of_ble_eq_true rfl)) eX0_shakeTree_87.2.2.2.2.2.2.2.1 ⟨Nat.zero_le _, Nat.zero_le _⟩) (fun u H locs hp hP hD hS => ?_)
    obtain ⟨zI, rfl⟩ : ∃ z, z = u := ⟨_, rfl⟩
    have hPD := PDm (ws' := (wd_X0_shakeTree cI cC cZ cB cJ wY wJ wQ xH tX jE mX pD oO oQ eG bZ bD bI aI wD gF qA nJ nY dQ jC eO v_3 v_4 fJ fY jD zI)) hP hD 9 rfl rfl rfl
    have hP := hPD.1
    have hD := hPD.2
    refine lv_iload_n hx hb eX0_shakeTree_87.2.2.2.2.2.2.2.2.1 rfl (lv_at hl 2 rfl) ?_
    have hm := mgk (wc := (wd_J6_bitCount_0f7a4 cI cC cZ cB cJ)) hP mk_76 9 rfl rfl rfl
    refine g_calli hP hD hS hA (mixT mk_76) (mixF mk_76) hm.1 hm.2 (nd_F _) (dis_g _) (g_runS (As := [.int x2]) (rest := []) C0 hP hD hS (mixT mk_76) hm.1 (nd_T _) (c_J6_bitCount_0f7a4 l dC dI cI cC cZ cB cJ H.size x2 _ hp) q_320 q_323 q_322 q_321 h_J6_bitCount_0f7a4 rfl rfl ⟨Nat.le_of_ble_eq_true rfl, Nat.le_of_ble_eq_true rfl⟩ rfl rfl hl.1 rfl (lv_room (Nat.le_of_ble_eq_true rfl)) eX0_shakeTree_87.2.2.2.2.2.2.2.2.2.1 ⟨Nat.zero_le _, Nat.zero_le _⟩) (fun r_6 u H locs hp hP hD hS => ?_)
    have hPD := PDm (ws' := (wd_X0_shakeTree cI cC cZ cB cJ wY wJ wQ xH tX jE mX pD oO oQ eG bZ bD bI aI wD gF qA nJ nY dQ jC eO v_3 v_4 fJ fY jD zI)) hP hD 9 rfl rfl rfl
    have hP := hPD.1
    have hD := hPD.2
    exact W.iret (v := r_6) hx hb hr (fun t ht hW => ⟨⟨r_6, (v_3, v_4, zI), rfl, hp, by rw [ht]; exact hP, va_K.moved hW.alike hK, hD⟩, hS.F ht⟩) hS.2.2 eX0_shakeTree_87.2.2.2.2.2.2.2.2.2.2
  · have hp := hp.2 hc
    refine lv_iload_n hx hb eX0_shakeTree_27.2.2.2.2.2.2.1 rfl (lv_at hl 2 rfl) ?_
    refine lv_iload hx hb eX0_shakeTree_27.2.2.2.2.2.2.2.1 (lv_at hl 4 rfl) ?_
    refine lv_ishr hx hb eX0_shakeTree_27.2.2.2.2.2.2.2.2.1 ?_
    refine lv_topi (fun v_7 ev_7 => ?_)
    have hp := hp v_7 ev_7
    refine lv_iconst (v := 1) hx hb eX0_shakeTree_27.2.2.2.2.2.2.2.2.2.1 ic_1 ?_
    refine lv_iand hx hb eX0_shakeTree_27.2.2.2.2.2.2.2.2.2.2.1 ?_
    refine lv_if_eq (tgt := 63) hx hb eX0_shakeTree_27.2.2.2.2.2.2.2.2.2.2.2.1 (by decide) (fun hc => ?_) (fun hc => ?_)
    · have hp := hp.1 hc
      exact ks_X0_shakeTree_63 C0 hKn x1 x2 x3 x4 eW dO nG H locs ls hp hP hD hS (lv_sub hl [0, 1, 2, 3, 4] rfl)
    · have hp := hp.2 hc
      refine lv_iload_n hx hb eX0_shakeTree_27.2.2.2.2.2.2.2.2.2.2.2.2.1 rfl (lv_at hl 3 rfl) ?_
      refine lv_aload_n hx hb eX0_shakeTree_27.2.2.2.2.2.2.2.2.2.2.2.2.2.1 rfl (lv_at hl 0 rfl) ?_
      refine va_get (D := (dC, dI)) (ci := 0) (v := .ref wJ) (C := RX0) (T := TX0) (N := 3) hx hb hts i_X0 hown hK hP 0 rfl rfl 0 (Nat.le_of_ble_eq_true rfl) (hts _ q_156) (fun _ h9 => h9) rfl eX0_shakeTree_27.2.2.2.2.2.2.2.2.2.2.2.2.2.2.1 ?_
      refine lv_iload hx hb eX0_shakeTree_27.2.2.2.2.2.2.2.2.2.2.2.2.2.2.2 (lv_at hl 4 rfl) ?_
      refine lv_iload_n hx hb eX0_shakeTree_57.1 rfl (lv_at hl 1 rfl) ?_
      have hm := mgk (wc := (wd_X3_lowerThan cI cC cZ cB cJ wJ tX jE mX pD oO oQ eG bZ bD bI aI wD gF)) hP mk_77 9 rfl rfl rfl
      refine g_calli hP hD hS hA (mixT mk_77) (mixF mk_77) hm.1 hm.2 (nd_F _) (dis_g _) (g_runV (As := [.int x4, .int x1]) (rest := [.int x3]) C0 hP hD hS (mixT mk_77) hm.1 (nd_T _) 1 3 rfl rfl (c_X3_lowerThan l dC dI cI cC cZ cB cJ wJ tX jE mX pD oO oQ eG H.size x4 x1 bZ bD bI aI wD gF _ hp) q_191 q_329 q_192 q_193 q_48 h_X3_lowerThan rfl rfl ⟨Nat.le_of_ble_eq_true rfl, Nat.le_of_ble_eq_true rfl⟩ rfl rfl hl.1 rfl (lv_room (Nat.le_of_ble_eq_true rfl)) eX0_shakeTree_57.2.1 ⟨Nat.zero_le _, Nat.zero_le _⟩) (fun r_9 u H locs hp hP hD hS => ?_)
      have hPD := PDm (ws' := (wd_X0_shakeTree cI cC cZ cB cJ wY wJ wQ xH tX jE mX pD oO oQ eG bZ bD bI aI wD gF qA nJ nY dQ jC eO eW dO fJ fY jD nG)) hP hD 9 rfl rfl rfl
      have hP := hPD.1
      have hD := hPD.2
      refine lv_ior hx hb eX0_shakeTree_57.2.2.1 ?_
      refine lv_topi (fun v_10 ev_10 => ?_)
      have hp := hp v_10 ev_10
      refine lv_istore_n (lv' := [(3, .int v_10), (0, .ref wY), (1, .int x1), (2, .int x2), (4, .int x4)]) hx hb eX0_shakeTree_57.2.2.2.1 rfl hl (by decide) rfl (fun ls hl => ?_)
      exact ks_X0_shakeTree_63 C0 hKn x1 x2 v_10 x4 eW dO nG H locs ls hp hP hD hS (lv_sub hl [1, 2, 3, 0, 4] rfl)
set_option maxHeartbeats 4000000 in
set_option maxRecDepth 100000 in
theorem kb_X0_shakeTree_29 (C0 : gc cX0_shakeTree (some .int) 5 RX0 (dC, dI) (tyl cI cC cZ cB cJ) A p s m args meth c) : ∀ (n : Nat), ∀ (x1 x2 x3 x4 eW dO nG : Int32) (H : Heap) (locs : List Loc) (ls : Array Slot), (wb_X0_shakeTree_29 post bZ wD gF qA nJ nY dQ jC eO fJ fY jD n) x1 x2 x3 x4 eW dO nG → va_P (dC, dI) classes (wd_X0_shakeTree cI cC cZ cB cJ wY wJ wQ xH tX jE mX pD oO oQ eG bZ bD bI aI wD gF qA nJ nY dQ jC eO eW dO fJ fY jD nG) H → va_D A (wd_X0_shakeTree cI cC cZ cB cJ wY wJ wQ xH tX jE mX pD oO oQ eG bZ bD bI aI wD gF qA nJ nY dQ jC eO eW dO fJ fY jD nG) → va_S A s.heap H locs → lv_has ls 5 [(0, .ref wY), (1, .int x1), (2, .int x2), (3, .int x3), (4, .int x4)] → W p l e rm_X0_shakeTree s m args below meth c H locs 0 0 (MQ below (q_X0_shakeTree dC dI cI cC cZ cB cJ A wY wJ wQ xH tX jE mX pD oO oQ eG bZ bD bI aI wD gF qA nJ nY dQ jC eO fJ fY jD post) args s 0 0 A) (F0 m 29 ls []) := by
  intro n
  induction n with
  | zero =>
    intro x1 x2 x3 x4 eW dO nG H locs ls hp
    exact False.elim hp
  | succ n ih =>
    intro x1 x2 x3 x4 eW dO nG H locs ls hp
    exact ks_X0_shakeTree_29 C0 ih x1 x2 x3 x4 eW dO nG H locs ls hp
end S_X0_shakeTree
noncomputable def wp_X0_shakeTree (post : Int32 → Int32 → Int32 → Int32 → Prop) (bZ : Int32) (wD gF qA nJ nY dQ : Nat → Int32) (jC eO eW dO fJ fY jD nG : Int32) : Prop := (¬ fJ = (-1) → wp_X0_hanging (fun r_1 => wp_X0_readyHere (fun r_2 => ∃ n : Nat, wb_X0_shakeTree_29 post bZ wD gF qA nJ nY dQ jC eO fJ fY jD n r_1 r_2 r_2 0 eW dO nG) bZ wD gF qA nJ nY dQ jC eO eW fJ fY jD) bZ jC eO eW) ∧ (fJ = (-1) → post (-2) eW dO nG)
set_option maxHeartbeats 4000000 in
set_option maxRecDepth 100000 in
theorem c_X0_shakeTree (l : Launch) (dC : Nat → ClassId) (dI : Nat → Nat → Nat) (cI cC cZ cB cJ : ClassId) (wY wJ wQ xH tX jE mX pD oO oQ eG sz : Nat) (bZ bD bI aI : Int32) (wD gF qA nJ nY dQ : Nat → Int32) (jC eO eW dO fJ fY jD nG : Int32) (post : Int32 → Int32 → Int32 → Int32 → Prop) (hw : wp_X0_shakeTree post bZ wD gF qA nJ nY dQ jC eO eW dO fJ fY jD nG) : Met l yX0_shakeTree (gw yX0_shakeTree cX0_shakeTree 5 (some .int)) rm_X0_shakeTree (va_Pc [.ref wY] (gPre (dC, dI) (tyl cI cC cZ cB cJ) (wd_X0_shakeTree cI cC cZ cB cJ wY wJ wQ xH tX jE mX pD oO oQ eG bZ bD bI aI wD gF qA nJ nY dQ jC eO eW dO fJ fY jD nG) sz)) (q_X0_shakeTree dC dI cI cC cZ cB cJ (va_A (wd_X0_shakeTree cI cC cZ cB cJ wY wJ wQ xH tX jE mX pD oO oQ eG bZ bD bI aI wD gF qA nJ nY dQ jC eO eW dO fJ fY jD nG) sz) wY wJ wQ xH tX jE mX pD oO oQ eG bZ bD bI aI wD gF qA nJ nY dQ jC eO fJ fY jD post) 0 0 (va_A (wd_X0_shakeTree cI cC cZ cB cJ wY wJ wQ xH tX jE mX pD oO oQ eG bZ bD bI aI wD gF qA nJ nY dQ jC eO eW dO fJ fY jD nG) sz) := by
  refine g_enter (own := RX0) (dC, dI) (tyl cI cC cZ cB cJ) (wd_X0_shakeTree cI cC cZ cB cJ wY wJ wQ xH tX jE mX pD oO oQ eG bZ bD bI aI wD gF qA nJ nY dQ jC eO eW dO fJ fY jD nG) sz [.ref wY] (fun A => q_X0_shakeTree dC dI cI cC cZ cB cJ A wY wJ wQ xH tX jE mX pD oO oQ eG bZ bD bI aI wD gF qA nJ nY dQ jC eO fJ fY jD post) pn_RX0 rfl (Nat.le_of_ble_eq_true rfl) ?_
  intro p e s m args below meth c A H locs ls C0 hP hD hS hl
  have hl : lv_has ls 5 [(0, .ref wY)] := hl
  obtain ⟨hx, hb, hr, hml, hown, hts, hlocks, hA, hK, hN, tL, tM, hZL, hTL, hZM, hTM, hZX⟩ := id C0
  have hp := hw
  unfold wp_X0_shakeTree at hp
  refine lv_aload_n hx hb eX0_shakeTree_0.1 rfl (lv_at hl 0 rfl) ?_
  refine va_get (D := (dC, dI)) (ci := 0) (v := .ref wQ) (C := RX0) (T := TX0) (N := 3) hx hb hts i_X0 hown hK hP 0 rfl rfl 1 (Nat.le_of_ble_eq_true rfl) (hts _ q_161) (fun _ h9 => h9) rfl eX0_shakeTree_0.2.1 ?_
  refine va_get (D := (dC, dI)) (ci := 2) (v := .int fJ) (C := RX2) (T := TX2) (N := 8) hx hb hts i_X2 hown hK hP 8 rfl rfl 4 (Nat.le_of_ble_eq_true rfl) (hts _ q_228) (fun _ h9 => h9) rfl eX0_shakeTree_0.2.2.1 ?_
  refine lv_iconst (v := (-1)) hx hb eX0_shakeTree_0.2.2.2.1 ic_m1 ?_
  refine lv_icmp_ne (tgt := 14) hx hb eX0_shakeTree_0.2.2.2.2.1 (by decide) (fun hc => ?_) (fun hc => ?_)
  · have hp := hp.1 hc
    refine lv_aload_n hx hb eX0_shakeTree_0.2.2.2.2.2.2.2.1 rfl (lv_at hl 0 rfl) ?_
    have hm := mgk (wc := (wd_X0_hanging cI cC cZ cB cJ wY wJ wQ xH tX jE mX pD oO oQ eG bZ bD bI aI jC eO eW dO fJ fY jD nG)) hP mk_73 9 rfl rfl rfl
    refine g_calli hP hD hS hA (mixT mk_73) (mixF mk_73) hm.1 hm.2 (nd_F _) (dis_g _) (g_runV (As := []) (rest := []) C0 hP hD hS (mixT mk_73) hm.1 (nd_T _) 0 0 rfl rfl (c_X0_hanging l dC dI cI cC cZ cB cJ wY wJ wQ xH tX jE mX pD oO oQ eG H.size bZ bD bI aI jC eO eW dO fJ fY jD nG _ hp) q_186 q_309 q_188 q_189 q_187 h_X0_hanging rfl rfl ⟨Nat.le_of_ble_eq_true rfl, Nat.le_of_ble_eq_true rfl⟩ rfl rfl hl.1 rfl (lv_room (Nat.le_of_ble_eq_true rfl)) eX0_shakeTree_0.2.2.2.2.2.2.2.2.1 ⟨Nat.zero_le _, Nat.zero_le _⟩) (fun r_1 u H locs hp hP hD hS => ?_)
    have hPD := PDm (ws' := (wd_X0_shakeTree cI cC cZ cB cJ wY wJ wQ xH tX jE mX pD oO oQ eG bZ bD bI aI wD gF qA nJ nY dQ jC eO eW dO fJ fY jD nG)) hP hD 9 rfl rfl rfl
    have hP := hPD.1
    have hD := hPD.2
    refine lv_istore_n (lv' := [(1, .int r_1), (0, .ref wY)]) hx hb eX0_shakeTree_0.2.2.2.2.2.2.2.2.2.1 rfl hl (by decide) rfl (fun ls hl => ?_)
    refine lv_aload_n hx hb eX0_shakeTree_0.2.2.2.2.2.2.2.2.2.2.1 rfl (lv_at hl 1 rfl) ?_
    have hm := mgk (wc := (wd_X0_readyHere cI cC cZ cB cJ wY wJ wQ xH tX jE mX pD oO oQ eG bZ bD bI aI wD gF qA nJ nY dQ jC eO eW dO fJ fY jD nG)) hP mk_9 9 rfl rfl rfl
    refine g_calli hP hD hS hA (mixT mk_9) (mixF mk_9) hm.1 hm.2 (nd_F _) (dis_g _) (g_runV (As := []) (rest := []) C0 hP hD hS (mixT mk_9) hm.1 (nd_T _) 0 0 rfl rfl (c_X0_readyHere l dC dI cI cC cZ cB cJ wY wJ wQ xH tX jE mX pD oO oQ eG H.size bZ bD bI aI wD gF qA nJ nY dQ jC eO eW dO fJ fY jD nG _ hp) q_347 q_350 q_348 q_349 q_187 h_X0_readyHere rfl rfl ⟨Nat.le_of_ble_eq_true rfl, Nat.le_of_ble_eq_true rfl⟩ rfl rfl hl.1 rfl (lv_room (Nat.le_of_ble_eq_true rfl)) eX0_shakeTree_0.2.2.2.2.2.2.2.2.2.2.2.1 ⟨Nat.zero_le _, Nat.zero_le _⟩) (fun r_2 u H locs hp hP hD hS => ?_)
    have hPD := PDm (ws' := (wd_X0_shakeTree cI cC cZ cB cJ wY wJ wQ xH tX jE mX pD oO oQ eG bZ bD bI aI wD gF qA nJ nY dQ jC eO eW dO fJ fY jD nG)) hP hD 9 rfl rfl rfl
    have hP := hPD.1
    have hD := hPD.2
    refine lv_istore_n (lv' := [(2, .int r_2), (1, .int r_1), (0, .ref wY)]) hx hb eX0_shakeTree_0.2.2.2.2.2.2.2.2.2.2.2.2.1 rfl hl (by decide) rfl (fun ls hl => ?_)
    refine lv_iload_n hx hb eX0_shakeTree_0.2.2.2.2.2.2.2.2.2.2.2.2.2.1 rfl (lv_at hl 0 rfl) ?_
    refine lv_istore_n (lv' := [(3, .int r_2), (2, .int r_2), (1, .int r_1), (0, .ref wY)]) hx hb eX0_shakeTree_0.2.2.2.2.2.2.2.2.2.2.2.2.2.2.1 rfl hl (by decide) rfl (fun ls hl => ?_)
    refine lv_iconst (v := 0) hx hb eX0_shakeTree_0.2.2.2.2.2.2.2.2.2.2.2.2.2.2.2 ic_0 ?_
    refine lv_istore (lv' := [(4, .int 0), (3, .int r_2), (2, .int r_2), (1, .int r_1), (0, .ref wY)]) hx hb eX0_shakeTree_27.1 hl (by decide) rfl (fun ls hl => ?_)
    obtain ⟨n9, hp⟩ := hp
    exact kb_X0_shakeTree_29 C0 n9 r_1 r_2 r_2 0 eW dO nG H locs ls hp hP hD hS (lv_sub hl [4, 3, 2, 1, 0] rfl)
  · have hp := hp.2 hc
    refine lv_bipush (v := (-2)) hx hb eX0_shakeTree_0.2.2.2.2.2.1 bp_m2 ?_
    exact W.iret (v := (-2)) hx hb hr (fun t ht hW => ⟨⟨(-2), (eW, dO, nG), rfl, hp, by rw [ht]; exact hP, va_K.moved hW.alike hK, hD⟩, hS.F ht⟩) hS.2.2 eX0_shakeTree_0.2.2.2.2.2.2.1
noncomputable abbrev wd_X9_shake (cI cC cZ cB cJ : ClassId) (a_x xG xD wY wJ wQ xI xK xJ tW xH tX jE mX pD oO oQ eG vX uO vQ : Nat) (bZ bD bI aI : Int32) (wD gF qA nJ nY dQ : Nat → Int32) (jC eO eW dO fJ fY jD nG oE uF : Int32) (sG : Nat → Int32) : va_W := [(a_x, .inr (9, [.ref xG, .ref xD, .ref wY, .ref wJ, .ref wQ, .ref xI, .ref xK, .ref xJ, .ref tW])), (wY, .inr (0, [.ref wJ, .ref wQ, .ref xH])), (wJ, .inr (3, [.ref tX, .ref jE, .ref mX, .ref pD, .ref oO, .ref oQ, .ref eG, .int bZ, .int bD, .int bI, .int aI])), (tX, .inl (cI, 16, .inl wD)), (jE, .inl (cI, 16, .inl gF)), (pD, .inl (cI, 16, .inl qA)), (oO, .inl (cI, 8, .inl nJ)), (oQ, .inl (cI, 8, .inl nY)), (eG, .inl (cI, 5, .inl dQ)), (wQ, .inr (2, [.int jC, .int eO, .int eW, .int dO, .int fJ, .int fY, .int jD, .int nG])), (xI, .inr (4, [.ref vX, .ref uO, .ref vQ, .int oE, .int uF])), (vX, .inl (cI, 104, .inl sG))]
noncomputable abbrev q_X9_shake (dC : Nat → ClassId) (dI : Nat → Nat → Nat) (cI cC cZ cB cJ : ClassId) (A : Nat → Prop) (a_x xG xD wY wJ wQ xI xK xJ tW xH tX jE mX pD oO oQ eG vX uO vQ : Nat) (bZ bD bI aI : Int32) (wD gF qA nJ nY dQ : Nat → Int32) (jC eO fJ fY jD : Int32) (post : Int32 → Int32 → Int32 → Int32 → Int32 → Int32 → (Nat → Int32) → Prop) : Array Value → State → Outcome → State → Prop := va_Qi (fun (r : Int32) (u : Int32 × Int32 × Int32 × Int32 × Int32 × (Nat → Int32)) => post r u.1 u.2.1 u.2.2.1 u.2.2.2.1 u.2.2.2.2.1 u.2.2.2.2.2) (fun u t => gB (dC, dI) (tyl cI cC cZ cB cJ) A (wd_X9_shake cI cC cZ cB cJ a_x xG xD wY wJ wQ xI xK xJ tW xH tX jE mX pD oO oQ eG vX uO vQ bZ bD bI aI wD gF qA nJ nY dQ jC eO u.1 u.2.1 fJ fY jD u.2.2.1 u.2.2.2.1 u.2.2.2.2.1 u.2.2.2.2.2) t) A
noncomputable abbrev rm_X9_shake : Room := { frames := 5, cells := 0, slots := 0, locals := 116 }
noncomputable def wp_X9_shake (post : Int32 → Int32 → Int32 → Int32 → Int32 → Int32 → (Nat → Int32) → Prop) (bZ : Int32) (wD gF qA nJ nY dQ : Nat → Int32) (jC eO eW dO fJ fY jD nG oE uF : Int32) (sG : Nat → Int32) : Prop := wp_X4_note (fun yP => wp_X0_shakeTree (fun r_2 aDx aAS zI => wp_X9_holdIfDone (fun r_6 aCh aLd => post r_6 aDx aAS zI aCh aLd yP) r_2 oE uF) bZ wD gF qA nJ nY dQ jC eO eW dO fJ fY jD nG) jC eO eW dO fJ fY jD nG uF sG
set_option maxHeartbeats 4000000 in
set_option maxRecDepth 100000 in
theorem c_X9_shake (l : Launch) (dC : Nat → ClassId) (dI : Nat → Nat → Nat) (cI cC cZ cB cJ : ClassId) (a_x xG xD wY wJ wQ xI xK xJ tW xH tX jE mX pD oO oQ eG vX uO vQ sz : Nat) (bZ bD bI aI : Int32) (wD gF qA nJ nY dQ : Nat → Int32) (jC eO eW dO fJ fY jD nG oE uF : Int32) (sG : Nat → Int32) (post : Int32 → Int32 → Int32 → Int32 → Int32 → Int32 → (Nat → Int32) → Prop) (hw : wp_X9_shake post bZ wD gF qA nJ nY dQ jC eO eW dO fJ fY jD nG oE uF sG) : Met l yX9_shake (gw yX9_shake cX9_shake 1 (some .int)) rm_X9_shake (va_Pc [.ref a_x] (gPre (dC, dI) (tyl cI cC cZ cB cJ) (wd_X9_shake cI cC cZ cB cJ a_x xG xD wY wJ wQ xI xK xJ tW xH tX jE mX pD oO oQ eG vX uO vQ bZ bD bI aI wD gF qA nJ nY dQ jC eO eW dO fJ fY jD nG oE uF sG) sz)) (q_X9_shake dC dI cI cC cZ cB cJ (va_A (wd_X9_shake cI cC cZ cB cJ a_x xG xD wY wJ wQ xI xK xJ tW xH tX jE mX pD oO oQ eG vX uO vQ bZ bD bI aI wD gF qA nJ nY dQ jC eO eW dO fJ fY jD nG oE uF sG) sz) a_x xG xD wY wJ wQ xI xK xJ tW xH tX jE mX pD oO oQ eG vX uO vQ bZ bD bI aI wD gF qA nJ nY dQ jC eO fJ fY jD post) 0 0 (va_A (wd_X9_shake cI cC cZ cB cJ a_x xG xD wY wJ wQ xI xK xJ tW xH tX jE mX pD oO oQ eG vX uO vQ bZ bD bI aI wD gF qA nJ nY dQ jC eO eW dO fJ fY jD nG oE uF sG) sz) := by
  refine g_enter (own := RX9) (dC, dI) (tyl cI cC cZ cB cJ) (wd_X9_shake cI cC cZ cB cJ a_x xG xD wY wJ wQ xI xK xJ tW xH tX jE mX pD oO oQ eG vX uO vQ bZ bD bI aI wD gF qA nJ nY dQ jC eO eW dO fJ fY jD nG oE uF sG) sz [.ref a_x] (fun A => q_X9_shake dC dI cI cC cZ cB cJ A a_x xG xD wY wJ wQ xI xK xJ tW xH tX jE mX pD oO oQ eG vX uO vQ bZ bD bI aI wD gF qA nJ nY dQ jC eO fJ fY jD post) pn_RX9 rfl (Nat.le_of_ble_eq_true rfl) ?_
  intro p e s m args below meth c A H locs ls C0 hP hD hS hl
  have hl : lv_has ls 1 [(0, .ref a_x)] := hl
  obtain ⟨hx, hb, hr, hml, hown, hts, hlocks, hA, hK, hN, tL, tM, hZL, hTL, hZM, hTM, hZX⟩ := id C0
  have hp := hw
  unfold wp_X9_shake at hp
  refine lv_aload_n hx hb eX9_shake_0.1 rfl (lv_at hl 0 rfl) ?_
  refine va_get (D := (dC, dI)) (ci := 9) (v := .ref xI) (C := RX9) (T := TX9) (N := 9) hx hb hts i_X9 hown hK hP 0 rfl rfl 5 (Nat.le_of_ble_eq_true rfl) (hts _ q_91) (fun _ h9 => h9) rfl eX9_shake_0.2.1 ?_
  refine lv_aload_n hx hb eX9_shake_0.2.2.1 rfl (lv_at hl 0 rfl) ?_
  refine va_get (D := (dC, dI)) (ci := 9) (v := .ref wQ) (C := RX9) (T := TX9) (N := 9) hx hb hts i_X9 hown hK hP 0 rfl rfl 4 (Nat.le_of_ble_eq_true rfl) (hts _ q_179) (fun _ h9 => h9) rfl eX9_shake_0.2.2.2.1 ?_
  have hm := mgk (wc := (wd_X4_note cI cC cZ cB cJ wQ xI vX uO vQ jC eO eW dO fJ fY jD nG oE uF sG)) hP mk_78 12 rfl rfl rfl
  refine g_callv hP hD hS hA (mixT mk_78) (mixF mk_78) hm.1 hm.2 (nd_F _) (dis_g _) (g_runV (As := [.ref wQ]) (rest := []) C0 hP hD hS (mixT mk_78) hm.1 (nd_T _) 10 4 rfl rfl (c_X4_note l dC dI cI cC cZ cB cJ wQ xI vX uO vQ H.size jC eO eW dO fJ fY jD nG oE uF sG _ hp) q_247 q_250 q_248 q_249 q_93 h_X4_note rfl rfl ⟨Nat.le_of_ble_eq_true rfl, Nat.le_of_ble_eq_true rfl⟩ rfl rfl hl.1 rfl (lv_room (Nat.le_of_ble_eq_true rfl)) eX9_shake_0.2.2.2.2.1 ⟨Nat.zero_le _, Nat.zero_le _⟩) (fun u H locs hp hP hD hS => ?_)
  obtain ⟨yP, rfl⟩ : ∃ z, z = u := ⟨_, rfl⟩
  have hPD := PDm (ws' := (wd_X9_shake cI cC cZ cB cJ a_x xG xD wY wJ wQ xI xK xJ tW xH tX jE mX pD oO oQ eG vX uO vQ bZ bD bI aI wD gF qA nJ nY dQ jC eO eW dO fJ fY jD nG oE uF yP)) hP hD 12 rfl rfl rfl
  have hP := hPD.1
  have hD := hPD.2
  refine lv_aload_n hx hb eX9_shake_0.2.2.2.2.2.1 rfl (lv_at hl 0 rfl) ?_
  refine lv_aload_n hx hb eX9_shake_0.2.2.2.2.2.2.1 rfl (lv_at hl 0 rfl) ?_
  refine va_get (D := (dC, dI)) (ci := 9) (v := .ref wY) (C := RX9) (T := TX9) (N := 9) hx hb hts i_X9 hown hK hP 0 rfl rfl 2 (Nat.le_of_ble_eq_true rfl) (hts _ q_146) (fun _ h9 => h9) rfl eX9_shake_0.2.2.2.2.2.2.2.1 ?_
  have hm := mgk (wc := (wd_X0_shakeTree cI cC cZ cB cJ wY wJ wQ xH tX jE mX pD oO oQ eG bZ bD bI aI wD gF qA nJ nY dQ jC eO eW dO fJ fY jD nG)) hP mk_13 12 rfl rfl rfl
  refine g_calli hP hD hS hA (mixT mk_13) (mixF mk_13) hm.1 hm.2 (nd_F _) (dis_g _) (g_runV (As := []) (rest := [.ref a_x]) C0 hP hD hS (mixT mk_13) hm.1 (nd_T _) 1 0 rfl rfl (c_X0_shakeTree l dC dI cI cC cZ cB cJ wY wJ wQ xH tX jE mX pD oO oQ eG H.size bZ bD bI aI wD gF qA nJ nY dQ jC eO eW dO fJ fY jD nG _ hp) q_352 q_355 q_353 q_354 q_187 h_X0_shakeTree rfl rfl ⟨Nat.le_of_ble_eq_true rfl, Nat.le_of_ble_eq_true rfl⟩ rfl rfl hl.1 rfl (lv_room (Nat.le_of_ble_eq_true rfl)) eX9_shake_0.2.2.2.2.2.2.2.2.1 ⟨Nat.zero_le _, Nat.zero_le _⟩) (fun r_2 u H locs hp hP hD hS => ?_)
  obtain ⟨aDx, aAS, zI⟩ := u
  have hPD := PDm (ws' := (wd_X9_shake cI cC cZ cB cJ a_x xG xD wY wJ wQ xI xK xJ tW xH tX jE mX pD oO oQ eG vX uO vQ bZ bD bI aI wD gF qA nJ nY dQ jC eO aDx aAS fJ fY jD zI oE uF yP)) hP hD 12 rfl rfl rfl
  have hP := hPD.1
  have hD := hPD.2
  have hm := mgk (wc := (wd_X9_holdIfDone cI cC cZ cB cJ a_x xG xD wY wJ wQ xI xK xJ tW vX uO vQ oE uF)) hP mk_79 12 rfl rfl rfl
  refine g_calli hP hD hS hA (mixT mk_79) (mixF mk_79) hm.1 hm.2 (nd_F _) (dis_g _) (g_runV (As := [.int r_2]) (rest := []) C0 hP hD hS (mixT mk_79) hm.1 (nd_T _) 0 9 rfl rfl (c_X9_holdIfDone l dC dI cI cC cZ cB cJ a_x xG xD wY wJ wQ xI xK xJ tW vX uO vQ H.size r_2 oE uF _ hp) q_255 q_259 q_257 q_258 q_256 h_X9_holdIfDone rfl rfl ⟨Nat.le_of_ble_eq_true rfl, Nat.le_of_ble_eq_true rfl⟩ rfl rfl hl.1 rfl (lv_room (Nat.le_of_ble_eq_true rfl)) eX9_shake_0.2.2.2.2.2.2.2.2.2.1 ⟨Nat.zero_le _, Nat.zero_le _⟩) (fun r_6 u H locs hp hP hD hS => ?_)
  obtain ⟨aCh, aLd⟩ := u
  have hPD := PDm (ws' := (wd_X9_shake cI cC cZ cB cJ a_x xG xD wY wJ wQ xI xK xJ tW xH tX jE mX pD oO oQ eG vX uO vQ bZ bD bI aI wD gF qA nJ nY dQ jC eO aDx aAS fJ fY jD zI aCh aLd yP)) hP hD 12 rfl rfl rfl
  have hP := hPD.1
  have hD := hPD.2
  exact W.iret (v := r_6) hx hb hr (fun t ht hW => ⟨⟨r_6, (aDx, aAS, zI, aCh, aLd, yP), rfl, hp, by rw [ht]; exact hP, va_K.moved hW.alike hK, hD⟩, hS.F ht⟩) hS.2.2 eX9_shake_0.2.2.2.2.2.2.2.2.2.2
noncomputable abbrev wd_X0_sleepOver (cI cC cZ cB cJ : ClassId) (wY wJ wQ xH : Nat) (jC eO eW dO fJ fY jD nG : Int32) : va_W := [(wY, .inr (0, [.ref wJ, .ref wQ, .ref xH])), (wQ, .inr (2, [.int jC, .int eO, .int eW, .int dO, .int fJ, .int fY, .int jD, .int nG]))]
noncomputable abbrev q_X0_sleepOver (dC : Nat → ClassId) (dI : Nat → Nat → Nat) (cI cC cZ cB cJ : ClassId) (A : Nat → Prop) (wY wJ wQ xH : Nat) (eW dO fY : Int32) (post : Int32 → Int32 → Int32 → Int32 → Int32 → Int32 → Prop) : Array Value → State → Outcome → State → Prop := va_Qi (fun (r : Int32) (u : Int32 × Int32 × Int32 × Int32 × Int32) => post r u.1 u.2.1 u.2.2.1 u.2.2.2.1 u.2.2.2.2) (fun u t => gB (dC, dI) (tyl cI cC cZ cB cJ) A (wd_X0_sleepOver cI cC cZ cB cJ wY wJ wQ xH u.1 u.2.1 eW dO u.2.2.1 fY u.2.2.2.1 u.2.2.2.2) t) A
noncomputable abbrev rm_X0_sleepOver : Room := { frames := 1, cells := 0, slots := 0, locals := 20 }
noncomputable def wp_X0_sleepOver (post : Int32 → Int32 → Int32 → Int32 → Int32 → Int32 → Prop) (jC eO fJ jD nG : Int32) : Prop := (jD < 9 → ∀ v_1 : Int32, v_1 = jD + 1 → wp_X2_emptyApron (fun aAm zY => post v_1 aAm zY (-1) v_1 0) jC eO) ∧ (¬ jD < 9 → post (-1) jC eO fJ jD nG)
set_option maxHeartbeats 4000000 in
set_option maxRecDepth 100000 in
theorem c_X0_sleepOver (l : Launch) (dC : Nat → ClassId) (dI : Nat → Nat → Nat) (cI cC cZ cB cJ : ClassId) (wY wJ wQ xH sz : Nat) (jC eO eW dO fJ fY jD nG : Int32) (post : Int32 → Int32 → Int32 → Int32 → Int32 → Int32 → Prop) (hw : wp_X0_sleepOver post jC eO fJ jD nG) : Met l yX0_sleepOver (gw yX0_sleepOver cX0_sleepOver 1 (some .int)) rm_X0_sleepOver (va_Pc [.ref wY] (gPre (dC, dI) (tyl cI cC cZ cB cJ) (wd_X0_sleepOver cI cC cZ cB cJ wY wJ wQ xH jC eO eW dO fJ fY jD nG) sz)) (q_X0_sleepOver dC dI cI cC cZ cB cJ (va_A (wd_X0_sleepOver cI cC cZ cB cJ wY wJ wQ xH jC eO eW dO fJ fY jD nG) sz) wY wJ wQ xH eW dO fY post) 0 0 (va_A (wd_X0_sleepOver cI cC cZ cB cJ wY wJ wQ xH jC eO eW dO fJ fY jD nG) sz) := by
  refine g_enter (own := RX0) (dC, dI) (tyl cI cC cZ cB cJ) (wd_X0_sleepOver cI cC cZ cB cJ wY wJ wQ xH jC eO eW dO fJ fY jD nG) sz [.ref wY] (fun A => q_X0_sleepOver dC dI cI cC cZ cB cJ A wY wJ wQ xH eW dO fY post) pn_RX0 rfl (Nat.le_of_ble_eq_true rfl) ?_
  intro p e s m args below meth c A H locs ls C0 hP hD hS hl
  have hl : lv_has ls 1 [(0, .ref wY)] := hl
  obtain ⟨hx, hb, hr, hml, hown, hts, hlocks, hA, hK, hN, tL, tM, hZL, hTL, hZM, hTM, hZX⟩ := id C0
  have hp := hw
  unfold wp_X0_sleepOver at hp
  refine lv_aload_n hx hb eX0_sleepOver_0.1 rfl (lv_at hl 0 rfl) ?_
  refine va_get (D := (dC, dI)) (ci := 0) (v := .ref wQ) (C := RX0) (T := TX0) (N := 3) hx hb hts i_X0 hown hK hP 0 rfl rfl 1 (Nat.le_of_ble_eq_true rfl) (hts _ q_161) (fun _ h9 => h9) rfl eX0_sleepOver_0.2.1 ?_
  refine va_get (D := (dC, dI)) (ci := 2) (v := .int jD) (C := RX2) (T := TX2) (N := 8) hx hb hts i_X2 hown hK hP 1 rfl rfl 6 (Nat.le_of_ble_eq_true rfl) (hts _ q_311) (fun _ h9 => h9) rfl eX0_sleepOver_0.2.2.1 ?_
  refine lv_bipush (v := 9) hx hb eX0_sleepOver_0.2.2.2.1 bp_9 ?_
  refine lv_icmp_lt (tgt := 14) hx hb eX0_sleepOver_0.2.2.2.2.1 (by decide) (fun hc => ?_) (fun hc => ?_)
  · have hp := hp.1 hc
    refine lv_aload_n hx hb eX0_sleepOver_0.2.2.2.2.2.2.2.1 rfl (lv_at hl 0 rfl) ?_
    refine va_get (D := (dC, dI)) (ci := 0) (v := .ref wQ) (C := RX0) (T := TX0) (N := 3) hx hb hts i_X0 hown hK hP 0 rfl rfl 1 (Nat.le_of_ble_eq_true rfl) (hts _ q_161) (fun _ h9 => h9) rfl eX0_sleepOver_0.2.2.2.2.2.2.2.2.1 ?_
    refine lv_dup hx hb eX0_sleepOver_0.2.2.2.2.2.2.2.2.2.1 rfl ?_
    refine va_get (D := (dC, dI)) (ci := 2) (v := .int jD) (C := RX2) (T := TX2) (N := 8) hx hb hts i_X2 hown hK hP 1 rfl rfl 6 (Nat.le_of_ble_eq_true rfl) (hts _ q_311) (fun _ h9 => h9) rfl eX0_sleepOver_0.2.2.2.2.2.2.2.2.2.2.1 ?_
    refine lv_iconst (v := 1) hx hb eX0_sleepOver_0.2.2.2.2.2.2.2.2.2.2.2.1 ic_1 ?_
    refine lv_iadd hx hb eX0_sleepOver_0.2.2.2.2.2.2.2.2.2.2.2.2.1 ?_
    refine lv_topi (fun v_1 ev_1 => ?_)
    have hp := hp v_1 ev_1
    refine va_put (D := (dC, dI)) (ci := 2) (v := .int v_1) (ty := .int) (C := RX2) (T := TX2) (N := 8) hx hb hts i_X2 tyX2 tyX2_ok nmX2 hown hK hP hD hS 1 rfl rfl 6 (Nat.le_of_ble_eq_true rfl) (hts _ q_311) (fun _ h9 => h9) rfl (tyX2_ok 6 (Nat.le_of_ble_eq_true rfl)) rfl rfl (Nat.le_of_ble_eq_true rfl) eX0_sleepOver_0.2.2.2.2.2.2.2.2.2.2.2.2.2.1 (fun H locs hP hD hS => ?_)
    have hP : va_P (dC, dI) classes (wd_X0_sleepOver cI cC cZ cB cJ wY wJ wQ xH jC eO eW dO fJ fY v_1 nG) H := hP
    have hD : va_D A (wd_X0_sleepOver cI cC cZ cB cJ wY wJ wQ xH jC eO eW dO fJ fY v_1 nG) := hD
    refine lv_aload_n hx hb eX0_sleepOver_0.2.2.2.2.2.2.2.2.2.2.2.2.2.2.1 rfl (lv_at hl 0 rfl) ?_
    refine va_get (D := (dC, dI)) (ci := 0) (v := .ref wQ) (C := RX0) (T := TX0) (N := 3) hx hb hts i_X0 hown hK hP 0 rfl rfl 1 (Nat.le_of_ble_eq_true rfl) (hts _ q_161) (fun _ h9 => h9) rfl eX0_sleepOver_0.2.2.2.2.2.2.2.2.2.2.2.2.2.2.2 ?_
    refine lv_iconst (v := (-1)) hx hb eX0_sleepOver_31.1 ic_m1 ?_
    refine va_put (D := (dC, dI)) (ci := 2) (v := .int (-1)) (ty := .int) (C := RX2) (T := TX2) (N := 8) hx hb hts i_X2 tyX2 tyX2_ok nmX2 hown hK hP hD hS 1 rfl rfl 4 (Nat.le_of_ble_eq_true rfl) (hts _ q_228) (fun _ h9 => h9) rfl (tyX2_ok 4 (Nat.le_of_ble_eq_true rfl)) rfl rfl (Nat.le_of_ble_eq_true rfl) eX0_sleepOver_31.2.1 (fun H locs hP hD hS => ?_)
    have hP : va_P (dC, dI) classes (wd_X0_sleepOver cI cC cZ cB cJ wY wJ wQ xH jC eO eW dO (-1) fY v_1 nG) H := hP
    have hD : va_D A (wd_X0_sleepOver cI cC cZ cB cJ wY wJ wQ xH jC eO eW dO (-1) fY v_1 nG) := hD
    refine lv_aload_n hx hb eX0_sleepOver_31.2.2.1 rfl (lv_at hl 0 rfl) ?_
    refine va_get (D := (dC, dI)) (ci := 0) (v := .ref wQ) (C := RX0) (T := TX0) (N := 3) hx hb hts i_X0 hown hK hP 0 rfl rfl 1 (Nat.le_of_ble_eq_true rfl) (hts _ q_161) (fun _ h9 => h9) rfl eX0_sleepOver_31.2.2.2.1 ?_
    refine g_callv (wc := (wd_X2_emptyApron cI cC cZ cB cJ wQ jC eO eW dO (-1) fY v_1 nG)) hP hD hS hA [1] [0] rfl rfl rfl rfl (g_runV (As := []) (rest := []) C0 hP hD hS [1] rfl rfl 1 2 rfl rfl (c_X2_emptyApron l dC dI cI cC cZ cB cJ wQ H.size jC eO eW dO (-1) fY v_1 nG _ hp) q_233 q_236 q_234 q_235 q_181 h_X2_emptyApron rfl rfl ⟨Nat.le_of_ble_eq_true rfl, Nat.le_of_ble_eq_true rfl⟩ rfl rfl hl.1 rfl (lv_room (Nat.le_of_ble_eq_true rfl)) eX0_sleepOver_31.2.2.2.2.1 ⟨Nat.zero_le _, Nat.zero_le _⟩) (fun u H locs hp hP hD hS => ?_)
    obtain ⟨aAm, zY⟩ := u
    have hPD := PDs (ws' := (wd_X0_sleepOver cI cC cZ cB cJ wY wJ wQ xH aAm zY eW dO (-1) fY v_1 nG)) hP hD [0, 1] (by decide) rfl
    have hP := hPD.1
    have hD := hPD.2
    refine lv_aload_n hx hb eX0_sleepOver_31.2.2.2.2.2.1 rfl (lv_at hl 0 rfl) ?_
    refine va_get (D := (dC, dI)) (ci := 0) (v := .ref wQ) (C := RX0) (T := TX0) (N := 3) hx hb hts i_X0 hown hK hP 0 rfl rfl 1 (Nat.le_of_ble_eq_true rfl) (hts _ q_161) (fun _ h9 => h9) rfl eX0_sleepOver_31.2.2.2.2.2.2.1 ?_
    refine lv_iconst (v := 0) hx hb eX0_sleepOver_31.2.2.2.2.2.2.2.1 ic_0 ?_
    refine va_put (D := (dC, dI)) (ci := 2) (v := .int 0) (ty := .int) (C := RX2) (T := TX2) (N := 8) hx hb hts i_X2 tyX2 tyX2_ok nmX2 hown hK hP hD hS 1 rfl rfl 7 (Nat.le_of_ble_eq_true rfl) (hts _ q_356) (fun _ h9 => h9) rfl (tyX2_ok 7 (Nat.le_of_ble_eq_true rfl)) rfl rfl (Nat.le_of_ble_eq_true rfl) eX0_sleepOver_31.2.2.2.2.2.2.2.2.1 (fun H locs hP hD hS => ?_)
    have hP : va_P (dC, dI) classes (wd_X0_sleepOver cI cC cZ cB cJ wY wJ wQ xH aAm zY eW dO (-1) fY v_1 0) H := hP
    have hD : va_D A (wd_X0_sleepOver cI cC cZ cB cJ wY wJ wQ xH aAm zY eW dO (-1) fY v_1 0) := hD
    refine lv_aload_n hx hb eX0_sleepOver_31.2.2.2.2.2.2.2.2.2.1 rfl (lv_at hl 0 rfl) ?_
    refine va_get (D := (dC, dI)) (ci := 0) (v := .ref wQ) (C := RX0) (T := TX0) (N := 3) hx hb hts i_X0 hown hK hP 0 rfl rfl 1 (Nat.le_of_ble_eq_true rfl) (hts _ q_161) (fun _ h9 => h9) rfl eX0_sleepOver_31.2.2.2.2.2.2.2.2.2.2.1 ?_
    refine va_get (D := (dC, dI)) (ci := 2) (v := .int v_1) (C := RX2) (T := TX2) (N := 8) hx hb hts i_X2 hown hK hP 1 rfl rfl 6 (Nat.le_of_ble_eq_true rfl) (hts _ q_311) (fun _ h9 => h9) rfl eX0_sleepOver_31.2.2.2.2.2.2.2.2.2.2.2.1 ?_
    exact W.iret (v := v_1) hx hb hr (fun t ht hW => ⟨⟨v_1, (aAm, zY, (-1), v_1, 0), rfl, hp, by rw [ht]; exact hP, va_K.moved hW.alike hK, hD⟩, hS.F ht⟩) hS.2.2 eX0_sleepOver_31.2.2.2.2.2.2.2.2.2.2.2.2
  · have hp := hp.2 hc
    refine lv_iconst (v := (-1)) hx hb eX0_sleepOver_0.2.2.2.2.2.1 ic_m1 ?_
    exact W.iret (v := (-1)) hx hb hr (fun t ht hW => ⟨⟨(-1), (jC, eO, fJ, jD, nG), rfl, hp, by rw [ht]; exact hP, va_K.moved hW.alike hK, hD⟩, hS.F ht⟩) hS.2.2 eX0_sleepOver_0.2.2.2.2.2.2.1
