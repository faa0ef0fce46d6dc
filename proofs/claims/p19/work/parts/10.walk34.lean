noncomputable abbrev wd_X10_shake (cI cC cZ cB cJ : ClassId) (a_m oJ uD dY iJ lJ jQ jR jW jK pJ bM aY jO gR gY mK jZ iY bG mJ jB mQ lY eJ bY : Nat) (bW aG jG bQ dG : Int32) (jY : Nat) (m_length qG uW eY aJ aB bU dN aR aE bJ aW bT gJ dU bL bR bO mY pW : Int32) (rD m_x jA rW oY pR pX uQ : Nat → Int32) : va_W := [(a_m, .inr (10, [.ref oJ, .int bW, .ref uD, .ref dY, .ref iJ, .ref lJ, .int aG, .ref jQ, .ref jR, .ref jW, .ref jK, .int jG, .ref pJ, .int bQ, .int dG, rdv jK jO jY, .int m_length, .int qG, .int uW, .int eY, .ref bM, .ref aY, .int aJ, .int aB, .ref jO, .int bU, .int dN, .int aR, .int aE, .int bJ, .int aW, .ref gR, .int bT, .ref gY, .ref mK, .int gJ, .ref jZ, .int dU, .ref iY, .ref bG, .int bL, .int bR, .int bO, .ref mJ, .ref jB, .ref mQ, .int mY, .int pW, .ref lY, .ref eJ, .ref bY])), (oJ, .inl (cI, 21, .inl rD)), (uD, .inl (cI, 16, .inl m_x)), (dY, .inl (cI, 16, .inl jA)), (lJ, .inl (cI, 16, .inl rW)), (jQ, .inl (cI, 8, .inl oY)), (jR, .inl (cI, 8, .inl pR)), (jW, .inl (cI, 5, .inl pX)), (gR, .inl (cI, 252, .inl uQ))]
noncomputable abbrev q_X10_shake (dC : Nat → ClassId) (dI : Nat → Nat → Nat) (cI cC cZ cB cJ : ClassId) (A : Nat → Prop) (a_m oJ uD dY iJ lJ jQ jR jW jK pJ bM aY jO gR gY mK jZ iY bG mJ jB mQ lY eJ bY : Nat) (bW aG jG bQ : Int32) (jY : Nat) (m_length qG uW eY aJ aB bU dN aR aE bJ aW gJ dU bL bR bO mY pW : Int32) (m_x jA rW oY pR pX : Nat → Int32) (post : Int32 → Int32 → Int32 → (Nat → Int32) → (Nat → Int32) → Prop) : Array Value → State → Outcome → State → Prop := va_Qi (fun (r : Int32) (u : Int32 × Int32 × (Nat → Int32) × (Nat → Int32)) => post r u.1 u.2.1 u.2.2.1 u.2.2.2) (fun u t => gB (dC, dI) (tyl cI cC cZ cB cJ) A (wd_X10_shake cI cC cZ cB cJ a_m oJ uD dY iJ lJ jQ jR jW jK pJ bM aY jO gR gY mK jZ iY bG mJ jB mQ lY eJ bY bW aG jG bQ u.1 jY m_length qG uW eY aJ aB bU dN aR aE bJ aW u.2.1 gJ dU bL bR bO mY pW u.2.2.1 m_x jA rW oY pR pX u.2.2.2) t) A
noncomputable abbrev rm_X10_shake : Room := { frames := 6, cells := 0, slots := 0, locals := 135 }
noncomputable def wp_X10_shake (post : Int32 → Int32 → Int32 → (Nat → Int32) → (Nat → Int32) → Prop) (bW dG bT : Int32) (rD m_x jA rW oY pR pX uQ : Nat → Int32) : Prop := ∀ v_1 : Int32, v_1 = rD (17 : Int32).toNatClampNeg → (¬ v_1 = (-1) → wp_X10_remember (fun xZ zU => wp_X10_goShake (fun r_4 aBj => post r_4 0 xZ aBj zU) bW rD m_x jA rW oY pR pX) bT rD uQ) ∧ (v_1 = (-1) → post (-2) 0 bT rD uQ)
set_option maxHeartbeats 4000000 in
set_option maxRecDepth 100000 in
theorem c_X10_shake (l : Launch) (dC : Nat → ClassId) (dI : Nat → Nat → Nat) (cI cC cZ cB cJ : ClassId) (a_m oJ uD dY iJ lJ jQ jR jW jK pJ bM aY jO gR gY mK jZ iY bG mJ jB mQ lY eJ bY sz : Nat) (bW aG jG bQ dG : Int32) (jY : Nat) (m_length qG uW eY aJ aB bU dN aR aE bJ aW bT gJ dU bL bR bO mY pW : Int32) (rD m_x jA rW oY pR pX uQ : Nat → Int32) (post : Int32 → Int32 → Int32 → (Nat → Int32) → (Nat → Int32) → Prop) (hw : wp_X10_shake post bW dG bT rD m_x jA rW oY pR pX uQ) : Met l yX10_shake (gw yX10_shake cX10_shake 1 (some .int)) rm_X10_shake (va_Pc [.ref a_m] (gPre (dC, dI) (tyl cI cC cZ cB cJ) (wd_X10_shake cI cC cZ cB cJ a_m oJ uD dY iJ lJ jQ jR jW jK pJ bM aY jO gR gY mK jZ iY bG mJ jB mQ lY eJ bY bW aG jG bQ dG jY m_length qG uW eY aJ aB bU dN aR aE bJ aW bT gJ dU bL bR bO mY pW rD m_x jA rW oY pR pX uQ) sz)) (q_X10_shake dC dI cI cC cZ cB cJ (va_A (wd_X10_shake cI cC cZ cB cJ a_m oJ uD dY iJ lJ jQ jR jW jK pJ bM aY jO gR gY mK jZ iY bG mJ jB mQ lY eJ bY bW aG jG bQ dG jY m_length qG uW eY aJ aB bU dN aR aE bJ aW bT gJ dU bL bR bO mY pW rD m_x jA rW oY pR pX uQ) sz) a_m oJ uD dY iJ lJ jQ jR jW jK pJ bM aY jO gR gY mK jZ iY bG mJ jB mQ lY eJ bY bW aG jG bQ jY m_length qG uW eY aJ aB bU dN aR aE bJ aW gJ dU bL bR bO mY pW m_x jA rW oY pR pX post) 0 0 (va_A (wd_X10_shake cI cC cZ cB cJ a_m oJ uD dY iJ lJ jQ jR jW jK pJ bM aY jO gR gY mK jZ iY bG mJ jB mQ lY eJ bY bW aG jG bQ dG jY m_length qG uW eY aJ aB bU dN aR aE bJ aW bT gJ dU bL bR bO mY pW rD m_x jA rW oY pR pX uQ) sz) := by
  refine g_enter (own := RX10) (dC, dI) (tyl cI cC cZ cB cJ) (wd_X10_shake cI cC cZ cB cJ a_m oJ uD dY iJ lJ jQ jR jW jK pJ bM aY jO gR gY mK jZ iY bG mJ jB mQ lY eJ bY bW aG jG bQ dG jY m_length qG uW eY aJ aB bU dN aR aE bJ aW bT gJ dU bL bR bO mY pW rD m_x jA rW oY pR pX uQ) sz [.ref a_m] (fun A => q_X10_shake dC dI cI cC cZ cB cJ A a_m oJ uD dY iJ lJ jQ jR jW jK pJ bM aY jO gR gY mK jZ iY bG mJ jB mQ lY eJ bY bW aG jG bQ jY m_length qG uW eY aJ aB bU dN aR aE bJ aW gJ dU bL bR bO mY pW m_x jA rW oY pR pX post) pn_RX10 rfl (Nat.le_of_ble_eq_true rfl) ?_
  intro p e s m args below meth c A H locs ls C0 hP hD hS hl
  have hl : lv_has ls 1 [(0, .ref a_m)] := hl
  obtain ⟨hx, hb, hr, hml, hown, hts, hlocks, hA, hK, hN, tL, tM, hZL, hTL, hZM, hTM, hZX⟩ := id C0
  have hp := hw
  unfold wp_X10_shake at hp
  refine lv_aload_n hx hb eX10_shake_0.1 rfl (lv_at hl 0 rfl) ?_
  refine lv_iconst (v := 0) hx hb eX10_shake_0.2.1 ic_0 ?_
  refine va_put (D := (dC, dI)) (ci := 10) (v := .int 0) (ty := .int) (C := RX10) (T := TX10) (N := 51) hx hb hts i_X10 tyX10 tyX10_ok nmX10 hown hK hP hD hS 0 rfl rfl 14 (Nat.le_of_ble_eq_true rfl) (hts _ q_638) (fun _ h9 => h9) rfl (tyX10_ok 14 (Nat.le_of_ble_eq_true rfl)) rfl rfl (Nat.le_of_ble_eq_true rfl) eX10_shake_0.2.2.1 (fun H locs hP hD hS => ?_)
  have hP : va_P (dC, dI) classes (wd_X10_shake cI cC cZ cB cJ a_m oJ uD dY iJ lJ jQ jR jW jK pJ bM aY jO gR gY mK jZ iY bG mJ jB mQ lY eJ bY bW aG jG bQ 0 jY m_length qG uW eY aJ aB bU dN aR aE bJ aW bT gJ dU bL bR bO mY pW rD m_x jA rW oY pR pX uQ) H := hP
  have hD : va_D A (wd_X10_shake cI cC cZ cB cJ a_m oJ uD dY iJ lJ jQ jR jW jK pJ bM aY jO gR gY mK jZ iY bG mJ jB mQ lY eJ bY bW aG jG bQ 0 jY m_length qG uW eY aJ aB bU dN aR aE bJ aW bT gJ dU bL bR bO mY pW rD m_x jA rW oY pR pX uQ) := hD
  refine lv_aload_n hx hb eX10_shake_0.2.2.2.1 rfl (lv_at hl 0 rfl) ?_
  refine va_get (D := (dC, dI)) (ci := 10) (v := .ref oJ) (C := RX10) (T := TX10) (N := 51) hx hb hts i_X10 hown hK hP 0 rfl rfl 0 (Nat.le_of_ble_eq_true rfl) (hts _ q_692) (fun _ h9 => h9) rfl eX10_shake_0.2.2.2.2.1 ?_
  refine lv_bipush (v := 17) hx hb eX10_shake_0.2.2.2.2.2.1 bp_17 ?_
  refine va_iald hx hb hK hP 1 0 rfl rfl (g_in rfl) eX10_shake_0.2.2.2.2.2.2.1 ?_
  refine lv_topi (fun v_1 ev_1 => ?_)
  have hp := hp v_1 ev_1
  refine lv_iconst (v := (-1)) hx hb eX10_shake_0.2.2.2.2.2.2.2.1 ic_m1 ?_
  refine lv_icmp_ne (tgt := 19) hx hb eX10_shake_0.2.2.2.2.2.2.2.2.1 (by decide) (fun hc => ?_) (fun hc => ?_)
  · have hp := hp.1 hc
    refine lv_aload_n hx hb eX10_shake_0.2.2.2.2.2.2.2.2.2.2.2.1 rfl (lv_at hl 0 rfl) ?_
    refine lv_aload_n hx hb eX10_shake_0.2.2.2.2.2.2.2.2.2.2.2.2.1 rfl (lv_at hl 0 rfl) ?_
    refine va_get (D := (dC, dI)) (ci := 10) (v := .ref oJ) (C := RX10) (T := TX10) (N := 51) hx hb hts i_X10 hown hK hP 0 rfl rfl 0 (Nat.le_of_ble_eq_true rfl) (hts _ q_692) (fun _ h9 => h9) rfl eX10_shake_0.2.2.2.2.2.2.2.2.2.2.2.2.2.1 ?_
    have hm := mgk (wc := (wd_X10_remember cI cC cZ cB cJ a_m oJ uD dY iJ lJ jQ jR jW jK pJ bM aY jO gR gY mK jZ iY bG mJ jB mQ lY eJ bY bW aG jG bQ 0 jY m_length qG uW eY aJ aB bU dN aR aE bJ aW bT gJ dU bL bR bO mY pW rD uQ)) hP mk_73 9 rfl rfl rfl
    refine g_callv hP hD hS hA (mixT mk_73) (mixF mk_73) hm.1 hm.2 (nd_F _) (dis_g _) (g_runV (As := [.ref oJ]) (rest := []) C0 hP hD hS (mixT mk_73) hm.1 (nd_T _) 0 10 rfl rfl (c_X10_remember l dC dI cI cC cZ cB cJ a_m oJ uD dY iJ lJ jQ jR jW jK pJ bM aY jO gR gY mK jZ iY bG mJ jB mQ lY eJ bY H.size bW aG jG bQ 0 jY m_length qG uW eY aJ aB bU dN aR aE bJ aW bT gJ dU bL bR bO mY pW rD uQ _ hp) q_787 q_790 q_788 q_789 q_642 h_X10_remember rfl rfl ⟨Nat.le_of_ble_eq_true rfl, Nat.le_of_ble_eq_true rfl⟩ rfl rfl hl.1 rfl (lv_room (Nat.le_of_ble_eq_true rfl)) eX10_shake_0.2.2.2.2.2.2.2.2.2.2.2.2.2.2.1 ⟨Nat.zero_le _, Nat.zero_le _⟩) (fun u H locs hp hP hD hS => ?_)
    obtain ⟨xZ, zU⟩ := u
    have hPD := PDm (ws' := (wd_X10_shake cI cC cZ cB cJ a_m oJ uD dY iJ lJ jQ jR jW jK pJ bM aY jO gR gY mK jZ iY bG mJ jB mQ lY eJ bY bW aG jG bQ 0 jY m_length qG uW eY aJ aB bU dN aR aE bJ aW xZ gJ dU bL bR bO mY pW rD m_x jA rW oY pR pX zU)) hP hD 9 rfl rfl rfl
    have hP := hPD.1
    have hD := hPD.2
    refine lv_aload_n hx hb eX10_shake_0.2.2.2.2.2.2.2.2.2.2.2.2.2.2.2 rfl (lv_at hl 0 rfl) ?_
    have hm := mgk (wc := (wd_X10_goShake cI cC cZ cB cJ a_m oJ uD dY iJ lJ jQ jR jW jK pJ bM aY jO gR gY mK jZ iY bG mJ jB mQ lY eJ bY bW aG jG bQ 0 jY m_length qG uW eY aJ aB bU dN aR aE bJ aW xZ gJ dU bL bR bO mY pW rD m_x jA rW oY pR pX)) hP mk_227 9 rfl rfl rfl
    refine g_calli hP hD hS hA (mixT mk_227) (mixF mk_227) hm.1 hm.2 (nd_F _) (dis_g _) (g_runV (As := []) (rest := []) C0 hP hD hS (mixT mk_227) hm.1 (nd_T _) 0 10 rfl rfl (c_X10_goShake l dC dI cI cC cZ cB cJ a_m oJ uD dY iJ lJ jQ jR jW jK pJ bM aY jO gR gY mK jZ iY bG mJ jB mQ lY eJ bY H.size bW aG jG bQ 0 jY m_length qG uW eY aJ aB bU dN aR aE bJ aW xZ gJ dU bL bR bO mY pW rD m_x jA rW oY pR pX _ hp) q_836 q_839 q_837 q_838 q_642 h_X10_goShake rfl rfl ⟨Nat.le_of_ble_eq_true rfl, Nat.le_of_ble_eq_true rfl⟩ rfl rfl hl.1 rfl (lv_room (Nat.le_of_ble_eq_true rfl)) eX10_shake_28.1 ⟨Nat.zero_le _, Nat.zero_le _⟩) (fun r_4 u H locs hp hP hD hS => ?_)
    obtain ⟨aBj, rfl⟩ : ∃ z, z = u := ⟨_, rfl⟩
    have hPD := PDm (ws' := (wd_X10_shake cI cC cZ cB cJ a_m oJ uD dY iJ lJ jQ jR jW jK pJ bM aY jO gR gY mK jZ iY bG mJ jB mQ lY eJ bY bW aG jG bQ 0 jY m_length qG uW eY aJ aB bU dN aR aE bJ aW xZ gJ dU bL bR bO mY pW aBj m_x jA rW oY pR pX zU)) hP hD 9 rfl rfl rfl
    have hP := hPD.1
    have hD := hPD.2
    exact W.iret (v := r_4) hx hb hr (fun t ht hW => ⟨⟨r_4, (0, xZ, aBj, zU), rfl, hp, by rw [ht]; exact hP, va_K.moved hW.alike hK, hD⟩, hS.F ht⟩) hS.2.2 eX10_shake_28.2
  · have hp := hp.2 hc
    refine lv_bipush (v := (-2)) hx hb eX10_shake_0.2.2.2.2.2.2.2.2.2.1 bp_m2 ?_
    exact W.iret (v := (-2)) hx hb hr (fun t ht hW => ⟨⟨(-2), (0, bT, rD, uQ), rfl, hp, by rw [ht]; exact hP, va_K.moved hW.alike hK, hD⟩, hS.F ht⟩) hS.2.2 eX10_shake_0.2.2.2.2.2.2.2.2.2.2.1
noncomputable abbrev wd_X10_goSleep (cI cC cZ cB cJ : ClassId) (a_m oJ uD dY iJ lJ jQ jR jW jK pJ bM aY jO gR gY mK jZ iY bG mJ jB mQ lY eJ bY : Nat) (bW aG jG bQ dG : Int32) (jY : Nat) (m_length qG uW eY aJ aB bU dN aR aE bJ aW bT gJ dU bL bR bO mY pW : Int32) (rD : Nat → Int32) : va_W := [(a_m, .inr (10, [.ref oJ, .int bW, .ref uD, .ref dY, .ref iJ, .ref lJ, .int aG, .ref jQ, .ref jR, .ref jW, .ref jK, .int jG, .ref pJ, .int bQ, .int dG, rdv jK jO jY, .int m_length, .int qG, .int uW, .int eY, .ref bM, .ref aY, .int aJ, .int aB, .ref jO, .int bU, .int dN, .int aR, .int aE, .int bJ, .int aW, .ref gR, .int bT, .ref gY, .ref mK, .int gJ, .ref jZ, .int dU, .ref iY, .ref bG, .int bL, .int bR, .int bO, .ref mJ, .ref jB, .ref mQ, .int mY, .int pW, .ref lY, .ref eJ, .ref bY])), (oJ, .inl (cI, 21, .inl rD))]
noncomputable abbrev q_X10_goSleep (dC : Nat → ClassId) (dI : Nat → Nat → Nat) (cI cC cZ cB cJ : ClassId) (A : Nat → Prop) (a_m oJ uD dY iJ lJ jQ jR jW jK pJ bM aY jO gR gY mK jZ iY bG mJ jB mQ lY eJ bY : Nat) (bW aG jG bQ dG : Int32) (jY : Nat) (m_length qG uW eY aJ aB bU dN aR aE bJ aW bT gJ dU bL bR bO mY pW : Int32) (post : Int32 → (Nat → Int32) → Prop) : Array Value → State → Outcome → State → Prop := va_Qi (fun (r : Int32) (u : (Nat → Int32)) => post r u) (fun u t => gB (dC, dI) (tyl cI cC cZ cB cJ) A (wd_X10_goSleep cI cC cZ cB cJ a_m oJ uD dY iJ lJ jQ jR jW jK pJ bM aY jO gR gY mK jZ iY bG mJ jB mQ lY eJ bY bW aG jG bQ dG jY m_length qG uW eY aJ aB bU dN aR aE bJ aW bT gJ dU bL bR bO mY pW u) t) A
noncomputable abbrev rm_X10_goSleep : Room := { frames := 1, cells := 0, slots := 0, locals := 22 }
noncomputable def wp_X10_goSleep (post : Int32 → (Nat → Int32) → Prop) (bW : Int32) (rD : Nat → Int32) : Prop := wp_X10_empty (fun r_1 m_now_2 => ∀ v_3 : Int32, v_3 = (upd (upd m_now_2 (17 : Int32).toNatClampNeg (-1)) (20 : Int32).toNatClampNeg 0) (19 : Int32).toNatClampNeg → ∀ v_4 : Int32, v_4 = v_3 + 1 → ∀ v_5 : Int32, v_5 = (upd (upd (upd m_now_2 (17 : Int32).toNatClampNeg (-1)) (20 : Int32).toNatClampNeg 0) (19 : Int32).toNatClampNeg v_4) (19 : Int32).toNatClampNeg → post v_5 (upd (upd (upd m_now_2 (17 : Int32).toNatClampNeg (-1)) (20 : Int32).toNatClampNeg 0) (19 : Int32).toNatClampNeg v_4)) bW rD
set_option maxHeartbeats 4000000 in
set_option maxRecDepth 100000 in
theorem c_X10_goSleep (l : Launch) (dC : Nat → ClassId) (dI : Nat → Nat → Nat) (cI cC cZ cB cJ : ClassId) (a_m oJ uD dY iJ lJ jQ jR jW jK pJ bM aY jO gR gY mK jZ iY bG mJ jB mQ lY eJ bY sz : Nat) (bW aG jG bQ dG : Int32) (jY : Nat) (m_length qG uW eY aJ aB bU dN aR aE bJ aW bT gJ dU bL bR bO mY pW : Int32) (rD : Nat → Int32) (post : Int32 → (Nat → Int32) → Prop) (hw : wp_X10_goSleep post bW rD) : Met l yX10_goSleep (gw yX10_goSleep cX10_goSleep 1 (some .int)) rm_X10_goSleep (va_Pc [.ref a_m] (gPre (dC, dI) (tyl cI cC cZ cB cJ) (wd_X10_goSleep cI cC cZ cB cJ a_m oJ uD dY iJ lJ jQ jR jW jK pJ bM aY jO gR gY mK jZ iY bG mJ jB mQ lY eJ bY bW aG jG bQ dG jY m_length qG uW eY aJ aB bU dN aR aE bJ aW bT gJ dU bL bR bO mY pW rD) sz)) (q_X10_goSleep dC dI cI cC cZ cB cJ (va_A (wd_X10_goSleep cI cC cZ cB cJ a_m oJ uD dY iJ lJ jQ jR jW jK pJ bM aY jO gR gY mK jZ iY bG mJ jB mQ lY eJ bY bW aG jG bQ dG jY m_length qG uW eY aJ aB bU dN aR aE bJ aW bT gJ dU bL bR bO mY pW rD) sz) a_m oJ uD dY iJ lJ jQ jR jW jK pJ bM aY jO gR gY mK jZ iY bG mJ jB mQ lY eJ bY bW aG jG bQ dG jY m_length qG uW eY aJ aB bU dN aR aE bJ aW bT gJ dU bL bR bO mY pW post) 0 0 (va_A (wd_X10_goSleep cI cC cZ cB cJ a_m oJ uD dY iJ lJ jQ jR jW jK pJ bM aY jO gR gY mK jZ iY bG mJ jB mQ lY eJ bY bW aG jG bQ dG jY m_length qG uW eY aJ aB bU dN aR aE bJ aW bT gJ dU bL bR bO mY pW rD) sz) := by
  refine g_enter (own := RX10) (dC, dI) (tyl cI cC cZ cB cJ) (wd_X10_goSleep cI cC cZ cB cJ a_m oJ uD dY iJ lJ jQ jR jW jK pJ bM aY jO gR gY mK jZ iY bG mJ jB mQ lY eJ bY bW aG jG bQ dG jY m_length qG uW eY aJ aB bU dN aR aE bJ aW bT gJ dU bL bR bO mY pW rD) sz [.ref a_m] (fun A => q_X10_goSleep dC dI cI cC cZ cB cJ A a_m oJ uD dY iJ lJ jQ jR jW jK pJ bM aY jO gR gY mK jZ iY bG mJ jB mQ lY eJ bY bW aG jG bQ dG jY m_length qG uW eY aJ aB bU dN aR aE bJ aW bT gJ dU bL bR bO mY pW post) pn_RX10 rfl (Nat.le_of_ble_eq_true rfl) ?_
  intro p e s m args below meth c A H locs ls C0 hP hD hS hl
  have hl : lv_has ls 1 [(0, .ref a_m)] := hl
  obtain ⟨hx, hb, hr, hml, hown, hts, hlocks, hA, hK, hN, tL, tM, hZL, hTL, hZM, hTM, hZX⟩ := id C0
  have hp := hw
  unfold wp_X10_goSleep at hp
  refine lv_aload_n hx hb eX10_goSleep_0.1 rfl (lv_at hl 0 rfl) ?_
  refine g_calli (wc := (wd_X10_empty cI cC cZ cB cJ a_m oJ uD dY iJ lJ jQ jR jW jK pJ bM aY jO gR gY mK jZ iY bG mJ jB mQ lY eJ bY bW aG jG bQ dG jY m_length qG uW eY aJ aB bU dN aR aE bJ aW bT gJ dU bL bR bO mY pW rD)) hP hD hS hA [0, 1] [] rfl rfl rfl rfl (g_runV (As := []) (rest := []) C0 hP hD hS [0, 1] rfl rfl 0 10 rfl rfl (c_X10_empty l dC dI cI cC cZ cB cJ a_m oJ uD dY iJ lJ jQ jR jW jK pJ bM aY jO gR gY mK jZ iY bG mJ jB mQ lY eJ bY H.size bW aG jG bQ dG jY m_length qG uW eY aJ aB bU dN aR aE bJ aW bT gJ dU bL bR bO mY pW rD _ hp) q_775 q_778 q_776 q_777 q_642 h_X10_empty rfl rfl ⟨Nat.le_of_ble_eq_true rfl, Nat.le_of_ble_eq_true rfl⟩ rfl rfl hl.1 rfl (lv_room (Nat.le_of_ble_eq_true rfl)) eX10_goSleep_0.2.1 ⟨Nat.zero_le _, Nat.zero_le _⟩) (fun r_1 u H locs hp hP hD hS => ?_)
  obtain ⟨m_now_2, rfl⟩ : ∃ z, z = u := ⟨_, rfl⟩
  have hPD := PDs (ws' := (wd_X10_goSleep cI cC cZ cB cJ a_m oJ uD dY iJ lJ jQ jR jW jK pJ bM aY jO gR gY mK jZ iY bG mJ jB mQ lY eJ bY bW aG jG bQ dG jY m_length qG uW eY aJ aB bU dN aR aE bJ aW bT gJ dU bL bR bO mY pW m_now_2)) hP hD [0, 1] (by decide) rfl
  have hP := hPD.1
  have hD := hPD.2
  refine lv_pop hx hb eX10_goSleep_0.2.2.1 rfl ?_
  refine lv_aload_n hx hb eX10_goSleep_0.2.2.2.1 rfl (lv_at hl 0 rfl) ?_
  refine va_get (D := (dC, dI)) (ci := 10) (v := .ref oJ) (C := RX10) (T := TX10) (N := 51) hx hb hts i_X10 hown hK hP 0 rfl rfl 0 (Nat.le_of_ble_eq_true rfl) (hts _ q_692) (fun _ h9 => h9) rfl eX10_goSleep_0.2.2.2.2.1 ?_
  refine lv_bipush (v := 17) hx hb eX10_goSleep_0.2.2.2.2.2.1 bp_17 ?_
  refine lv_iconst (v := (-1)) hx hb eX10_goSleep_0.2.2.2.2.2.2.1 ic_m1 ?_
  refine va_iast hx hb hK hP hD hS 1 0 rfl rfl (g_in rfl) eX10_goSleep_0.2.2.2.2.2.2.2.1 (fun H locs hP hD hS => ?_)
  have hP : va_P (dC, dI) classes (wd_X10_goSleep cI cC cZ cB cJ a_m oJ uD dY iJ lJ jQ jR jW jK pJ bM aY jO gR gY mK jZ iY bG mJ jB mQ lY eJ bY bW aG jG bQ dG jY m_length qG uW eY aJ aB bU dN aR aE bJ aW bT gJ dU bL bR bO mY pW (upd m_now_2 (17 : Int32).toNatClampNeg (-1))) H := hP
  have hD : va_D A (wd_X10_goSleep cI cC cZ cB cJ a_m oJ uD dY iJ lJ jQ jR jW jK pJ bM aY jO gR gY mK jZ iY bG mJ jB mQ lY eJ bY bW aG jG bQ dG jY m_length qG uW eY aJ aB bU dN aR aE bJ aW bT gJ dU bL bR bO mY pW (upd m_now_2 (17 : Int32).toNatClampNeg (-1))) := hD
  refine lv_aload_n hx hb eX10_goSleep_0.2.2.2.2.2.2.2.2.1 rfl (lv_at hl 0 rfl) ?_
  refine va_get (D := (dC, dI)) (ci := 10) (v := .ref oJ) (C := RX10) (T := TX10) (N := 51) hx hb hts i_X10 hown hK hP 0 rfl rfl 0 (Nat.le_of_ble_eq_true rfl) (hts _ q_692) (fun _ h9 => h9) rfl eX10_goSleep_0.2.2.2.2.2.2.2.2.2.1 ?_
  refine lv_bipush (v := 20) hx hb eX10_goSleep_0.2.2.2.2.2.2.2.2.2.2.1 bp_20 ?_
  refine lv_iconst (v := 0) hx hb eX10_goSleep_0.2.2.2.2.2.2.2.2.2.2.2.1 ic_0 ?_
  refine va_iast hx hb hK hP hD hS 1 0 rfl rfl (g_in rfl) eX10_goSleep_0.2.2.2.2.2.2.2.2.2.2.2.2.1 (fun H locs hP hD hS => ?_)
  have hP : va_P (dC, dI) classes (wd_X10_goSleep cI cC cZ cB cJ a_m oJ uD dY iJ lJ jQ jR jW jK pJ bM aY jO gR gY mK jZ iY bG mJ jB mQ lY eJ bY bW aG jG bQ dG jY m_length qG uW eY aJ aB bU dN aR aE bJ aW bT gJ dU bL bR bO mY pW (upd (upd m_now_2 (17 : Int32).toNatClampNeg (-1)) (20 : Int32).toNatClampNeg 0)) H := hP
  have hD : va_D A (wd_X10_goSleep cI cC cZ cB cJ a_m oJ uD dY iJ lJ jQ jR jW jK pJ bM aY jO gR gY mK jZ iY bG mJ jB mQ lY eJ bY bW aG jG bQ dG jY m_length qG uW eY aJ aB bU dN aR aE bJ aW bT gJ dU bL bR bO mY pW (upd (upd m_now_2 (17 : Int32).toNatClampNeg (-1)) (20 : Int32).toNatClampNeg 0)) := hD
  refine lv_aload_n hx hb eX10_goSleep_0.2.2.2.2.2.2.2.2.2.2.2.2.2.1 rfl (lv_at hl 0 rfl) ?_
  refine va_get (D := (dC, dI)) (ci := 10) (v := .ref oJ) (C := RX10) (T := TX10) (N := 51) hx hb hts i_X10 hown hK hP 0 rfl rfl 0 (Nat.le_of_ble_eq_true rfl) (hts _ q_692) (fun _ h9 => h9) rfl eX10_goSleep_0.2.2.2.2.2.2.2.2.2.2.2.2.2.2.1 ?_
  refine lv_bipush (v := 19) hx hb eX10_goSleep_0.2.2.2.2.2.2.2.2.2.2.2.2.2.2.2 bp_19 ?_
  refine lv_dup2_11 hx hb eX10_goSleep_27.1 rfl rfl ?_
  refine va_iald hx hb hK hP 1 0 rfl rfl (g_in rfl) eX10_goSleep_27.2.1 ?_
  refine lv_topi (fun v_3 ev_3 => ?_)
  have hp := hp v_3 ev_3
  refine lv_iconst (v := 1) hx hb eX10_goSleep_27.2.2.1 ic_1 ?_
  refine lv_iadd hx hb eX10_goSleep_27.2.2.2.1 ?_
  refine lv_topi (fun v_4 ev_4 => ?_)
  have hp := hp v_4 ev_4
  refine va_iast hx hb hK hP hD hS 1 0 rfl rfl (g_in rfl) eX10_goSleep_27.2.2.2.2.1 (fun H locs hP hD hS => ?_)
  have hP : va_P (dC, dI) classes (wd_X10_goSleep cI cC cZ cB cJ a_m oJ uD dY iJ lJ jQ jR jW jK pJ bM aY jO gR gY mK jZ iY bG mJ jB mQ lY eJ bY bW aG jG bQ dG jY m_length qG uW eY aJ aB bU dN aR aE bJ aW bT gJ dU bL bR bO mY pW (upd (upd (upd m_now_2 (17 : Int32).toNatClampNeg (-1)) (20 : Int32).toNatClampNeg 0) (19 : Int32).toNatClampNeg v_4)) H := hP
  have hD : va_D A (wd_X10_goSleep cI cC cZ cB cJ a_m oJ uD dY iJ lJ jQ jR jW jK pJ bM aY jO gR gY mK jZ iY bG mJ jB mQ lY eJ bY bW aG jG bQ dG jY m_length qG uW eY aJ aB bU dN aR aE bJ aW bT gJ dU bL bR bO mY pW (upd (upd (upd m_now_2 (17 : Int32).toNatClampNeg (-1)) (20 : Int32).toNatClampNeg 0) (19 : Int32).toNatClampNeg v_4)) := hD
  refine lv_aload_n hx hb eX10_goSleep_27.2.2.2.2.2.1 rfl (lv_at hl 0 rfl) ?_
  refine va_get (D := (dC, dI)) (ci := 10) (v := .ref oJ) (C := RX10) (T := TX10) (N := 51) hx hb hts i_X10 hown hK hP 0 rfl rfl 0 (Nat.le_of_ble_eq_true rfl) (hts _ q_692) (fun _ h9 => h9) rfl eX10_goSleep_27.2.2.2.2.2.2.1 ?_
  refine lv_bipush (v := 19) hx hb eX10_goSleep_27.2.2.2.2.2.2.2.1 bp_19 ?_
  refine va_iald hx hb hK hP 1 0 rfl rfl (g_in rfl) eX10_goSleep_27.2.2.2.2.2.2.2.2.1 ?_
  refine lv_topi (fun v_5 ev_5 => ?_)
  have hp := hp v_5 ev_5
  exact W.iret (v := v_5) hx hb hr (fun t ht hW => ⟨⟨v_5, (upd (upd (upd m_now_2 (17 : Int32).toNatClampNeg (-1)) (20 : Int32).toNatClampNeg 0) (19 : Int32).toNatClampNeg v_4), rfl, hp, by rw [ht]; exact hP, va_K.moved hW.alike hK, hD⟩, hS.F ht⟩) hS.2.2 eX10_goSleep_27.2.2.2.2.2.2.2.2.2
noncomputable abbrev wd_X10_sleep (cI cC cZ cB cJ : ClassId) (a_m oJ uD dY iJ lJ jQ jR jW jK pJ bM aY jO gR gY mK jZ iY bG mJ jB mQ lY eJ bY : Nat) (bW aG jG bQ dG : Int32) (jY : Nat) (m_length qG uW eY aJ aB bU dN aR aE bJ aW bT gJ dU bL bR bO mY pW : Int32) (rD uQ : Nat → Int32) : va_W := [(a_m, .inr (10, [.ref oJ, .int bW, .ref uD, .ref dY, .ref iJ, .ref lJ, .int aG, .ref jQ, .ref jR, .ref jW, .ref jK, .int jG, .ref pJ, .int bQ, .int dG, rdv jK jO jY, .int m_length, .int qG, .int uW, .int eY, .ref bM, .ref aY, .int aJ, .int aB, .ref jO, .int bU, .int dN, .int aR, .int aE, .int bJ, .int aW, .ref gR, .int bT, .ref gY, .ref mK, .int gJ, .ref jZ, .int dU, .ref iY, .ref bG, .int bL, .int bR, .int bO, .ref mJ, .ref jB, .ref mQ, .int mY, .int pW, .ref lY, .ref eJ, .ref bY])), (oJ, .inl (cI, 21, .inl rD)), (gR, .inl (cI, 252, .inl uQ))]
noncomputable abbrev q_X10_sleep (dC : Nat → ClassId) (dI : Nat → Nat → Nat) (cI cC cZ cB cJ : ClassId) (A : Nat → Prop) (a_m oJ uD dY iJ lJ jQ jR jW jK pJ bM aY jO gR gY mK jZ iY bG mJ jB mQ lY eJ bY : Nat) (bW aG jG bQ : Int32) (jY : Nat) (m_length qG uW eY aJ aB bU dN aR aE bJ aW gJ dU bL bR bO mY pW : Int32) (post : Int32 → Int32 → Int32 → (Nat → Int32) → (Nat → Int32) → Prop) : Array Value → State → Outcome → State → Prop := va_Qi (fun (r : Int32) (u : Int32 × Int32 × (Nat → Int32) × (Nat → Int32)) => post r u.1 u.2.1 u.2.2.1 u.2.2.2) (fun u t => gB (dC, dI) (tyl cI cC cZ cB cJ) A (wd_X10_sleep cI cC cZ cB cJ a_m oJ uD dY iJ lJ jQ jR jW jK pJ bM aY jO gR gY mK jZ iY bG mJ jB mQ lY eJ bY bW aG jG bQ u.1 jY m_length qG uW eY aJ aB bU dN aR aE bJ aW u.2.1 gJ dU bL bR bO mY pW u.2.2.1 u.2.2.2) t) A
noncomputable abbrev rm_X10_sleep : Room := { frames := 2, cells := 0, slots := 0, locals := 45 }
noncomputable def wp_X10_sleep (post : Int32 → Int32 → Int32 → (Nat → Int32) → (Nat → Int32) → Prop) (bW dG bT : Int32) (rD uQ : Nat → Int32) : Prop := ∀ v_1 : Int32, v_1 = rD (19 : Int32).toNatClampNeg → (¬ v_1 = 9 → wp_X10_remember (fun xZ zU => wp_X10_goSleep (fun r_4 aBj => post r_4 0 xZ aBj zU) bW rD) bT rD uQ) ∧ (v_1 = 9 → post (-1) 0 bT rD uQ)
set_option maxHeartbeats 4000000 in
set_option maxRecDepth 100000 in
theorem c_X10_sleep (l : Launch) (dC : Nat → ClassId) (dI : Nat → Nat → Nat) (cI cC cZ cB cJ : ClassId) (a_m oJ uD dY iJ lJ jQ jR jW jK pJ bM aY jO gR gY mK jZ iY bG mJ jB mQ lY eJ bY sz : Nat) (bW aG jG bQ dG : Int32) (jY : Nat) (m_length qG uW eY aJ aB bU dN aR aE bJ aW bT gJ dU bL bR bO mY pW : Int32) (rD uQ : Nat → Int32) (post : Int32 → Int32 → Int32 → (Nat → Int32) → (Nat → Int32) → Prop) (hw : wp_X10_sleep post bW dG bT rD uQ) : Met l yX10_sleep (gw yX10_sleep cX10_sleep 1 (some .int)) rm_X10_sleep (va_Pc [.ref a_m] (gPre (dC, dI) (tyl cI cC cZ cB cJ) (wd_X10_sleep cI cC cZ cB cJ a_m oJ uD dY iJ lJ jQ jR jW jK pJ bM aY jO gR gY mK jZ iY bG mJ jB mQ lY eJ bY bW aG jG bQ dG jY m_length qG uW eY aJ aB bU dN aR aE bJ aW bT gJ dU bL bR bO mY pW rD uQ) sz)) (q_X10_sleep dC dI cI cC cZ cB cJ (va_A (wd_X10_sleep cI cC cZ cB cJ a_m oJ uD dY iJ lJ jQ jR jW jK pJ bM aY jO gR gY mK jZ iY bG mJ jB mQ lY eJ bY bW aG jG bQ dG jY m_length qG uW eY aJ aB bU dN aR aE bJ aW bT gJ dU bL bR bO mY pW rD uQ) sz) a_m oJ uD dY iJ lJ jQ jR jW jK pJ bM aY jO gR gY mK jZ iY bG mJ jB mQ lY eJ bY bW aG jG bQ jY m_length qG uW eY aJ aB bU dN aR aE bJ aW gJ dU bL bR bO mY pW post) 0 0 (va_A (wd_X10_sleep cI cC cZ cB cJ a_m oJ uD dY iJ lJ jQ jR jW jK pJ bM aY jO gR gY mK jZ iY bG mJ jB mQ lY eJ bY bW aG jG bQ dG jY m_length qG uW eY aJ aB bU dN aR aE bJ aW bT gJ dU bL bR bO mY pW rD uQ) sz) := by
  refine g_enter (own := RX10) (dC, dI) (tyl cI cC cZ cB cJ) (wd_X10_sleep cI cC cZ cB cJ a_m oJ uD dY iJ lJ jQ jR jW jK pJ bM aY jO gR gY mK jZ iY bG mJ jB mQ lY eJ bY bW aG jG bQ dG jY m_length qG uW eY aJ aB bU dN aR aE bJ aW bT gJ dU bL bR bO mY pW rD uQ) sz [.ref a_m] (fun A => q_X10_sleep dC dI cI cC cZ cB cJ A a_m oJ uD dY iJ lJ jQ jR jW jK pJ bM aY jO gR gY mK jZ iY bG mJ jB mQ lY eJ bY bW aG jG bQ jY m_length qG uW eY aJ aB bU dN aR aE bJ aW gJ dU bL bR bO mY pW post) pn_RX10 rfl (Nat.le_of_ble_eq_true rfl) ?_
  intro p e s m args below meth c A H locs ls C0 hP hD hS hl
  have hl : lv_has ls 1 [(0, .ref a_m)] := hl
  obtain ⟨hx, hb, hr, hml, hown, hts, hlocks, hA, hK, hN, tL, tM, hZL, hTL, hZM, hTM, hZX⟩ := id C0
  have hp := hw
  unfold wp_X10_sleep at hp
  refine lv_aload_n hx hb eX10_sleep_0.1 rfl (lv_at hl 0 rfl) ?_
  refine lv_iconst (v := 0) hx hb eX10_sleep_0.2.1 ic_0 ?_
  refine va_put (D := (dC, dI)) (ci := 10) (v := .int 0) (ty := .int) (C := RX10) (T := TX10) (N := 51) hx hb hts i_X10 tyX10 tyX10_ok nmX10 hown hK hP hD hS 0 rfl rfl 14 (Nat.le_of_ble_eq_true rfl) (hts _ q_638) (fun _ h9 => h9) rfl (tyX10_ok 14 (Nat.le_of_ble_eq_true rfl)) rfl rfl (Nat.le_of_ble_eq_true rfl) eX10_sleep_0.2.2.1 (fun H locs hP hD hS => ?_)
  have hP : va_P (dC, dI) classes (wd_X10_sleep cI cC cZ cB cJ a_m oJ uD dY iJ lJ jQ jR jW jK pJ bM aY jO gR gY mK jZ iY bG mJ jB mQ lY eJ bY bW aG jG bQ 0 jY m_length qG uW eY aJ aB bU dN aR aE bJ aW bT gJ dU bL bR bO mY pW rD uQ) H := hP
  have hD : va_D A (wd_X10_sleep cI cC cZ cB cJ a_m oJ uD dY iJ lJ jQ jR jW jK pJ bM aY jO gR gY mK jZ iY bG mJ jB mQ lY eJ bY bW aG jG bQ 0 jY m_length qG uW eY aJ aB bU dN aR aE bJ aW bT gJ dU bL bR bO mY pW rD uQ) := hD
  refine lv_aload_n hx hb eX10_sleep_0.2.2.2.1 rfl (lv_at hl 0 rfl) ?_
  refine va_get (D := (dC, dI)) (ci := 10) (v := .ref oJ) (C := RX10) (T := TX10) (N := 51) hx hb hts i_X10 hown hK hP 0 rfl rfl 0 (Nat.le_of_ble_eq_true rfl) (hts _ q_692) (fun _ h9 => h9) rfl eX10_sleep_0.2.2.2.2.1 ?_
  refine lv_bipush (v := 19) hx hb eX10_sleep_0.2.2.2.2.2.1 bp_19 ?_
  refine va_iald hx hb hK hP 1 0 rfl rfl (g_in rfl) eX10_sleep_0.2.2.2.2.2.2.1 ?_
  refine lv_topi (fun v_1 ev_1 => ?_)
  have hp := hp v_1 ev_1
  refine lv_bipush (v := 9) hx hb eX10_sleep_0.2.2.2.2.2.2.2.1 bp_9 ?_
  refine lv_icmp_ne (tgt := 19) hx hb eX10_sleep_0.2.2.2.2.2.2.2.2.1 (by decide) (fun hc => ?_) (fun hc => ?_)
  · have hp := hp.1 hc
    refine lv_aload_n hx hb eX10_sleep_0.2.2.2.2.2.2.2.2.2.2.2.1 rfl (lv_at hl 0 rfl) ?_
    refine lv_aload_n hx hb eX10_sleep_0.2.2.2.2.2.2.2.2.2.2.2.2.1 rfl (lv_at hl 0 rfl) ?_
    refine va_get (D := (dC, dI)) (ci := 10) (v := .ref oJ) (C := RX10) (T := TX10) (N := 51) hx hb hts i_X10 hown hK hP 0 rfl rfl 0 (Nat.le_of_ble_eq_true rfl) (hts _ q_692) (fun _ h9 => h9) rfl eX10_sleep_0.2.2.2.2.2.2.2.2.2.2.2.2.2.1 ?_
    have hm := mgk (wc := (wd_X10_remember cI cC cZ cB cJ a_m oJ uD dY iJ lJ jQ jR jW jK pJ bM aY jO gR gY mK jZ iY bG mJ jB mQ lY eJ bY bW aG jG bQ 0 jY m_length qG uW eY aJ aB bU dN aR aE bJ aW bT gJ dU bL bR bO mY pW rD uQ)) hP aBD 3 rfl rfl rfl
    refine g_callv hP hD hS hA (mixT aBD) (mixF aBD) hm.1 hm.2 (nd_F _) (dis_g _) (g_runV (As := [.ref oJ]) (rest := []) C0 hP hD hS (mixT aBD) hm.1 (nd_T _) 0 10 rfl rfl (c_X10_remember l dC dI cI cC cZ cB cJ a_m oJ uD dY iJ lJ jQ jR jW jK pJ bM aY jO gR gY mK jZ iY bG mJ jB mQ lY eJ bY H.size bW aG jG bQ 0 jY m_length qG uW eY aJ aB bU dN aR aE bJ aW bT gJ dU bL bR bO mY pW rD uQ _ hp) q_787 q_790 q_788 q_789 q_642 h_X10_remember rfl rfl ⟨Nat.le_of_ble_eq_true rfl, Nat.le_of_ble_eq_true rfl⟩ rfl rfl hl.1 rfl (lv_room (Nat.le_of_ble_eq_true rfl)) eX10_sleep_0.2.2.2.2.2.2.2.2.2.2.2.2.2.2.1 ⟨Nat.zero_le _, Nat.zero_le _⟩) (fun u H locs hp hP hD hS => ?_)
    obtain ⟨xZ, zU⟩ := u
    have hPD := PDm (ws' := (wd_X10_sleep cI cC cZ cB cJ a_m oJ uD dY iJ lJ jQ jR jW jK pJ bM aY jO gR gY mK jZ iY bG mJ jB mQ lY eJ bY bW aG jG bQ 0 jY m_length qG uW eY aJ aB bU dN aR aE bJ aW xZ gJ dU bL bR bO mY pW rD zU)) hP hD 3 rfl rfl rfl
    have hP := hPD.1
    have hD := hPD.2
    refine lv_aload_n hx hb eX10_sleep_0.2.2.2.2.2.2.2.2.2.2.2.2.2.2.2 rfl (lv_at hl 0 rfl) ?_
    have hm := mgk (wc := (wd_X10_goSleep cI cC cZ cB cJ a_m oJ uD dY iJ lJ jQ jR jW jK pJ bM aY jO gR gY mK jZ iY bG mJ jB mQ lY eJ bY bW aG jG bQ 0 jY m_length qG uW eY aJ aB bU dN aR aE bJ aW xZ gJ dU bL bR bO mY pW rD)) hP aCj 3 rfl rfl rfl
    refine g_calli hP hD hS hA (mixT aCj) (mixF aCj) hm.1 hm.2 (nd_F _) (dis_g _) (g_runV (As := []) (rest := []) C0 hP hD hS (mixT aCj) hm.1 (nd_T _) 0 10 rfl rfl (c_X10_goSleep l dC dI cI cC cZ cB cJ a_m oJ uD dY iJ lJ jQ jR jW jK pJ bM aY jO gR gY mK jZ iY bG mJ jB mQ lY eJ bY H.size bW aG jG bQ 0 jY m_length qG uW eY aJ aB bU dN aR aE bJ aW xZ gJ dU bL bR bO mY pW rD _ hp) q_840 q_843 q_841 q_842 q_642 h_X10_goSleep rfl rfl ⟨Nat.le_of_ble_eq_true rfl, Nat.le_of_ble_eq_true rfl⟩ rfl rfl hl.1 rfl (lv_room (Nat.le_of_ble_eq_true rfl)) eX10_sleep_28.1 ⟨Nat.zero_le _, Nat.zero_le _⟩) (fun r_4 u H locs hp hP hD hS => ?_)
    obtain ⟨aBj, rfl⟩ : ∃ z, z = u := ⟨_, rfl⟩
    have hPD := PDm (ws' := (wd_X10_sleep cI cC cZ cB cJ a_m oJ uD dY iJ lJ jQ jR jW jK pJ bM aY jO gR gY mK jZ iY bG mJ jB mQ lY eJ bY bW aG jG bQ 0 jY m_length qG uW eY aJ aB bU dN aR aE bJ aW xZ gJ dU bL bR bO mY pW aBj zU)) hP hD 3 rfl rfl rfl
    have hP := hPD.1
    have hD := hPD.2
    exact W.iret (v := r_4) hx hb hr (fun t ht hW => ⟨⟨r_4, (0, xZ, aBj, zU), rfl, hp, by rw [ht]; exact hP, va_K.moved hW.alike hK, hD⟩, hS.F ht⟩) hS.2.2 eX10_sleep_28.2
  · have hp := hp.2 hc
    refine lv_iconst (v := (-1)) hx hb eX10_sleep_0.2.2.2.2.2.2.2.2.2.1 ic_m1 ?_
    exact W.iret (v := (-1)) hx hb hr (fun t ht hW => ⟨⟨(-1), (0, bT, rD, uQ), rfl, hp, by rw [ht]; exact hP, va_K.moved hW.alike hK, hD⟩, hS.F ht⟩) hS.2.2 eX10_sleep_0.2.2.2.2.2.2.2.2.2.2.1
noncomputable abbrev wd_X10_readAct (cI cC cZ cB cJ : ClassId) (a_m oJ uD dY iJ lJ jQ jR jW jK pJ bM aY jO gR gY mK jZ iY bG mJ jB mQ lY eJ bY : Nat) (bW aG jG bQ dG : Int32) (jY : Nat) (m_length qG uW eY aJ aB bU dN aR aE bJ aW bT gJ dU bL bR bO mY pW : Int32) (rG rQ wE : Nat → Int32) : va_W := [(a_m, .inr (10, [.ref oJ, .int bW, .ref uD, .ref dY, .ref iJ, .ref lJ, .int aG, .ref jQ, .ref jR, .ref jW, .ref jK, .int jG, .ref pJ, .int bQ, .int dG, rdv jK jO jY, .int m_length, .int qG, .int uW, .int eY, .ref bM, .ref aY, .int aJ, .int aB, .ref jO, .int bU, .int dN, .int aR, .int aE, .int bJ, .int aW, .ref gR, .int bT, .ref gY, .ref mK, .int gJ, .ref jZ, .int dU, .ref iY, .ref bG, .int bL, .int bR, .int bO, .ref mJ, .ref jB, .ref mQ, .int mY, .int pW, .ref lY, .ref eJ, .ref bY])), (jK, .inl (cB, 80, .inl rG)), (jO, .inl (cB, 40, .inl rQ)), (mK, .inl (cI, 160, .inl wE))]
noncomputable abbrev q_X10_readAct (dC : Nat → ClassId) (dI : Nat → Nat → Nat) (cI cC cZ cB cJ : ClassId) (A : Nat → Prop) (a_m oJ uD dY iJ lJ jQ jR jW jK pJ bM aY jO gR gY mK jZ iY bG mJ jB mQ lY eJ bY : Nat) (bW aG jG bQ dG : Int32) (jY : Nat) (m_length qG aJ aB bU dN aR aE bJ aW bT gJ dU bL bR bO mY pW : Int32) (rG rQ : Nat → Int32) (post : Int32 → Int32 → (Nat → Int32) → Prop) : Array Value → State → Outcome → State → Prop := va_Qv (fun (u : Int32 × Int32 × (Nat → Int32)) => post u.1 u.2.1 u.2.2) (fun u t => gB (dC, dI) (tyl cI cC cZ cB cJ) A (wd_X10_readAct cI cC cZ cB cJ a_m oJ uD dY iJ lJ jQ jR jW jK pJ bM aY jO gR gY mK jZ iY bG mJ jB mQ lY eJ bY bW aG jG bQ dG jY m_length qG u.1 u.2.1 aJ aB bU dN aR aE bJ aW bT gJ dU bL bR bO mY pW rG rQ u.2.2) t) A
noncomputable abbrev rm_X10_readAct : Room := { frames := 3, cells := 0, slots := 0, locals := 64 }
section S_X10_readAct
variable {p : Program} {l : Launch} {e : Env} {s : State} {m : MethodId} {args : Array Value} {below : List Frame} {meth : Method} {c : Code} {dC : Nat → ClassId} {dI : Nat → Nat → Nat} {cI cC cZ cB cJ : ClassId} {A : Nat → Prop} {a_m oJ uD dY iJ lJ jQ jR jW jK pJ bM aY jO gR gY mK jZ iY bG mJ jB mQ lY eJ bY : Nat} {bW aG jG bQ dG : Int32} {jY : Nat} {m_length qG aJ aB bU dN aR aE bJ aW bT gJ dU bL bR bO mY pW : Int32} {rG rQ : Nat → Int32} {post : Int32 → Int32 → (Nat → Int32) → Prop}
noncomputable def ws_X10_readAct_109 (post : Int32 → Int32 → (Nat → Int32) → Prop) (jY : Nat) (m_length qG : Int32) (rG rQ : Nat → Int32) (x1 uW eY : Int32) (wE : Nat → Int32) : Prop := ∀ v_3 : Int32, v_3 = x1 + 1 → wp_X10_number (fun r_4 m_at_5 m_wrong_6 => vp_in v_3 160 ∧ (post m_at_5 m_wrong_6 (upd wE v_3.toNatClampNeg r_4))) 2 jY m_length qG uW eY rG rQ
set_option maxHeartbeats 4000000 in
set_option maxRecDepth 100000 in
theorem ks_X10_readAct_109 (C0 : gc cX10_readAct none 3 RX10 (dC, dI) (tyl cI cC cZ cB cJ) A p s m args meth c) : ∀ (x1 uW eY : Int32) (wE : Nat → Int32) (H : Heap) (locs : List Loc) (ls : Array Slot), (ws_X10_readAct_109 post jY m_length qG rG rQ) x1 uW eY wE → va_P (dC, dI) classes (wd_X10_readAct cI cC cZ cB cJ a_m oJ uD dY iJ lJ jQ jR jW jK pJ bM aY jO gR gY mK jZ iY bG mJ jB mQ lY eJ bY bW aG jG bQ dG jY m_length qG uW eY aJ aB bU dN aR aE bJ aW bT gJ dU bL bR bO mY pW rG rQ wE) H → va_D A (wd_X10_readAct cI cC cZ cB cJ a_m oJ uD dY iJ lJ jQ jR jW jK pJ bM aY jO gR gY mK jZ iY bG mJ jB mQ lY eJ bY bW aG jG bQ dG jY m_length qG uW eY aJ aB bU dN aR aE bJ aW bT gJ dU bL bR bO mY pW rG rQ wE) → va_S A s.heap H locs → lv_has ls 3 [(0, .ref a_m), (1, .int x1)] → W p l e rm_X10_readAct s m args below meth c H locs 0 0 (MQ below (q_X10_readAct dC dI cI cC cZ cB cJ A a_m oJ uD dY iJ lJ jQ jR jW jK pJ bM aY jO gR gY mK jZ iY bG mJ jB mQ lY eJ bY bW aG jG bQ dG jY m_length qG aJ aB bU dN aR aE bJ aW bT gJ dU bL bR bO mY pW rG rQ post) args s 0 0 A) (F0 m 109 ls []) := by
  obtain ⟨hx, hb, hr, hml, hown, hts, hlocks, hA, hK, hN, tL, tM, hZL, hTL, hZM, hTM, hZX⟩ := id C0
  intro x1 uW eY wE H locs ls hp hP hD hS hl
  unfold ws_X10_readAct_109 at hp
  refine lv_aload_n hx hb eX10_readAct_89.2.2.2.2.2.2.2.2.2.2.2.2.1 rfl (lv_at hl 0 rfl) ?_
  refine va_get (D := (dC, dI)) (ci := 10) (v := .ref mK) (C := RX10) (T := TX10) (N := 51) hx hb hts i_X10 hown hK hP 0 rfl rfl 34 (Nat.le_of_ble_eq_true rfl) (hts _ q_844) (fun _ h9 => h9) rfl eX10_readAct_89.2.2.2.2.2.2.2.2.2.2.2.2.2.1 ?_
  refine lv_iload_n hx hb eX10_readAct_89.2.2.2.2.2.2.2.2.2.2.2.2.2.2.1 rfl (lv_at hl 1 rfl) ?_
  refine lv_iconst (v := 1) hx hb eX10_readAct_89.2.2.2.2.2.2.2.2.2.2.2.2.2.2.2 ic_1 ?_
  refine lv_iadd hx hb eX10_readAct_115.1 ?_
  refine lv_topi (fun v_3 ev_3 => ?_)
  have hp := hp v_3 ev_3
  refine lv_aload_n hx hb eX10_readAct_115.2.1 rfl (lv_at hl 0 rfl) ?_
  refine lv_iconst (v := 2) hx hb eX10_readAct_115.2.2.1 ic_2 ?_
  have hm := mgk (wc := (wd_X10_number cI cC cZ cB cJ a_m oJ uD dY iJ lJ jQ jR jW jK pJ bM aY jO gR gY mK jZ iY bG mJ jB mQ lY eJ bY bW aG jG bQ dG jY m_length qG uW eY aJ aB bU dN aR aE bJ aW bT gJ dU bL bR bO mY pW rG rQ)) hP aJN 4 rfl rfl rfl
  refine g_calli hP hD hS hA (mixT aJN) (mixF aJN) hm.1 hm.2 (nd_F _) (dis_g _) (g_runV (As := [.int 2]) (rest := [.int v_3, .ref mK]) C0 hP hD hS (mixT aJN) hm.1 (nd_T _) 0 10 rfl rfl (c_X10_number l dC dI cI cC cZ cB cJ a_m oJ uD dY iJ lJ jQ jR jW jK pJ bM aY jO gR gY mK jZ iY bG mJ jB mQ lY eJ bY H.size 2 bW aG jG bQ dG jY m_length qG uW eY aJ aB bU dN aR aE bJ aW bT gJ dU bL bR bO mY pW rG rQ _ hp) q_669 q_672 q_670 q_671 q_642 h_X10_number rfl rfl ⟨Nat.le_of_ble_eq_true rfl, Nat.le_of_ble_eq_true rfl⟩ rfl rfl hl.1 rfl (lv_room (Nat.le_of_ble_eq_true rfl)) eX10_readAct_115.2.2.2.1 ⟨Nat.zero_le _, Nat.zero_le _⟩) (fun r_4 u H locs hp hP hD hS => ?_)
  obtain ⟨m_at_5, m_wrong_6⟩ := u
  have hPD := PDm (ws' := (wd_X10_readAct cI cC cZ cB cJ a_m oJ uD dY iJ lJ jQ jR jW jK pJ bM aY jO gR gY mK jZ iY bG mJ jB mQ lY eJ bY bW aG jG bQ dG jY m_length qG m_at_5 m_wrong_6 aJ aB bU dN aR aE bJ aW bT gJ dU bL bR bO mY pW rG rQ wE)) hP hD 4 rfl rfl rfl
  have hP := hPD.1
  have hD := hPD.2
  have hin := hp.1
  have hp := hp.2
  refine va_iast hx hb hK hP hD hS 3 0 rfl rfl hin eX10_readAct_115.2.2.2.2.1 (fun H locs hP hD hS => ?_)
  have hP : va_P (dC, dI) classes (wd_X10_readAct cI cC cZ cB cJ a_m oJ uD dY iJ lJ jQ jR jW jK pJ bM aY jO gR gY mK jZ iY bG mJ jB mQ lY eJ bY bW aG jG bQ dG jY m_length qG m_at_5 m_wrong_6 aJ aB bU dN aR aE bJ aW bT gJ dU bL bR bO mY pW rG rQ (upd wE v_3.toNatClampNeg r_4)) H := hP
  have hD : va_D A (wd_X10_readAct cI cC cZ cB cJ a_m oJ uD dY iJ lJ jQ jR jW jK pJ bM aY jO gR gY mK jZ iY bG mJ jB mQ lY eJ bY bW aG jG bQ dG jY m_length qG m_at_5 m_wrong_6 aJ aB bU dN aR aE bJ aW bT gJ dU bL bR bO mY pW rG rQ (upd wE v_3.toNatClampNeg r_4)) := hD
  exact W.vret hx hb hr (fun t ht hW => ⟨⟨(m_at_5, m_wrong_6, (upd wE v_3.toNatClampNeg r_4)), rfl, hp, by rw [ht]; exact hP, va_K.moved hW.alike hK, hD⟩, hS.F ht⟩) hS.2.2 eX10_readAct_115.2.2.2.2.2
noncomputable def ws_X10_readAct_97 (post : Int32 → Int32 → (Nat → Int32) → Prop) (jY : Nat) (m_length qG : Int32) (rG rQ : Nat → Int32) (x1 x2 uW eY : Int32) (wE : Nat → Int32) : Prop := (x2 = 112 → ws_X10_readAct_109 post jY m_length qG rG rQ x1 uW eY wE) ∧ (¬ x2 = 112 → (¬ x2 = 104 → post uW eY wE) ∧ (x2 = 104 → ws_X10_readAct_109 post jY m_length qG rG rQ x1 uW eY wE))
set_option maxHeartbeats 4000000 in
set_option maxRecDepth 100000 in
theorem ks_X10_readAct_97 (C0 : gc cX10_readAct none 3 RX10 (dC, dI) (tyl cI cC cZ cB cJ) A p s m args meth c) : ∀ (x1 x2 uW eY : Int32) (wE : Nat → Int32) (H : Heap) (locs : List Loc) (ls : Array Slot), (ws_X10_readAct_97 post jY m_length qG rG rQ) x1 x2 uW eY wE → va_P (dC, dI) classes (wd_X10_readAct cI cC cZ cB cJ a_m oJ uD dY iJ lJ jQ jR jW jK pJ bM aY jO gR gY mK jZ iY bG mJ jB mQ lY eJ bY bW aG jG bQ dG jY m_length qG uW eY aJ aB bU dN aR aE bJ aW bT gJ dU bL bR bO mY pW rG rQ wE) H → va_D A (wd_X10_readAct cI cC cZ cB cJ a_m oJ uD dY iJ lJ jQ jR jW jK pJ bM aY jO gR gY mK jZ iY bG mJ jB mQ lY eJ bY bW aG jG bQ dG jY m_length qG uW eY aJ aB bU dN aR aE bJ aW bT gJ dU bL bR bO mY pW rG rQ wE) → va_S A s.heap H locs → lv_has ls 3 [(0, .ref a_m), (1, .int x1), (2, .int x2)] → W p l e rm_X10_readAct s m args below meth c H locs 0 0 (MQ below (q_X10_readAct dC dI cI cC cZ cB cJ A a_m oJ uD dY iJ lJ jQ jR jW jK pJ bM aY jO gR gY mK jZ iY bG mJ jB mQ lY eJ bY bW aG jG bQ dG jY m_length qG aJ aB bU dN aR aE bJ aW bT gJ dU bL bR bO mY pW rG rQ post) args s 0 0 A) (F0 m 97 ls []) := by
  obtain ⟨hx, hb, hr, hml, hown, hts, hlocks, hA, hK, hN, tL, tM, hZL, hTL, hZM, hTM, hZX⟩ := id C0
  intro x1 x2 uW eY wE H locs ls hp hP hD hS hl
  unfold ws_X10_readAct_97 at hp
  refine lv_iload_n hx hb eX10_readAct_89.2.2.2.2.2.2.1 rfl (lv_at hl 2 rfl) ?_
  refine lv_bipush (v := 112) hx hb eX10_readAct_89.2.2.2.2.2.2.2.1 bp_112 ?_
  refine lv_icmp_eq (tgt := 109) hx hb eX10_readAct_89.2.2.2.2.2.2.2.2.1 (by decide) (fun hc => ?_) (fun hc => ?_)
  · have hp := hp.1 hc
    exact ks_X10_readAct_109 C0 x1 uW eY wE H locs ls hp hP hD hS (lv_sub hl [0, 1] rfl)
  · have hp := hp.2 hc
    refine lv_iload_n hx hb eX10_readAct_89.2.2.2.2.2.2.2.2.2.1 rfl (lv_at hl 2 rfl) ?_
    refine lv_bipush (v := 104) hx hb eX10_readAct_89.2.2.2.2.2.2.2.2.2.2.1 bp_104 ?_
    refine lv_icmp_ne (tgt := 122) hx hb eX10_readAct_89.2.2.2.2.2.2.2.2.2.2.2.1 (by decide) (fun hc => ?_) (fun hc => ?_)
    · have hp := hp.1 hc
      exact W.vret hx hb hr (fun t ht hW => ⟨⟨(uW, eY, wE), rfl, hp, by rw [ht]; exact hP, va_K.moved hW.alike hK, hD⟩, hS.F ht⟩) hS.2.2 eX10_readAct_115.2.2.2.2.2
    · have hp := hp.2 hc
      exact ks_X10_readAct_109 C0 x1 uW eY wE H locs ls hp hP hD hS (lv_sub hl [0, 1] rfl)
noncomputable def ws_X10_readAct_61 (post : Int32 → Int32 → (Nat → Int32) → Prop) (jY : Nat) (m_length qG : Int32) (rG rQ : Nat → Int32) (x1 x2 uW eY : Int32) (wE : Nat → Int32) : Prop := ∀ v_2 : Int32, v_2 = uW + 1 → vp_in x1 160 ∧ ((¬ x2 = 109 → ws_X10_readAct_97 post jY m_length qG rG rQ x1 x2 v_2 eY (upd wE x1.toNatClampNeg x2)) ∧ (x2 = 109 → ∀ v_7 : Int32, v_7 = x1 + 1 → wp_X10_number (fun r_8 aAb yJ => vp_in v_7 160 ∧ (ws_X10_readAct_97 post jY m_length qG rG rQ x1 x2 aAb yJ (upd (upd wE x1.toNatClampNeg x2) v_7.toNatClampNeg r_8))) 1 jY m_length qG v_2 eY rG rQ))
set_option maxHeartbeats 4000000 in
set_option maxRecDepth 100000 in
theorem ks_X10_readAct_61 (C0 : gc cX10_readAct none 3 RX10 (dC, dI) (tyl cI cC cZ cB cJ) A p s m args meth c) : ∀ (x1 x2 uW eY : Int32) (wE : Nat → Int32) (H : Heap) (locs : List Loc) (ls : Array Slot), (ws_X10_readAct_61 post jY m_length qG rG rQ) x1 x2 uW eY wE → va_P (dC, dI) classes (wd_X10_readAct cI cC cZ cB cJ a_m oJ uD dY iJ lJ jQ jR jW jK pJ bM aY jO gR gY mK jZ iY bG mJ jB mQ lY eJ bY bW aG jG bQ dG jY m_length qG uW eY aJ aB bU dN aR aE bJ aW bT gJ dU bL bR bO mY pW rG rQ wE) H → va_D A (wd_X10_readAct cI cC cZ cB cJ a_m oJ uD dY iJ lJ jQ jR jW jK pJ bM aY jO gR gY mK jZ iY bG mJ jB mQ lY eJ bY bW aG jG bQ dG jY m_length qG uW eY aJ aB bU dN aR aE bJ aW bT gJ dU bL bR bO mY pW rG rQ wE) → va_S A s.heap H locs → lv_has ls 3 [(0, .ref a_m), (1, .int x1), (2, .int x2)] → W p l e rm_X10_readAct s m args below meth c H locs 0 0 (MQ below (q_X10_readAct dC dI cI cC cZ cB cJ A a_m oJ uD dY iJ lJ jQ jR jW jK pJ bM aY jO gR gY mK jZ iY bG mJ jB mQ lY eJ bY bW aG jG bQ dG jY m_length qG aJ aB bU dN aR aE bJ aW bT gJ dU bL bR bO mY pW rG rQ post) args s 0 0 A) (F0 m 61 ls []) := by
  obtain ⟨hx, hb, hr, hml, hown, hts, hlocks, hA, hK, hN, tL, tM, hZL, hTL, hZM, hTM, hZX⟩ := id C0
  intro x1 x2 uW eY wE H locs ls hp hP hD hS hl
  unfold ws_X10_readAct_61 at hp
  refine lv_aload_n hx hb eX10_readAct_30.2.2.2.2.2.2.2.2.2.2.2.2.2.2.2 rfl (lv_at hl 0 rfl) ?_
  refine lv_dup hx hb eX10_readAct_62.1 rfl ?_
  refine va_get (D := (dC, dI)) (ci := 10) (v := .int uW) (C := RX10) (T := TX10) (N := 51) hx hb hts i_X10 hown hK hP 0 rfl rfl 18 (Nat.le_of_ble_eq_true rfl) (hts _ q_648) (fun _ h9 => h9) rfl eX10_readAct_62.2.1 ?_
  refine lv_iconst (v := 1) hx hb eX10_readAct_62.2.2.1 ic_1 ?_
  refine lv_iadd hx hb eX10_readAct_62.2.2.2.1 ?_
  refine lv_topi (fun v_2 ev_2 => ?_)
  have hp := hp v_2 ev_2
  refine va_put (D := (dC, dI)) (ci := 10) (v := .int v_2) (ty := .int) (C := RX10) (T := TX10) (N := 51) hx hb hts i_X10 tyX10 tyX10_ok nmX10 hown hK hP hD hS 0 rfl rfl 18 (Nat.le_of_ble_eq_true rfl) (hts _ q_648) (fun _ h9 => h9) rfl (tyX10_ok 18 (Nat.le_of_ble_eq_true rfl)) rfl rfl (Nat.le_of_ble_eq_true rfl) eX10_readAct_62.2.2.2.2.1 (fun H locs hP hD hS => ?_)
  have hP : va_P (dC, dI) classes (wd_X10_readAct cI cC cZ cB cJ a_m oJ uD dY iJ lJ jQ jR jW jK pJ bM aY jO gR gY mK jZ iY bG mJ jB mQ lY eJ bY bW aG jG bQ dG jY m_length qG v_2 eY aJ aB bU dN aR aE bJ aW bT gJ dU bL bR bO mY pW rG rQ wE) H := hP
  have hD : va_D A (wd_X10_readAct cI cC cZ cB cJ a_m oJ uD dY iJ lJ jQ jR jW jK pJ bM aY jO gR gY mK jZ iY bG mJ jB mQ lY eJ bY bW aG jG bQ dG jY m_length qG v_2 eY aJ aB bU dN aR aE bJ aW bT gJ dU bL bR bO mY pW rG rQ wE) := hD
  refine lv_aload_n hx hb eX10_readAct_62.2.2.2.2.2.1 rfl (lv_at hl 0 rfl) ?_
  refine va_get (D := (dC, dI)) (ci := 10) (v := .ref mK) (C := RX10) (T := TX10) (N := 51) hx hb hts i_X10 hown hK hP 0 rfl rfl 34 (Nat.le_of_ble_eq_true rfl) (hts _ q_844) (fun _ h9 => h9) rfl eX10_readAct_62.2.2.2.2.2.2.1 ?_
  refine lv_iload_n hx hb eX10_readAct_62.2.2.2.2.2.2.2.1 rfl (lv_at hl 1 rfl) ?_
  refine lv_iload_n hx hb eX10_readAct_62.2.2.2.2.2.2.2.2.1 rfl (lv_at hl 2 rfl) ?_
  have hin := hp.1
  have hp := hp.2
  refine va_iast hx hb hK hP hD hS 3 0 rfl rfl hin eX10_readAct_62.2.2.2.2.2.2.2.2.2.1 (fun H locs hP hD hS => ?_)
  have hP : va_P (dC, dI) classes (wd_X10_readAct cI cC cZ cB cJ a_m oJ uD dY iJ lJ jQ jR jW jK pJ bM aY jO gR gY mK jZ iY bG mJ jB mQ lY eJ bY bW aG jG bQ dG jY m_length qG v_2 eY aJ aB bU dN aR aE bJ aW bT gJ dU bL bR bO mY pW rG rQ (upd wE x1.toNatClampNeg x2)) H := hP
  have hD : va_D A (wd_X10_readAct cI cC cZ cB cJ a_m oJ uD dY iJ lJ jQ jR jW jK pJ bM aY jO gR gY mK jZ iY bG mJ jB mQ lY eJ bY bW aG jG bQ dG jY m_length qG v_2 eY aJ aB bU dN aR aE bJ aW bT gJ dU bL bR bO mY pW rG rQ (upd wE x1.toNatClampNeg x2)) := hD
  refine lv_iload_n hx hb eX10_readAct_62.2.2.2.2.2.2.2.2.2.2.1 rfl (lv_at hl 2 rfl) ?_
  refine lv_bipush (v := 109) hx hb eX10_readAct_62.2.2.2.2.2.2.2.2.2.2.2.1 bp_109 ?_
  refine lv_icmp_ne (tgt := 97) hx hb eX10_readAct_62.2.2.2.2.2.2.2.2.2.2.2.2.1 (by decide) (fun hc => ?_) (fun hc => ?_)
  · have hp := hp.1 hc
    exact ks_X10_readAct_97 C0 x1 x2 v_2 eY (upd wE x1.toNatClampNeg x2) H locs ls hp hP hD hS (lv_sub hl [0, 1, 2] rfl)
  · have hp := hp.2 hc
    refine lv_aload_n hx hb eX10_readAct_62.2.2.2.2.2.2.2.2.2.2.2.2.2.1 rfl (lv_at hl 0 rfl) ?_
    refine va_get (D := (dC, dI)) (ci := 10) (v := .ref mK) (C := RX10) (T := TX10) (N := 51) hx hb hts i_X10 hown hK hP 0 rfl rfl 34 (Nat.le_of_ble_eq_true rfl) (hts _ q_844) (fun _ h9 => h9) rfl eX10_readAct_62.2.2.2.2.2.2.2.2.2.2.2.2.2.2.1 ?_
    refine lv_iload_n hx hb eX10_readAct_62.2.2.2.2.2.2.2.2.2.2.2.2.2.2.2 rfl (lv_at hl 1 rfl) ?_
    refine lv_iconst (v := 1) hx hb eX10_readAct_89.1 ic_1 ?_
    refine lv_iadd hx hb eX10_readAct_89.2.1 ?_
    refine lv_topi (fun v_7 ev_7 => ?_)
    have hp := hp v_7 ev_7
    refine lv_aload_n hx hb eX10_readAct_89.2.2.1 rfl (lv_at hl 0 rfl) ?_
    refine lv_iconst (v := 1) hx hb eX10_readAct_89.2.2.2.1 ic_1 ?_
    have hm := mgk (wc := (wd_X10_number cI cC cZ cB cJ a_m oJ uD dY iJ lJ jQ jR jW jK pJ bM aY jO gR gY mK jZ iY bG mJ jB mQ lY eJ bY bW aG jG bQ dG jY m_length qG v_2 eY aJ aB bU dN aR aE bJ aW bT gJ dU bL bR bO mY pW rG rQ)) hP aJN 4 rfl rfl rfl
    refine g_calli hP hD hS hA (mixT aJN) (mixF aJN) hm.1 hm.2 (nd_F _) (dis_g _) (g_runV (As := [.int 1]) (rest := [.int v_7, .ref mK]) C0 hP hD hS (mixT aJN) hm.1 (nd_T _) 0 10 rfl rfl (c_X10_number l dC dI cI cC cZ cB cJ a_m oJ uD dY iJ lJ jQ jR jW jK pJ bM aY jO gR gY mK jZ iY bG mJ jB mQ lY eJ bY H.size 1 bW aG jG bQ dG jY m_length qG v_2 eY aJ aB bU dN aR aE bJ aW bT gJ dU bL bR bO mY pW rG rQ _ hp) q_669 q_672 q_670 q_671 q_642 h_X10_number rfl rfl ⟨Nat.le_of_ble_eq_true rfl, Nat.le_of_ble_eq_true rfl⟩ rfl rfl hl.1 rfl (lv_room (Nat.le_of_ble_eq_true rfl)) eX10_readAct_89.2.2.2.2.1 ⟨Nat.zero_le _, Nat.zero_le _⟩) (fun r_8 u H locs hp hP hD hS => ?_)
    obtain ⟨aAb, yJ⟩ := u
    have hPD := PDm (ws' := (wd_X10_readAct cI cC cZ cB cJ a_m oJ uD dY iJ lJ jQ jR jW jK pJ bM aY jO gR gY mK jZ iY bG mJ jB mQ lY eJ bY bW aG jG bQ dG jY m_length qG aAb yJ aJ aB bU dN aR aE bJ aW bT gJ dU bL bR bO mY pW rG rQ (upd wE x1.toNatClampNeg x2))) hP hD 4 rfl rfl rfl
    have hP := hPD.1
    have hD := hPD.2
    have hin := hp.1
    have hp := hp.2
    refine va_iast hx hb hK hP hD hS 3 0 rfl rfl hin eX10_readAct_89.2.2.2.2.2.1 (fun H locs hP hD hS => ?_)
    have hP : va_P (dC, dI) classes (wd_X10_readAct cI cC cZ cB cJ a_m oJ uD dY iJ lJ jQ jR jW jK pJ bM aY jO gR gY mK jZ iY bG mJ jB mQ lY eJ bY bW aG jG bQ dG jY m_length qG aAb yJ aJ aB bU dN aR aE bJ aW bT gJ dU bL bR bO mY pW rG rQ (upd (upd wE x1.toNatClampNeg x2) v_7.toNatClampNeg r_8)) H := hP
    have hD : va_D A (wd_X10_readAct cI cC cZ cB cJ a_m oJ uD dY iJ lJ jQ jR jW jK pJ bM aY jO gR gY mK jZ iY bG mJ jB mQ lY eJ bY bW aG jG bQ dG jY m_length qG aAb yJ aJ aB bU dN aR aE bJ aW bT gJ dU bL bR bO mY pW rG rQ (upd (upd wE x1.toNatClampNeg x2) v_7.toNatClampNeg r_8)) := hD
    exact ks_X10_readAct_97 C0 x1 x2 aAb yJ (upd (upd wE x1.toNatClampNeg x2) v_7.toNatClampNeg r_8) H locs ls hp hP hD hS (lv_sub hl [0, 1, 2] rfl)
end S_X10_readAct
noncomputable def wp_X10_readAct (post : Int32 → Int32 → (Nat → Int32) → Prop) (p0 : Int32) (jY : Nat) (m_length qG uW eY : Int32) (rG rQ wE : Nat → Int32) : Prop := wp_X10_here (fun r_1 => (r_1 = 109 → ws_X10_readAct_61 post jY m_length qG rG rQ p0 r_1 uW eY wE) ∧ (¬ r_1 = 109 → (r_1 = 112 → ws_X10_readAct_61 post jY m_length qG rG rQ p0 r_1 uW eY wE) ∧ (¬ r_1 = 112 → (r_1 = 104 → ws_X10_readAct_61 post jY m_length qG rG rQ p0 r_1 uW eY wE) ∧ (¬ r_1 = 104 → (r_1 = 100 → ws_X10_readAct_61 post jY m_length qG rG rQ p0 r_1 uW eY wE) ∧ (¬ r_1 = 100 → (r_1 = 107 → ws_X10_readAct_61 post jY m_length qG rG rQ p0 r_1 uW eY wE) ∧ (¬ r_1 = 107 → (r_1 = 97 → ws_X10_readAct_61 post jY m_length qG rG rQ p0 r_1 uW eY wE) ∧ (¬ r_1 = 97 → (r_1 = 111 → ws_X10_readAct_61 post jY m_length qG rG rQ p0 r_1 uW eY wE) ∧ (¬ r_1 = 111 → (r_1 = 122 → ws_X10_readAct_61 post jY m_length qG rG rQ p0 r_1 uW eY wE) ∧ (¬ r_1 = 122 → wp_X10_fault (fun zZ => ws_X10_readAct_61 post jY m_length qG rG rQ p0 r_1 uW zZ wE) uW eY))))))))) jY m_length qG uW rG rQ
set_option maxHeartbeats 4000000 in
set_option maxRecDepth 100000 in
theorem c_X10_readAct (l : Launch) (dC : Nat → ClassId) (dI : Nat → Nat → Nat) (cI cC cZ cB cJ : ClassId) (a_m oJ uD dY iJ lJ jQ jR jW jK pJ bM aY jO gR gY mK jZ iY bG mJ jB mQ lY eJ bY sz : Nat) (p0 bW aG jG bQ dG : Int32) (jY : Nat) (m_length qG uW eY aJ aB bU dN aR aE bJ aW bT gJ dU bL bR bO mY pW : Int32) (rG rQ wE : Nat → Int32) (post : Int32 → Int32 → (Nat → Int32) → Prop) (hw : wp_X10_readAct post p0 jY m_length qG uW eY rG rQ wE) : Met l yX10_readAct (gw yX10_readAct cX10_readAct 3 none) rm_X10_readAct (va_Pc [.ref a_m, .int p0] (gPre (dC, dI) (tyl cI cC cZ cB cJ) (wd_X10_readAct cI cC cZ cB cJ a_m oJ uD dY iJ lJ jQ jR jW jK pJ bM aY jO gR gY mK jZ iY bG mJ jB mQ lY eJ bY bW aG jG bQ dG jY m_length qG uW eY aJ aB bU dN aR aE bJ aW bT gJ dU bL bR bO mY pW rG rQ wE) sz)) (q_X10_readAct dC dI cI cC cZ cB cJ (va_A (wd_X10_readAct cI cC cZ cB cJ a_m oJ uD dY iJ lJ jQ jR jW jK pJ bM aY jO gR gY mK jZ iY bG mJ jB mQ lY eJ bY bW aG jG bQ dG jY m_length qG uW eY aJ aB bU dN aR aE bJ aW bT gJ dU bL bR bO mY pW rG rQ wE) sz) a_m oJ uD dY iJ lJ jQ jR jW jK pJ bM aY jO gR gY mK jZ iY bG mJ jB mQ lY eJ bY bW aG jG bQ dG jY m_length qG aJ aB bU dN aR aE bJ aW bT gJ dU bL bR bO mY pW rG rQ post) 0 0 (va_A (wd_X10_readAct cI cC cZ cB cJ a_m oJ uD dY iJ lJ jQ jR jW jK pJ bM aY jO gR gY mK jZ iY bG mJ jB mQ lY eJ bY bW aG jG bQ dG jY m_length qG uW eY aJ aB bU dN aR aE bJ aW bT gJ dU bL bR bO mY pW rG rQ wE) sz) := by
  refine g_enter (own := RX10) (dC, dI) (tyl cI cC cZ cB cJ) (wd_X10_readAct cI cC cZ cB cJ a_m oJ uD dY iJ lJ jQ jR jW jK pJ bM aY jO gR gY mK jZ iY bG mJ jB mQ lY eJ bY bW aG jG bQ dG jY m_length qG uW eY aJ aB bU dN aR aE bJ aW bT gJ dU bL bR bO mY pW rG rQ wE) sz [.ref a_m, .int p0] (fun A => q_X10_readAct dC dI cI cC cZ cB cJ A a_m oJ uD dY iJ lJ jQ jR jW jK pJ bM aY jO gR gY mK jZ iY bG mJ jB mQ lY eJ bY bW aG jG bQ dG jY m_length qG aJ aB bU dN aR aE bJ aW bT gJ dU bL bR bO mY pW rG rQ post) pn_RX10 rfl (Nat.le_of_ble_eq_true rfl) ?_
  intro p e s m args below meth c A H locs ls C0 hP hD hS hl
  have hl : lv_has ls 3 [(0, .ref a_m), (1, .int p0)] := hl
  obtain ⟨hx, hb, hr, hml, hown, hts, hlocks, hA, hK, hN, tL, tM, hZL, hTL, hZM, hTM, hZX⟩ := id C0
  have hp := hw
  unfold wp_X10_readAct at hp
  refine lv_aload_n hx hb eX10_readAct_0.1 rfl (lv_at hl 0 rfl) ?_
  have hm := mgk (wc := (wd_X10_here cI cC cZ cB cJ a_m oJ uD dY iJ lJ jQ jR jW jK pJ bM aY jO gR gY mK jZ iY bG mJ jB mQ lY eJ bY bW aG jG bQ dG jY m_length qG uW eY aJ aB bU dN aR aE bJ aW bT gJ dU bL bR bO mY pW rG rQ)) hP aJN 4 rfl rfl rfl
  refine g_calli hP hD hS hA (mixT aJN) (mixF aJN) hm.1 hm.2 (nd_F _) (dis_g _) (g_runV (As := []) (rest := []) C0 hP hD hS (mixT aJN) hm.1 (nd_T _) 0 10 rfl rfl (c_X10_here l dC dI cI cC cZ cB cJ a_m oJ uD dY iJ lJ jQ jR jW jK pJ bM aY jO gR gY mK jZ iY bG mJ jB mQ lY eJ bY H.size bW aG jG bQ dG jY m_length qG uW eY aJ aB bU dN aR aE bJ aW bT gJ dU bL bR bO mY pW rG rQ _ hp) q_658 q_661 q_659 q_660 q_642 h_X10_here rfl rfl ⟨Nat.le_of_ble_eq_true rfl, Nat.le_of_ble_eq_true rfl⟩ rfl rfl hl.1 rfl (lv_room (Nat.le_of_ble_eq_true rfl)) eX10_readAct_0.2.1 ⟨Nat.zero_le _, Nat.zero_le _⟩) (fun r_1 u H locs hp hP hD hS => ?_)
  have hPD := PDm (ws' := (wd_X10_readAct cI cC cZ cB cJ a_m oJ uD dY iJ lJ jQ jR jW jK pJ bM aY jO gR gY mK jZ iY bG mJ jB mQ lY eJ bY bW aG jG bQ dG jY m_length qG uW eY aJ aB bU dN aR aE bJ aW bT gJ dU bL bR bO mY pW rG rQ wE)) hP hD 4 rfl rfl rfl
  have hP := hPD.1
  have hD := hPD.2
  refine lv_istore_n (lv' := [(2, .int r_1), (0, .ref a_m), (1, .int p0)]) hx hb eX10_readAct_0.2.2.1 rfl hl (by decide) rfl (fun ls hl => ?_)
  refine lv_iload_n hx hb eX10_readAct_0.2.2.2.1 rfl (lv_at hl 0 rfl) ?_
  refine lv_bipush (v := 109) hx hb eX10_readAct_0.2.2.2.2.1 bp_109 ?_
  refine lv_icmp_eq (tgt := 61) hx hb eX10_readAct_0.2.2.2.2.2.1 (by decide) (fun hc => ?_) (fun hc => ?_)
  · have hp := hp.1 hc
    exact ks_X10_readAct_61 C0 p0 r_1 uW eY wE H locs ls hp hP hD hS (lv_sub hl [1, 2, 0] rfl)
  · have hp := hp.2 hc
    refine lv_iload_n hx hb eX10_readAct_0.2.2.2.2.2.2.1 rfl (lv_at hl 0 rfl) ?_
    refine lv_bipush (v := 112) hx hb eX10_readAct_0.2.2.2.2.2.2.2.1 bp_112 ?_
    refine lv_icmp_eq (tgt := 61) hx hb eX10_readAct_0.2.2.2.2.2.2.2.2.1 (by decide) (fun hc => ?_) (fun hc => ?_)
    · have hp := hp.1 hc
      exact ks_X10_readAct_61 C0 p0 r_1 uW eY wE H locs ls hp hP hD hS (lv_sub hl [1, 2, 0] rfl)
    · have hp := hp.2 hc
      refine lv_iload_n hx hb eX10_readAct_0.2.2.2.2.2.2.2.2.2.1 rfl (lv_at hl 0 rfl) ?_
      refine lv_bipush (v := 104) hx hb eX10_readAct_0.2.2.2.2.2.2.2.2.2.2.1 bp_104 ?_
      refine lv_icmp_eq (tgt := 61) hx hb eX10_readAct_0.2.2.2.2.2.2.2.2.2.2.2.1 (by decide) (fun hc => ?_) (fun hc => ?_)
      · have hp := hp.1 hc
        exact ks_X10_readAct_61 C0 p0 r_1 uW eY wE H locs ls hp hP hD hS (lv_sub hl [1, 2, 0] rfl)
      · have hp := hp.2 hc
        refine lv_iload_n hx hb eX10_readAct_0.2.2.2.2.2.2.2.2.2.2.2.2.1 rfl (lv_at hl 0 rfl) ?_
        refine lv_bipush (v := 100) hx hb eX10_readAct_0.2.2.2.2.2.2.2.2.2.2.2.2.2.1 bp_100 ?_
        refine lv_icmp_eq (tgt := 61) hx hb eX10_readAct_0.2.2.2.2.2.2.2.2.2.2.2.2.2.2.1 (by decide) (fun hc => ?_) (fun hc => ?_)
        · have hp := hp.1 hc
          exact ks_X10_readAct_61 C0 p0 r_1 uW eY wE H locs ls hp hP hD hS (lv_sub hl [1, 2, 0] rfl)
        · have hp := hp.2 hc
          refine lv_iload_n hx hb eX10_readAct_0.2.2.2.2.2.2.2.2.2.2.2.2.2.2.2 rfl (lv_at hl 0 rfl) ?_
          refine lv_bipush (v := 107) hx hb eX10_readAct_30.1 bp_107 ?_
          refine lv_icmp_eq (tgt := 61) hx hb eX10_readAct_30.2.1 (by decide) (fun hc => ?_) (fun hc => ?_)
          · have hp := hp.1 hc
            exact ks_X10_readAct_61 C0 p0 r_1 uW eY wE H locs ls hp hP hD hS (lv_sub hl [1, 2, 0] rfl)
          · have hp := hp.2 hc
            refine lv_iload_n hx hb eX10_readAct_30.2.2.1 rfl (lv_at hl 0 rfl) ?_
            refine lv_bipush (v := 97) hx hb eX10_readAct_30.2.2.2.1 bp_97 ?_
            refine lv_icmp_eq (tgt := 61) hx hb eX10_readAct_30.2.2.2.2.1 (by decide) (fun hc => ?_) (fun hc => ?_)
            · have hp := hp.1 hc
              exact ks_X10_readAct_61 C0 p0 r_1 uW eY wE H locs ls hp hP hD hS (lv_sub hl [1, 2, 0] rfl)
            · have hp := hp.2 hc
              refine lv_iload_n hx hb eX10_readAct_30.2.2.2.2.2.1 rfl (lv_at hl 0 rfl) ?_
              refine lv_bipush (v := 111) hx hb eX10_readAct_30.2.2.2.2.2.2.1 bp_111 ?_
              refine lv_icmp_eq (tgt := 61) hx hb eX10_readAct_30.2.2.2.2.2.2.2.1 (by decide) (fun hc => ?_) (fun hc => ?_)
              · have hp := hp.1 hc
                exact ks_X10_readAct_61 C0 p0 r_1 uW eY wE H locs ls hp hP hD hS (lv_sub hl [1, 2, 0] rfl)
              · have hp := hp.2 hc
                refine lv_iload_n hx hb eX10_readAct_30.2.2.2.2.2.2.2.2.1 rfl (lv_at hl 0 rfl) ?_
                refine lv_bipush (v := 122) hx hb eX10_readAct_30.2.2.2.2.2.2.2.2.2.1 bp_122 ?_
                refine lv_icmp_eq (tgt := 61) hx hb eX10_readAct_30.2.2.2.2.2.2.2.2.2.2.1 (by decide) (fun hc => ?_) (fun hc => ?_)
                · have hp := hp.1 hc
                  exact ks_X10_readAct_61 C0 p0 r_1 uW eY wE H locs ls hp hP hD hS (lv_sub hl [1, 2, 0] rfl)
                · have hp := hp.2 hc
                  refine lv_aload_n hx hb eX10_readAct_30.2.2.2.2.2.2.2.2.2.2.2.1 rfl (lv_at hl 1 rfl) ?_
                  refine lv_aload_n hx hb eX10_readAct_30.2.2.2.2.2.2.2.2.2.2.2.2.1 rfl (lv_at hl 1 rfl) ?_
                  refine va_get (D := (dC, dI)) (ci := 10) (v := .int uW) (C := RX10) (T := TX10) (N := 51) hx hb hts i_X10 hown hK hP 0 rfl rfl 18 (Nat.le_of_ble_eq_true rfl) (hts _ q_648) (fun _ h9 => h9) rfl eX10_readAct_30.2.2.2.2.2.2.2.2.2.2.2.2.2.1 ?_
                  have hm := mgk (wc := (wd_X10_fault cI cC cZ cB cJ a_m oJ uD dY iJ lJ jQ jR jW jK pJ bM aY jO gR gY mK jZ iY bG mJ jB mQ lY eJ bY bW aG jG bQ dG jY m_length qG uW eY aJ aB bU dN aR aE bJ aW bT gJ dU bL bR bO mY pW)) hP mk_15 4 rfl rfl rfl
                  refine g_callv hP hD hS hA (mixT mk_15) (mixF mk_15) hm.1 hm.2 (nd_F _) (dis_g _) (g_runV (As := [.int uW]) (rest := []) C0 hP hD hS (mixT mk_15) hm.1 (nd_T _) 0 10 rfl rfl (c_X10_fault l dC dI cI cC cZ cB cJ a_m oJ uD dY iJ lJ jQ jR jW jK pJ bM aY jO gR gY mK jZ iY bG mJ jB mQ lY eJ bY H.size uW bW aG jG bQ dG jY m_length qG uW eY aJ aB bU dN aR aE bJ aW bT gJ dU bL bR bO mY pW _ hp) q_654 q_657 q_655 q_656 q_642 h_X10_fault rfl rfl ⟨Nat.le_of_ble_eq_true rfl, Nat.le_of_ble_eq_true rfl⟩ rfl rfl hl.1 rfl (lv_room (Nat.le_of_ble_eq_true rfl)) eX10_readAct_30.2.2.2.2.2.2.2.2.2.2.2.2.2.2.1 ⟨Nat.zero_le _, Nat.zero_le _⟩) (fun u H locs hp hP hD hS => ?_)
                  obtain ⟨zZ, rfl⟩ : ∃ z, z = u := ⟨_, rfl⟩
                  have hPD := PDm (ws' := (wd_X10_readAct cI cC cZ cB cJ a_m oJ uD dY iJ lJ jQ jR jW jK pJ bM aY jO gR gY mK jZ iY bG mJ jB mQ lY eJ bY bW aG jG bQ dG jY m_length qG uW zZ aJ aB bU dN aR aE bJ aW bT gJ dU bL bR bO mY pW rG rQ wE)) hP hD 4 rfl rfl rfl
                  have hP := hPD.1
                  have hD := hPD.2
                  exact ks_X10_readAct_61 C0 p0 r_1 uW zZ wE H locs ls hp hP hD hS (lv_sub hl [1, 2, 0] rfl)
noncomputable abbrev wd_X10_lay_b2 (cI cC cZ cB cJ : ClassId) (oJ gY : Nat) (rD uZ : Nat → Int32) : va_W := [(oJ, .inl (cI, 21, .inl rD)), (gY, .inl (cI, 21, .inl uZ))]
noncomputable abbrev q_X10_lay_b2 (dC : Nat → ClassId) (dI : Nat → Nat → Nat) (cI cC cZ cB cJ : ClassId) (A : Nat → Prop) (oJ gY : Nat) (rD : Nat → Int32) (post : (Nat → Int32) → Prop) : Array Value → State → Outcome → State → Prop := va_Qv (fun (u : (Nat → Int32)) => post u) (fun u t => gB (dC, dI) (tyl cI cC cZ cB cJ) A (wd_X10_lay_b2 cI cC cZ cB cJ oJ gY rD u) t) A
noncomputable abbrev rm_X10_lay_b2 : Room := { frames := 0, cells := 0, slots := 0, locals := 0 }
section S_X10_lay_b2
variable {p : Program} {l : Launch} {e : Env} {s : State} {m : MethodId} {args : Array Value} {below : List Frame} {meth : Method} {c : Code} {dC : Nat → ClassId} {dI : Nat → Nat → Nat} {cI cC cZ cB cJ : ClassId} {A : Nat → Prop} {oJ gY : Nat} {rD : Nat → Int32} {post : (Nat → Int32) → Prop}
noncomputable def ws_X10_lay_b2_2 (post : (Nat → Int32) → Prop) (next : Int32 → Int32 → (Nat → Int32) → Prop) (rD : Nat → Int32) (x2 x3 : Int32) (uZ : Nat → Int32) : Prop := (21 ≤ x3 → post uZ) ∧ (¬ 21 ≤ x3 → ∀ v_1 : Int32, v_1 = x2 + x3 → vp_in x3 21 ∧ (∀ v_2 : Int32, v_2 = rD x3.toNatClampNeg → vp_in v_1 21 ∧ (∀ v_3 : Int32, v_3 = x3 + 1 → next x2 v_3 (upd uZ v_1.toNatClampNeg v_2))))
noncomputable def wb_X10_lay_b2_2 (post : (Nat → Int32) → Prop) (rD : Nat → Int32) : Nat → Int32 → Int32 → (Nat → Int32) → Prop := fun n => Nat.rec (motive := fun _ => Int32 → Int32 → (Nat → Int32) → Prop) (fun _ _ _ => False) (fun _ ih => ws_X10_lay_b2_2 post ih rD) n
set_option maxHeartbeats 4000000 in
set_option maxRecDepth 100000 in
theorem ks_X10_lay_b2_2 (C0 : gc cX10_lay none 4 RX10 (dC, dI) (tyl cI cC cZ cB cJ) A p s m args meth c) {next : Int32 → Int32 → (Nat → Int32) → Prop} (hKn : ∀ (x2 : Int32) (x3 : Int32) (uZ : Nat → Int32) (H : Heap) (locs : List Loc) (ls : Array Slot), next x2 x3 uZ → va_P (dC, dI) classes (wd_X10_lay_b2 cI cC cZ cB cJ oJ gY rD uZ) H → va_D A (wd_X10_lay_b2 cI cC cZ cB cJ oJ gY rD uZ) → va_S A s.heap H locs → lv_has ls 4 [(0, .ref oJ), (1, .ref gY), (2, .int x2), (3, .int x3)] → W p l e rm_X10_lay_b2 s m args below meth c H locs 0 0 (MQ below (q_X10_lay_b2 dC dI cI cC cZ cB cJ A oJ gY rD post) args s 0 0 A) (F0 m 2 ls [])) : ∀ (x2 x3 : Int32) (uZ : Nat → Int32) (H : Heap) (locs : List Loc) (ls : Array Slot), (ws_X10_lay_b2_2 post next rD) x2 x3 uZ → va_P (dC, dI) classes (wd_X10_lay_b2 cI cC cZ cB cJ oJ gY rD uZ) H → va_D A (wd_X10_lay_b2 cI cC cZ cB cJ oJ gY rD uZ) → va_S A s.heap H locs → lv_has ls 4 [(0, .ref oJ), (1, .ref gY), (2, .int x2), (3, .int x3)] → W p l e rm_X10_lay_b2 s m args below meth c H locs 0 0 (MQ below (q_X10_lay_b2 dC dI cI cC cZ cB cJ A oJ gY rD post) args s 0 0 A) (F0 m 2 ls []) := by
  obtain ⟨hx, hb, hr, hml, hown, hts, hlocks, hA, hK, hN, tL, tM, hZL, hTL, hZM, hTM, hZX⟩ := id C0
  intro x2 x3 uZ H locs ls hp hP hD hS hl
  unfold ws_X10_lay_b2_2 at hp
  refine lv_iload_n hx hb eX10_lay_0.2.2.1 rfl (lv_at hl 3 rfl) ?_
  refine lv_bipush (v := 21) hx hb eX10_lay_0.2.2.2.1 bp_21 ?_
  refine lv_icmp_ge (tgt := 22) hx hb eX10_lay_0.2.2.2.2.1 (by decide) (fun hc => ?_) (fun hc => ?_)
  · have hp := hp.1 hc
    exact W.vret hx hb hr (fun t ht hW => ⟨⟨uZ, rfl, hp, by rw [ht]; exact hP, va_K.moved hW.alike hK, hD⟩, hS.F ht⟩) hS.2.2 eX10_lay_0.2.2.2.2.2.2.2.2.2.2.2.2.2.2.2
  · have hp := hp.2 hc
    refine lv_aload_n hx hb eX10_lay_0.2.2.2.2.2.1 rfl (lv_at hl 1 rfl) ?_
    refine lv_iload_n hx hb eX10_lay_0.2.2.2.2.2.2.1 rfl (lv_at hl 2 rfl) ?_
    refine lv_iload_n hx hb eX10_lay_0.2.2.2.2.2.2.2.1 rfl (lv_at hl 3 rfl) ?_
    refine lv_iadd hx hb eX10_lay_0.2.2.2.2.2.2.2.2.1 ?_
    refine lv_topi (fun v_1 ev_1 => ?_)
    have hp := hp v_1 ev_1
    refine lv_aload_n hx hb eX10_lay_0.2.2.2.2.2.2.2.2.2.1 rfl (lv_at hl 0 rfl) ?_
    refine lv_iload_n hx hb eX10_lay_0.2.2.2.2.2.2.2.2.2.2.1 rfl (lv_at hl 3 rfl) ?_
    have hin := hp.1
    have hp := hp.2
    refine va_iald hx hb hK hP 0 0 rfl rfl hin eX10_lay_0.2.2.2.2.2.2.2.2.2.2.2.1 ?_
    refine lv_topi (fun v_2 ev_2 => ?_)
    have hp := hp v_2 ev_2
    have hin := hp.1
    have hp := hp.2
    refine va_iast hx hb hK hP hD hS 1 0 rfl rfl hin eX10_lay_0.2.2.2.2.2.2.2.2.2.2.2.2.1 (fun H locs hP hD hS => ?_)
    have hP : va_P (dC, dI) classes (wd_X10_lay_b2 cI cC cZ cB cJ oJ gY rD (upd uZ v_1.toNatClampNeg v_2)) H := hP
    have hD : va_D A (wd_X10_lay_b2 cI cC cZ cB cJ oJ gY rD (upd uZ v_1.toNatClampNeg v_2)) := hD
    obtain ⟨v_3, ev_3⟩ : ∃ y : Int32, y = x3 + 1 := ⟨_, rfl⟩
    refine lv_iinc (v := v_3) (lv' := [(3, .int v_3), (0, .ref oJ), (1, .ref gY), (2, .int x2)]) hx hb eX10_lay_0.2.2.2.2.2.2.2.2.2.2.2.2.2.1 hl (k := 3) rfl (by rw [ev_3]; rfl) (by decide) rfl (fun ls hl => ?_)
    have hp := hp v_3 ev_3
    refine lv_goto (tgt := 2) hx hb eX10_lay_0.2.2.2.2.2.2.2.2.2.2.2.2.2.2.1 (by decide) ?_
    exact hKn x2 v_3 (upd uZ v_1.toNatClampNeg v_2) H locs ls hp hP hD hS (lv_sub hl [1, 2, 3, 0] rfl)
set_option maxHeartbeats 4000000 in
set_option maxRecDepth 100000 in
theorem kb_X10_lay_b2_2 (C0 : gc cX10_lay none 4 RX10 (dC, dI) (tyl cI cC cZ cB cJ) A p s m args meth c) : ∀ (n : Nat), ∀ (x2 x3 : Int32) (uZ : Nat → Int32) (H : Heap) (locs : List Loc) (ls : Array Slot), (wb_X10_lay_b2_2 post rD n) x2 x3 uZ → va_P (dC, dI) classes (wd_X10_lay_b2 cI cC cZ cB cJ oJ gY rD uZ) H → va_D A (wd_X10_lay_b2 cI cC cZ cB cJ oJ gY rD uZ) → va_S A s.heap H locs → lv_has ls 4 [(0, .ref oJ), (1, .ref gY), (2, .int x2), (3, .int x3)] → W p l e rm_X10_lay_b2 s m args below meth c H locs 0 0 (MQ below (q_X10_lay_b2 dC dI cI cC cZ cB cJ A oJ gY rD post) args s 0 0 A) (F0 m 2 ls []) := by
  intro n
  induction n with
  | zero =>
    intro x2 x3 uZ H locs ls hp
    exact False.elim hp
  | succ n ih =>
    intro x2 x3 uZ H locs ls hp
    exact ks_X10_lay_b2_2 C0 ih x2 x3 uZ H locs ls hp
end S_X10_lay_b2
noncomputable def wp_X10_lay_b2 (post : (Nat → Int32) → Prop) (p2 : Int32) (rD uZ : Nat → Int32) : Prop := ∃ n : Nat, wb_X10_lay_b2_2 post rD n p2 0 uZ
set_option maxHeartbeats 4000000 in
set_option maxRecDepth 100000 in
theorem c_X10_lay_b2 (l : Launch) (dC : Nat → ClassId) (dI : Nat → Nat → Nat) (cI cC cZ cB cJ : ClassId) (oJ gY sz : Nat) (p2 : Int32) (rD uZ : Nat → Int32) (post : (Nat → Int32) → Prop) (hw : wp_X10_lay_b2 post p2 rD uZ) : Met l yX10_lay (gw yX10_lay cX10_lay 4 none) rm_X10_lay_b2 (va_Pc [.ref oJ, .ref gY, .int p2] (gPre (dC, dI) (tyl cI cC cZ cB cJ) (wd_X10_lay_b2 cI cC cZ cB cJ oJ gY rD uZ) sz)) (q_X10_lay_b2 dC dI cI cC cZ cB cJ (va_A (wd_X10_lay_b2 cI cC cZ cB cJ oJ gY rD uZ) sz) oJ gY rD post) 0 0 (va_A (wd_X10_lay_b2 cI cC cZ cB cJ oJ gY rD uZ) sz) := by
  refine g_enter (own := RX10) (dC, dI) (tyl cI cC cZ cB cJ) (wd_X10_lay_b2 cI cC cZ cB cJ oJ gY rD uZ) sz [.ref oJ, .ref gY, .int p2] (fun A => q_X10_lay_b2 dC dI cI cC cZ cB cJ A oJ gY rD post) pn_RX10 rfl (Nat.le_of_ble_eq_true rfl) ?_
  intro p e s m args below meth c A H locs ls C0 hP hD hS hl
  have hl : lv_has ls 4 [(0, .ref oJ), (1, .ref gY), (2, .int p2)] := hl
  obtain ⟨hx, hb, hr, hml, hown, hts, hlocks, hA, hK, hN, tL, tM, hZL, hTL, hZM, hTM, hZX⟩ := id C0
  have hp := hw
  unfold wp_X10_lay_b2 at hp
  refine lv_iconst (v := 0) hx hb eX10_lay_0.1 ic_0 ?_
  refine lv_istore_n (lv' := [(3, .int 0), (0, .ref oJ), (1, .ref gY), (2, .int p2)]) hx hb eX10_lay_0.2.1 rfl hl (by decide) rfl (fun ls hl => ?_)
  obtain ⟨n9, hp⟩ := hp
  exact kb_X10_lay_b2_2 C0 n9 p2 0 uZ H locs ls hp hP hD hS (lv_sub hl [1, 2, 3, 0] rfl)
noncomputable abbrev wd_X10_act (cI cC cZ cB cJ : ClassId) (a_m oJ uD dY iJ lJ jQ jR jW jK pJ bM aY jO gR gY mK jZ iY bG mJ jB mQ lY eJ bY : Nat) (bW aG jG bQ dG : Int32) (jY : Nat) (m_length qG uW eY aJ aB bU dN aR aE bJ aW bT gJ dU bL bR bO mY pW : Int32) (rD m_x jA pY rW oY pR pX rG rQ : Nat → Int32) : va_W := [(a_m, .inr (10, [.ref oJ, .int bW, .ref uD, .ref dY, .ref iJ, .ref lJ, .int aG, .ref jQ, .ref jR, .ref jW, .ref jK, .int jG, .ref pJ, .int bQ, .int dG, rdv jK jO jY, .int m_length, .int qG, .int uW, .int eY, .ref bM, .ref aY, .int aJ, .int aB, .ref jO, .int bU, .int dN, .int aR, .int aE, .int bJ, .int aW, .ref gR, .int bT, .ref gY, .ref mK, .int gJ, .ref jZ, .int dU, .ref iY, .ref bG, .int bL, .int bR, .int bO, .ref mJ, .ref jB, .ref mQ, .int mY, .int pW, .ref lY, .ref eJ, .ref bY])), (oJ, .inl (cI, 21, .inl rD)), (uD, .inl (cI, 16, .inl m_x)), (dY, .inl (cI, 16, .inl jA)), (iJ, .inl (cI, 16, .inl pY)), (lJ, .inl (cI, 16, .inl rW)), (jQ, .inl (cI, 8, .inl oY)), (jR, .inl (cI, 8, .inl pR)), (jW, .inl (cI, 5, .inl pX)), (jK, .inl (cB, 80, .inl rG)), (jO, .inl (cB, 40, .inl rQ))]
noncomputable abbrev q_X10_act (dC : Nat → ClassId) (dI : Nat → Nat → Nat) (cI cC cZ cB cJ : ClassId) (A : Nat → Prop) (a_m oJ uD dY iJ lJ jQ jR jW jK pJ bM aY jO gR gY mK jZ iY bG mJ jB mQ lY eJ bY : Nat) (bW aG jG bQ dG aJ aB bU bT dU bL bR bO mY pW : Int32) (m_x jA pY rW oY pR pX rG rQ : Nat → Int32) (post : Int32 → Nat → Int32 → Int32 → Int32 → Int32 → Int32 → Int32 → Int32 → Int32 → Int32 → Int32 → (Nat → Int32) → Prop) : Array Value → State → Outcome → State → Prop := va_Qi (fun (r : Int32) (u : Nat × Int32 × Int32 × Int32 × Int32 × Int32 × Int32 × Int32 × Int32 × Int32 × Int32 × (Nat → Int32)) => post r u.1 u.2.1 u.2.2.1 u.2.2.2.1 u.2.2.2.2.1 u.2.2.2.2.2.1 u.2.2.2.2.2.2.1 u.2.2.2.2.2.2.2.1 u.2.2.2.2.2.2.2.2.1 u.2.2.2.2.2.2.2.2.2.1 u.2.2.2.2.2.2.2.2.2.2.1 u.2.2.2.2.2.2.2.2.2.2.2) (fun u t => gB (dC, dI) (tyl cI cC cZ cB cJ) A (wd_X10_act cI cC cZ cB cJ a_m oJ uD dY iJ lJ jQ jR jW jK pJ bM aY jO gR gY mK jZ iY bG mJ jB mQ lY eJ bY bW aG jG bQ dG u.1 u.2.1 u.2.2.1 u.2.2.2.1 u.2.2.2.2.1 aJ aB bU u.2.2.2.2.2.1 u.2.2.2.2.2.2.1 u.2.2.2.2.2.2.2.1 u.2.2.2.2.2.2.2.2.1 u.2.2.2.2.2.2.2.2.2.1 bT u.2.2.2.2.2.2.2.2.2.2.1 dU bL bR bO mY pW u.2.2.2.2.2.2.2.2.2.2.2 m_x jA pY rW oY pR pX rG rQ) t) A
noncomputable abbrev rm_X10_act : Room := { frames := 267, cells := 0, slots := 0, locals := 8805 }
section S_X10_act
variable {p : Program} {l : Launch} {e : Env} {s : State} {m : MethodId} {args : Array Value} {below : List Frame} {meth : Method} {c : Code} {dC : Nat → ClassId} {dI : Nat → Nat → Nat} {cI cC cZ cB cJ : ClassId} {A : Nat → Prop} {a_m oJ uD dY iJ lJ jQ jR jW jK pJ bM aY jO gR gY mK jZ iY bG mJ jB mQ lY eJ bY : Nat} {bW aG jG bQ dG aJ aB bU bT dU bL bR bO mY pW : Int32} {m_x jA pY rW oY pR pX rG rQ : Nat → Int32} {post : Int32 → Nat → Int32 → Int32 → Int32 → Int32 → Int32 → Int32 → Int32 → Int32 → Int32 → Int32 → (Nat → Int32) → Prop}
noncomputable def ws_X10_act_193 (post : Int32 → Nat → Int32 → Int32 → Int32 → Int32 → Int32 → Int32 → Int32 → Int32 → Int32 → Int32 → (Nat → Int32) → Prop) (bW aG bU : Int32) (m_x jA pY rW oY pR pX rG rQ : Nat → Int32) (k1 k2 : Int32) (jY : Nat) (m_length qG uW eY dN aR aE bJ aW gJ : Int32) (rD : Nat → Int32) : Prop := vp_in k1 21 ∧ (post 1 jY m_length qG uW eY dN aR aE bJ aW gJ (upd rD k1.toNatClampNeg k2))
set_option maxHeartbeats 4000000 in
set_option maxRecDepth 100000 in
theorem ks_X10_act_193 (C0 : gc cX10_act (some .boolean) 4 RX10 (dC, dI) (tyl cI cC cZ cB cJ) A p s m args meth c) : ∀ (k1 k2 : Int32) (jY : Nat) (m_length qG uW eY dN aR aE bJ aW gJ : Int32) (rD : Nat → Int32) (H : Heap) (locs : List Loc) (ls : Array Slot), (ws_X10_act_193 post bW aG bU m_x jA pY rW oY pR pX rG rQ) k1 k2 jY m_length qG uW eY dN aR aE bJ aW gJ rD → va_P (dC, dI) classes (wd_X10_act cI cC cZ cB cJ a_m oJ uD dY iJ lJ jQ jR jW jK pJ bM aY jO gR gY mK jZ iY bG mJ jB mQ lY eJ bY bW aG jG bQ dG jY m_length qG uW eY aJ aB bU dN aR aE bJ aW bT gJ dU bL bR bO mY pW rD m_x jA pY rW oY pR pX rG rQ) H → va_D A (wd_X10_act cI cC cZ cB cJ a_m oJ uD dY iJ lJ jQ jR jW jK pJ bM aY jO gR gY mK jZ iY bG mJ jB mQ lY eJ bY bW aG jG bQ dG jY m_length qG uW eY aJ aB bU dN aR aE bJ aW bT gJ dU bL bR bO mY pW rD m_x jA pY rW oY pR pX rG rQ) → va_S A s.heap H locs → lv_has ls 4 [] → W p l e rm_X10_act s m args below meth c H locs 0 0 (MQ below (q_X10_act dC dI cI cC cZ cB cJ A a_m oJ uD dY iJ lJ jQ jR jW jK pJ bM aY jO gR gY mK jZ iY bG mJ jB mQ lY eJ bY bW aG jG bQ dG aJ aB bU bT dU bL bR bO mY pW m_x jA pY rW oY pR pX rG rQ post) args s 0 0 A) (F0 m 193 ls [.int k2, .int k1, .ref oJ]) := by
  obtain ⟨hx, hb, hr, hml, hown, hts, hlocks, hA, hK, hN, tL, tM, hZL, hTL, hZM, hTM, hZX⟩ := id C0
  intro k1 k2 jY m_length qG uW eY dN aR aE bJ aW gJ rD H locs ls hp hP hD hS hl
  unfold ws_X10_act_193 at hp
  have hin := hp.1
  have hp := hp.2
  refine va_iast hx hb hK hP hD hS 1 0 rfl rfl hin eX10_act_174.2.2.2.2.2.2.2.2.2.2.2.1 (fun H locs hP hD hS => ?_)
  have hP : va_P (dC, dI) classes (wd_X10_act cI cC cZ cB cJ a_m oJ uD dY iJ lJ jQ jR jW jK pJ bM aY jO gR gY mK jZ iY bG mJ jB mQ lY eJ bY bW aG jG bQ dG jY m_length qG uW eY aJ aB bU dN aR aE bJ aW bT gJ dU bL bR bO mY pW (upd rD k1.toNatClampNeg k2) m_x jA pY rW oY pR pX rG rQ) H := hP
  have hD : va_D A (wd_X10_act cI cC cZ cB cJ a_m oJ uD dY iJ lJ jQ jR jW jK pJ bM aY jO gR gY mK jZ iY bG mJ jB mQ lY eJ bY bW aG jG bQ dG jY m_length qG uW eY aJ aB bU dN aR aE bJ aW bT gJ dU bL bR bO mY pW (upd rD k1.toNatClampNeg k2) m_x jA pY rW oY pR pX rG rQ) := hD
  refine lv_iconst (v := 1) hx hb eX10_act_174.2.2.2.2.2.2.2.2.2.2.2.2.1 ic_1 ?_
  exact W.zret (v := 1) hx hb hr rfl (fun t ht hW => ⟨⟨1, (jY, m_length, qG, uW, eY, dN, aR, aE, bJ, aW, gJ, (upd rD k1.toNatClampNeg k2)), rfl, hp, by rw [ht]; exact hP, va_K.moved hW.alike hK, hD⟩, hS.F ht⟩) hS.2.2 eX10_act_174.2.2.2.2.2.2.2.2.2.2.2.2.2.1
noncomputable def ws_X10_act_176 (post : Int32 → Nat → Int32 → Int32 → Int32 → Int32 → Int32 → Int32 → Int32 → Int32 → Int32 → Int32 → (Nat → Int32) → Prop) (bW aG bU : Int32) (m_x jA pY rW oY pR pX rG rQ : Nat → Int32) (x1 : Int32) (jY : Nat) (m_length qG uW eY dN aR aE bJ aW gJ : Int32) (rD : Nat → Int32) : Prop := (¬ x1 = 97 → ws_X10_act_193 post bW aG bU m_x jA pY rW oY pR pX rG rQ 18 0 jY m_length qG uW eY dN aR aE bJ aW gJ rD) ∧ (x1 = 97 → ws_X10_act_193 post bW aG bU m_x jA pY rW oY pR pX rG rQ 18 1 jY m_length qG uW eY dN aR aE bJ aW gJ rD)
set_option maxHeartbeats 4000000 in
set_option maxRecDepth 100000 in
theorem ks_X10_act_176 (C0 : gc cX10_act (some .boolean) 4 RX10 (dC, dI) (tyl cI cC cZ cB cJ) A p s m args meth c) : ∀ (x1 : Int32) (jY : Nat) (m_length qG uW eY dN aR aE bJ aW gJ : Int32) (rD : Nat → Int32) (H : Heap) (locs : List Loc) (ls : Array Slot), (ws_X10_act_176 post bW aG bU m_x jA pY rW oY pR pX rG rQ) x1 jY m_length qG uW eY dN aR aE bJ aW gJ rD → va_P (dC, dI) classes (wd_X10_act cI cC cZ cB cJ a_m oJ uD dY iJ lJ jQ jR jW jK pJ bM aY jO gR gY mK jZ iY bG mJ jB mQ lY eJ bY bW aG jG bQ dG jY m_length qG uW eY aJ aB bU dN aR aE bJ aW bT gJ dU bL bR bO mY pW rD m_x jA pY rW oY pR pX rG rQ) H → va_D A (wd_X10_act cI cC cZ cB cJ a_m oJ uD dY iJ lJ jQ jR jW jK pJ bM aY jO gR gY mK jZ iY bG mJ jB mQ lY eJ bY bW aG jG bQ dG jY m_length qG uW eY aJ aB bU dN aR aE bJ aW bT gJ dU bL bR bO mY pW rD m_x jA pY rW oY pR pX rG rQ) → va_S A s.heap H locs → lv_has ls 4 [(0, .ref a_m), (1, .int x1)] → W p l e rm_X10_act s m args below meth c H locs 0 0 (MQ below (q_X10_act dC dI cI cC cZ cB cJ A a_m oJ uD dY iJ lJ jQ jR jW jK pJ bM aY jO gR gY mK jZ iY bG mJ jB mQ lY eJ bY bW aG jG bQ dG aJ aB bU bT dU bL bR bO mY pW m_x jA pY rW oY pR pX rG rQ post) args s 0 0 A) (F0 m 176 ls []) := by
  obtain ⟨hx, hb, hr, hml, hown, hts, hlocks, hA, hK, hN, tL, tM, hZL, hTL, hZM, hTM, hZX⟩ := id C0
  intro x1 jY m_length qG uW eY dN aR aE bJ aW gJ rD H locs ls hp hP hD hS hl
  unfold ws_X10_act_176 at hp
  refine lv_aload_n hx hb eX10_act_174.2.2.1 rfl (lv_at hl 0 rfl) ?_
  refine va_get (D := (dC, dI)) (ci := 10) (v := .ref oJ) (C := RX10) (T := TX10) (N := 51) hx hb hts i_X10 hown hK hP 0 rfl rfl 0 (Nat.le_of_ble_eq_true rfl) (hts _ q_692) (fun _ h9 => h9) rfl eX10_act_174.2.2.2.1 ?_
  refine lv_bipush (v := 18) hx hb eX10_act_174.2.2.2.2.1 bp_18 ?_
  refine lv_iload_n hx hb eX10_act_174.2.2.2.2.2.1 rfl (lv_at hl 1 rfl) ?_
  refine lv_bipush (v := 97) hx hb eX10_act_174.2.2.2.2.2.2.1 bp_97 ?_
  refine lv_icmp_ne (tgt := 192) hx hb eX10_act_174.2.2.2.2.2.2.2.1 (by decide) (fun hc => ?_) (fun hc => ?_)
  · have hp := hp.1 hc
    refine lv_iconst (v := 0) hx hb eX10_act_174.2.2.2.2.2.2.2.2.2.2.1 ic_0 ?_
    exact ks_X10_act_193 C0 18 0 jY m_length qG uW eY dN aR aE bJ aW gJ rD H locs ls hp hP hD hS (lv_sub hl [] rfl)
  · have hp := hp.2 hc
    refine lv_iconst (v := 1) hx hb eX10_act_174.2.2.2.2.2.2.2.2.1 ic_1 ?_
    refine lv_goto (tgt := 193) hx hb eX10_act_174.2.2.2.2.2.2.2.2.2.1 (by decide) ?_
    exact ks_X10_act_193 C0 18 1 jY m_length qG uW eY dN aR aE bJ aW gJ rD H locs ls hp hP hD hS (lv_sub hl [] rfl)
noncomputable def ws_X10_act_109 (post : Int32 → Nat → Int32 → Int32 → Int32 → Int32 → Int32 → Int32 → Int32 → Int32 → Int32 → Int32 → (Nat → Int32) → Prop) (bW aG bU : Int32) (m_x jA pY rW oY pR pX rG rQ : Nat → Int32) (x2 k0 : Int32) (jY : Nat) (m_length qG uW eY dN aR aE bJ aW gJ : Int32) (rD : Nat → Int32) : Prop := wp_X10_refusesPick (fun r_4 => (0 ≤ r_4 → wp_X10_goPick (fun r_5 aBl aAu aCb aAb yJ zV yS yK zD yW m_now_16 => ∀ v_17 : Int32, v_17 = gJ + 1 → post 1 aBl aAu aCb aAb yJ zV yS yK zD yW v_17 m_now_16) x2 k0 bW jY m_length qG uW eY bU dN aR aE bJ aW rD m_x jA pY oY pR rG rQ) ∧ (¬ 0 ≤ r_4 → post 0 jY m_length qG uW eY dN aR aE bJ aW gJ rD)) x2 k0 bW rD m_x jA rW oY pR pX
set_option maxHeartbeats 4000000 in
set_option maxRecDepth 100000 in
theorem ks_X10_act_109 (C0 : gc cX10_act (some .boolean) 4 RX10 (dC, dI) (tyl cI cC cZ cB cJ) A p s m args meth c) : ∀ (x2 k0 : Int32) (jY : Nat) (m_length qG uW eY dN aR aE bJ aW gJ : Int32) (rD : Nat → Int32) (H : Heap) (locs : List Loc) (ls : Array Slot), (ws_X10_act_109 post bW aG bU m_x jA pY rW oY pR pX rG rQ) x2 k0 jY m_length qG uW eY dN aR aE bJ aW gJ rD → va_P (dC, dI) classes (wd_X10_act cI cC cZ cB cJ a_m oJ uD dY iJ lJ jQ jR jW jK pJ bM aY jO gR gY mK jZ iY bG mJ jB mQ lY eJ bY bW aG jG bQ dG jY m_length qG uW eY aJ aB bU dN aR aE bJ aW bT gJ dU bL bR bO mY pW rD m_x jA pY rW oY pR pX rG rQ) H → va_D A (wd_X10_act cI cC cZ cB cJ a_m oJ uD dY iJ lJ jQ jR jW jK pJ bM aY jO gR gY mK jZ iY bG mJ jB mQ lY eJ bY bW aG jG bQ dG jY m_length qG uW eY aJ aB bU dN aR aE bJ aW bT gJ dU bL bR bO mY pW rD m_x jA pY rW oY pR pX rG rQ) → va_S A s.heap H locs → lv_has ls 4 [(0, .ref a_m), (2, .int x2)] → W p l e rm_X10_act s m args below meth c H locs 0 0 (MQ below (q_X10_act dC dI cI cC cZ cB cJ A a_m oJ uD dY iJ lJ jQ jR jW jK pJ bM aY jO gR gY mK jZ iY bG mJ jB mQ lY eJ bY bW aG jG bQ dG aJ aB bU bT dU bL bR bO mY pW m_x jA pY rW oY pR pX rG rQ post) args s 0 0 A) (F0 m 109 ls [.int k0]) := by
  obtain ⟨hx, hb, hr, hml, hown, hts, hlocks, hA, hK, hN, tL, tM, hZL, hTL, hZM, hTM, hZX⟩ := id C0
  intro x2 k0 jY m_length qG uW eY dN aR aE bJ aW gJ rD H locs ls hp hP hD hS hl
  unfold ws_X10_act_109 at hp
  refine lv_istore_n (lv' := [(3, .int k0), (0, .ref a_m), (2, .int x2)]) hx hb eX10_act_98.2.2.2.2.2.2.1 rfl hl (by decide) rfl (fun ls hl => ?_)
  refine lv_aload_n hx hb eX10_act_98.2.2.2.2.2.2.2.1 rfl (lv_at hl 1 rfl) ?_
  refine lv_iload_n hx hb eX10_act_98.2.2.2.2.2.2.2.2.1 rfl (lv_at hl 2 rfl) ?_
  refine lv_iload_n hx hb eX10_act_98.2.2.2.2.2.2.2.2.2.1 rfl (lv_at hl 0 rfl) ?_
  have hm := mgk (wc := (wd_X10_refusesPick cI cC cZ cB cJ a_m oJ uD dY iJ lJ jQ jR jW jK pJ bM aY jO gR gY mK jZ iY bG mJ jB mQ lY eJ bY bW aG jG bQ dG jY m_length qG uW eY aJ aB bU dN aR aE bJ aW bT gJ dU bL bR bO mY pW rD m_x jA rW oY pR pX)) hP mk_228 11 rfl rfl rfl
  refine g_calli hP hD hS hA (mixT mk_228) (mixF mk_228) hm.1 hm.2 (nd_F _) (dis_g _) (g_runV (As := [.int x2, .int k0]) (rest := []) C0 hP hD hS (mixT mk_228) hm.1 (nd_T _) 0 10 rfl rfl (c_X10_refusesPick l dC dI cI cC cZ cB cJ a_m oJ uD dY iJ lJ jQ jR jW jK pJ bM aY jO gR gY mK jZ iY bG mJ jB mQ lY eJ bY H.size x2 k0 bW aG jG bQ dG jY m_length qG uW eY aJ aB bU dN aR aE bJ aW bT gJ dU bL bR bO mY pW rD m_x jA rW oY pR pX _ hp) q_808 q_811 q_809 q_810 q_642 h_X10_refusesPick rfl rfl ⟨Nat.le_of_ble_eq_true rfl, Nat.le_of_ble_eq_true rfl⟩ rfl rfl hl.1 rfl (lv_room (Nat.le_of_ble_eq_true rfl)) eX10_act_98.2.2.2.2.2.2.2.2.2.2.1 ⟨Nat.zero_le _, Nat.zero_le _⟩) (fun r_4 u H locs hp hP hD hS => ?_)
  have hPD := PDm (ws' := (wd_X10_act cI cC cZ cB cJ a_m oJ uD dY iJ lJ jQ jR jW jK pJ bM aY jO gR gY mK jZ iY bG mJ jB mQ lY eJ bY bW aG jG bQ dG jY m_length qG uW eY aJ aB bU dN aR aE bJ aW bT gJ dU bL bR bO mY pW rD m_x jA pY rW oY pR pX rG rQ)) hP hD 11 rfl rfl rfl
  have hP := hPD.1
  have hD := hPD.2
  refine lv_if_ge (tgt := 121) hx hb eX10_act_98.2.2.2.2.2.2.2.2.2.2.2.1 (by decide) (fun hc => ?_) (fun hc => ?_)
  · have hp := hp.1 hc
    refine lv_aload_n hx hb eX10_act_98.2.2.2.2.2.2.2.2.2.2.2.2.2.2.1 rfl (lv_at hl 1 rfl) ?_
    refine lv_iload_n hx hb eX10_act_98.2.2.2.2.2.2.2.2.2.2.2.2.2.2.2 rfl (lv_at hl 2 rfl) ?_
    refine lv_iload_n hx hb eX10_act_123.1 rfl (lv_at hl 0 rfl) ?_
    have hm := mgk (wc := (wd_X10_goPick cI cC cZ cB cJ a_m oJ uD dY iJ lJ jQ jR jW jK pJ bM aY jO gR gY mK jZ iY bG mJ jB mQ lY eJ bY bW aG jG bQ dG jY m_length qG uW eY aJ aB bU dN aR aE bJ aW bT gJ dU bL bR bO mY pW rD m_x jA pY oY pR rG rQ)) hP mk_229 11 rfl rfl rfl
    refine g_calli hP hD hS hA (mixT mk_229) (mixF mk_229) hm.1 hm.2 (nd_F _) (dis_g _) (g_runV (As := [.int x2, .int k0]) (rest := []) C0 hP hD hS (mixT mk_229) hm.1 (nd_T _) 0 10 rfl rfl (c_X10_goPick l dC dI cI cC cZ cB cJ a_m oJ uD dY iJ lJ jQ jR jW jK pJ bM aY jO gR gY mK jZ iY bG mJ jB mQ lY eJ bY H.size x2 k0 bW aG jG bQ dG jY m_length qG uW eY aJ aB bU dN aR aE bJ aW bT gJ dU bL bR bO mY pW rD m_x jA pY oY pR rG rQ _ hp) q_812 q_815 q_813 q_814 q_642 h_X10_goPick rfl rfl ⟨Nat.le_of_ble_eq_true rfl, Nat.le_of_ble_eq_true rfl⟩ rfl rfl hl.1 rfl (lv_room (Nat.le_of_ble_eq_true rfl)) eX10_act_123.2.1 ⟨Nat.zero_le _, Nat.zero_le _⟩) (fun r_5 u H locs hp hP hD hS => ?_)
    obtain ⟨aBl, aAu, aCb, aAb, yJ, zV, yS, yK, zD, yW, m_now_16⟩ := u
    have hPD := PDm (ws' := (wd_X10_act cI cC cZ cB cJ a_m oJ uD dY iJ lJ jQ jR jW jK pJ bM aY jO gR gY mK jZ iY bG mJ jB mQ lY eJ bY bW aG jG bQ dG aBl aAu aCb aAb yJ aJ aB bU zV yS yK zD yW bT gJ dU bL bR bO mY pW m_now_16 m_x jA pY rW oY pR pX rG rQ)) hP hD 11 rfl rfl rfl
    have hP := hPD.1
    have hD := hPD.2
    refine lv_pop hx hb eX10_act_123.2.2.1 rfl ?_
    refine lv_aload_n hx hb eX10_act_123.2.2.2.1 rfl (lv_at hl 1 rfl) ?_
    refine lv_dup hx hb eX10_act_123.2.2.2.2.1 rfl ?_
    refine va_get (D := (dC, dI)) (ci := 10) (v := .int gJ) (C := RX10) (T := TX10) (N := 51) hx hb hts i_X10 hown hK hP 0 rfl rfl 35 (Nat.le_of_ble_eq_true rfl) (hts _ q_845) (fun _ h9 => h9) rfl eX10_act_123.2.2.2.2.2.1 ?_
    refine lv_iconst (v := 1) hx hb eX10_act_123.2.2.2.2.2.2.1 ic_1 ?_
    refine lv_iadd hx hb eX10_act_123.2.2.2.2.2.2.2.1 ?_
    refine lv_topi (fun v_17 ev_17 => ?_)
    have hp := hp v_17 ev_17
    refine va_put (D := (dC, dI)) (ci := 10) (v := .int v_17) (ty := .int) (C := RX10) (T := TX10) (N := 51) hx hb hts i_X10 tyX10 tyX10_ok nmX10 hown hK hP hD hS 0 rfl rfl 35 (Nat.le_of_ble_eq_true rfl) (hts _ q_845) (fun _ h9 => h9) rfl (tyX10_ok 35 (Nat.le_of_ble_eq_true rfl)) rfl rfl (Nat.le_of_ble_eq_true rfl) eX10_act_123.2.2.2.2.2.2.2.2.1 (fun H locs hP hD hS => ?_)
    have hP : va_P (dC, dI) classes (wd_X10_act cI cC cZ cB cJ a_m oJ uD dY iJ lJ jQ jR jW jK pJ bM aY jO gR gY mK jZ iY bG mJ jB mQ lY eJ bY bW aG jG bQ dG aBl aAu aCb aAb yJ aJ aB bU zV yS yK zD yW bT v_17 dU bL bR bO mY pW m_now_16 m_x jA pY rW oY pR pX rG rQ) H := hP
    have hD : va_D A (wd_X10_act cI cC cZ cB cJ a_m oJ uD dY iJ lJ jQ jR jW jK pJ bM aY jO gR gY mK jZ iY bG mJ jB mQ lY eJ bY bW aG jG bQ dG aBl aAu aCb aAb yJ aJ aB bU zV yS yK zD yW bT v_17 dU bL bR bO mY pW m_now_16 m_x jA pY rW oY pR pX rG rQ) := hD
    refine lv_iconst (v := 1) hx hb eX10_act_123.2.2.2.2.2.2.2.2.2.1 ic_1 ?_
    exact W.zret (v := 1) hx hb hr rfl (fun t ht hW => ⟨⟨1, (aBl, aAu, aCb, aAb, yJ, zV, yS, yK, zD, yW, v_17, m_now_16), rfl, hp, by rw [ht]; exact hP, va_K.moved hW.alike hK, hD⟩, hS.F ht⟩) hS.2.2 eX10_act_123.2.2.2.2.2.2.2.2.2.2.1
  · have hp := hp.2 hc
    refine lv_iconst (v := 0) hx hb eX10_act_98.2.2.2.2.2.2.2.2.2.2.2.2.1 ic_0 ?_
    exact W.zret (v := 0) hx hb hr rfl (fun t ht hW => ⟨⟨0, (jY, m_length, qG, uW, eY, dN, aR, aE, bJ, aW, gJ, rD), rfl, hp, by rw [ht]; exact hP, va_K.moved hW.alike hK, hD⟩, hS.F ht⟩) hS.2.2 eX10_act_98.2.2.2.2.2.2.2.2.2.2.2.2.2.1
noncomputable def ws_X10_act_98 (post : Int32 → Nat → Int32 → Int32 → Int32 → Int32 → Int32 → Int32 → Int32 → Int32 → Int32 → Int32 → (Nat → Int32) → Prop) (bW aG bU : Int32) (m_x jA pY rW oY pR pX rG rQ : Nat → Int32) (x1 x2 : Int32) (jY : Nat) (m_length qG uW eY dN aR aE bJ aW gJ : Int32) (rD : Nat → Int32) : Prop := (¬ x1 = 104 → ws_X10_act_109 post bW aG bU m_x jA pY rW oY pR pX rG rQ x2 0 jY m_length qG uW eY dN aR aE bJ aW gJ rD) ∧ (x1 = 104 → ws_X10_act_109 post bW aG bU m_x jA pY rW oY pR pX rG rQ x2 1 jY m_length qG uW eY dN aR aE bJ aW gJ rD)
set_option maxHeartbeats 4000000 in
set_option maxRecDepth 100000 in
theorem ks_X10_act_98 (C0 : gc cX10_act (some .boolean) 4 RX10 (dC, dI) (tyl cI cC cZ cB cJ) A p s m args meth c) : ∀ (x1 x2 : Int32) (jY : Nat) (m_length qG uW eY dN aR aE bJ aW gJ : Int32) (rD : Nat → Int32) (H : Heap) (locs : List Loc) (ls : Array Slot), (ws_X10_act_98 post bW aG bU m_x jA pY rW oY pR pX rG rQ) x1 x2 jY m_length qG uW eY dN aR aE bJ aW gJ rD → va_P (dC, dI) classes (wd_X10_act cI cC cZ cB cJ a_m oJ uD dY iJ lJ jQ jR jW jK pJ bM aY jO gR gY mK jZ iY bG mJ jB mQ lY eJ bY bW aG jG bQ dG jY m_length qG uW eY aJ aB bU dN aR aE bJ aW bT gJ dU bL bR bO mY pW rD m_x jA pY rW oY pR pX rG rQ) H → va_D A (wd_X10_act cI cC cZ cB cJ a_m oJ uD dY iJ lJ jQ jR jW jK pJ bM aY jO gR gY mK jZ iY bG mJ jB mQ lY eJ bY bW aG jG bQ dG jY m_length qG uW eY aJ aB bU dN aR aE bJ aW bT gJ dU bL bR bO mY pW rD m_x jA pY rW oY pR pX rG rQ) → va_S A s.heap H locs → lv_has ls 4 [(0, .ref a_m), (1, .int x1), (2, .int x2)] → W p l e rm_X10_act s m args below meth c H locs 0 0 (MQ below (q_X10_act dC dI cI cC cZ cB cJ A a_m oJ uD dY iJ lJ jQ jR jW jK pJ bM aY jO gR gY mK jZ iY bG mJ jB mQ lY eJ bY bW aG jG bQ dG aJ aB bU bT dU bL bR bO mY pW m_x jA pY rW oY pR pX rG rQ post) args s 0 0 A) (F0 m 98 ls []) := by
  obtain ⟨hx, hb, hr, hml, hown, hts, hlocks, hA, hK, hN, tL, tM, hZL, hTL, hZM, hTM, hZX⟩ := id C0
  intro x1 x2 jY m_length qG uW eY dN aR aE bJ aW gJ rD H locs ls hp hP hD hS hl
  unfold ws_X10_act_98 at hp
  refine lv_iload_n hx hb eX10_act_98.1 rfl (lv_at hl 1 rfl) ?_
  refine lv_bipush (v := 104) hx hb eX10_act_98.2.1 bp_104 ?_
  refine lv_icmp_ne (tgt := 108) hx hb eX10_act_98.2.2.1 (by decide) (fun hc => ?_) (fun hc => ?_)
  · have hp := hp.1 hc
    refine lv_iconst (v := 0) hx hb eX10_act_98.2.2.2.2.2.1 ic_0 ?_
    exact ks_X10_act_109 C0 x2 0 jY m_length qG uW eY dN aR aE bJ aW gJ rD H locs ls hp hP hD hS (lv_sub hl [0, 2] rfl)
  · have hp := hp.2 hc
    refine lv_iconst (v := 1) hx hb eX10_act_98.2.2.2.1 ic_1 ?_
    refine lv_goto (tgt := 109) hx hb eX10_act_98.2.2.2.2.1 (by decide) ?_
    exact ks_X10_act_109 C0 x2 1 jY m_length qG uW eY dN aR aE bJ aW gJ rD H locs ls hp hP hD hS (lv_sub hl [0, 2] rfl)
noncomputable def ws_X10_act_196 (post : Int32 → Nat → Int32 → Int32 → Int32 → Int32 → Int32 → Int32 → Int32 → Int32 → Int32 → Int32 → (Nat → Int32) → Prop) (bW aG bU : Int32) (m_x jA pY rW oY pR pX rG rQ : Nat → Int32) (jY : Nat) (m_length qG uW eY dN aR aE bJ aW gJ : Int32) (rD : Nat → Int32) : Prop := ∀ v_24 : Int32, v_24 = rD (19 : Int32).toNatClampNeg → (¬ v_24 = 9 → wp_X10_goSleep (fun r_25 m_now_26 => post 1 jY m_length qG uW eY dN aR aE bJ aW gJ m_now_26) bW rD) ∧ (v_24 = 9 → post 0 jY m_length qG uW eY dN aR aE bJ aW gJ rD)
set_option maxHeartbeats 4000000 in
set_option maxRecDepth 100000 in
theorem ks_X10_act_196 (C0 : gc cX10_act (some .boolean) 4 RX10 (dC, dI) (tyl cI cC cZ cB cJ) A p s m args meth c) : ∀ (jY : Nat) (m_length qG uW eY dN aR aE bJ aW gJ : Int32) (rD : Nat → Int32) (H : Heap) (locs : List Loc) (ls : Array Slot), (ws_X10_act_196 post bW aG bU m_x jA pY rW oY pR pX rG rQ) jY m_length qG uW eY dN aR aE bJ aW gJ rD → va_P (dC, dI) classes (wd_X10_act cI cC cZ cB cJ a_m oJ uD dY iJ lJ jQ jR jW jK pJ bM aY jO gR gY mK jZ iY bG mJ jB mQ lY eJ bY bW aG jG bQ dG jY m_length qG uW eY aJ aB bU dN aR aE bJ aW bT gJ dU bL bR bO mY pW rD m_x jA pY rW oY pR pX rG rQ) H → va_D A (wd_X10_act cI cC cZ cB cJ a_m oJ uD dY iJ lJ jQ jR jW jK pJ bM aY jO gR gY mK jZ iY bG mJ jB mQ lY eJ bY bW aG jG bQ dG jY m_length qG uW eY aJ aB bU dN aR aE bJ aW bT gJ dU bL bR bO mY pW rD m_x jA pY rW oY pR pX rG rQ) → va_S A s.heap H locs → lv_has ls 4 [(0, .ref a_m)] → W p l e rm_X10_act s m args below meth c H locs 0 0 (MQ below (q_X10_act dC dI cI cC cZ cB cJ A a_m oJ uD dY iJ lJ jQ jR jW jK pJ bM aY jO gR gY mK jZ iY bG mJ jB mQ lY eJ bY bW aG jG bQ dG aJ aB bU bT dU bL bR bO mY pW m_x jA pY rW oY pR pX rG rQ post) args s 0 0 A) (F0 m 196 ls []) := by
  obtain ⟨hx, hb, hr, hml, hown, hts, hlocks, hA, hK, hN, tL, tM, hZL, hTL, hZM, hTM, hZX⟩ := id C0
  intro jY m_length qG uW eY dN aR aE bJ aW gJ rD H locs ls hp hP hD hS hl
  unfold ws_X10_act_196 at hp
  refine lv_aload_n hx hb eX10_act_174.2.2.2.2.2.2.2.2.2.2.2.2.2.2.1 rfl (lv_at hl 0 rfl) ?_
  refine va_get (D := (dC, dI)) (ci := 10) (v := .ref oJ) (C := RX10) (T := TX10) (N := 51) hx hb hts i_X10 hown hK hP 0 rfl rfl 0 (Nat.le_of_ble_eq_true rfl) (hts _ q_692) (fun _ h9 => h9) rfl eX10_act_174.2.2.2.2.2.2.2.2.2.2.2.2.2.2.2 ?_
  refine lv_bipush (v := 19) hx hb eX10_act_200.1 bp_19 ?_
  refine va_iald hx hb hK hP 1 0 rfl rfl (g_in rfl) eX10_act_200.2.1 ?_
  refine lv_topi (fun v_24 ev_24 => ?_)
  have hp := hp v_24 ev_24
  refine lv_bipush (v := 9) hx hb eX10_act_200.2.2.1 bp_9 ?_
  refine lv_icmp_ne (tgt := 210) hx hb eX10_act_200.2.2.2.1 (by decide) (fun hc => ?_) (fun hc => ?_)
  · have hp := hp.1 hc
    refine lv_aload_n hx hb eX10_act_200.2.2.2.2.2.2.1 rfl (lv_at hl 0 rfl) ?_
    have hm := mgk (wc := (wd_X10_goSleep cI cC cZ cB cJ a_m oJ uD dY iJ lJ jQ jR jW jK pJ bM aY jO gR gY mK jZ iY bG mJ jB mQ lY eJ bY bW aG jG bQ dG jY m_length qG uW eY aJ aB bU dN aR aE bJ aW bT gJ dU bL bR bO mY pW rD)) hP mk_230 11 rfl rfl rfl
    refine g_calli hP hD hS hA (mixT mk_230) (mixF mk_230) hm.1 hm.2 (nd_F _) (dis_g _) (g_runV (As := []) (rest := []) C0 hP hD hS (mixT mk_230) hm.1 (nd_T _) 0 10 rfl rfl (c_X10_goSleep l dC dI cI cC cZ cB cJ a_m oJ uD dY iJ lJ jQ jR jW jK pJ bM aY jO gR gY mK jZ iY bG mJ jB mQ lY eJ bY H.size bW aG jG bQ dG jY m_length qG uW eY aJ aB bU dN aR aE bJ aW bT gJ dU bL bR bO mY pW rD _ hp) q_840 q_843 q_841 q_842 q_642 h_X10_goSleep rfl rfl ⟨Nat.le_of_ble_eq_true rfl, Nat.le_of_ble_eq_true rfl⟩ rfl rfl hl.1 rfl (lv_room (Nat.le_of_ble_eq_true rfl)) eX10_act_200.2.2.2.2.2.2.2.1 ⟨Nat.zero_le _, Nat.zero_le _⟩) (fun r_25 u H locs hp hP hD hS => ?_)
    obtain ⟨m_now_26, rfl⟩ : ∃ z, z = u := ⟨_, rfl⟩
    have hPD := PDm (ws' := (wd_X10_act cI cC cZ cB cJ a_m oJ uD dY iJ lJ jQ jR jW jK pJ bM aY jO gR gY mK jZ iY bG mJ jB mQ lY eJ bY bW aG jG bQ dG jY m_length qG uW eY aJ aB bU dN aR aE bJ aW bT gJ dU bL bR bO mY pW m_now_26 m_x jA pY rW oY pR pX rG rQ)) hP hD 11 rfl rfl rfl
    have hP := hPD.1
    have hD := hPD.2
    refine lv_pop hx hb eX10_act_200.2.2.2.2.2.2.2.2.1 rfl ?_
    refine lv_iconst (v := 1) hx hb eX10_act_200.2.2.2.2.2.2.2.2.2.1 ic_1 ?_
    exact W.zret (v := 1) hx hb hr rfl (fun t ht hW => ⟨⟨1, (jY, m_length, qG, uW, eY, dN, aR, aE, bJ, aW, gJ, m_now_26), rfl, hp, by rw [ht]; exact hP, va_K.moved hW.alike hK, hD⟩, hS.F ht⟩) hS.2.2 eX10_act_200.2.2.2.2.2.2.2.2.2.2
  · have hp := hp.2 hc
    refine lv_iconst (v := 0) hx hb eX10_act_200.2.2.2.2.1 ic_0 ?_
    exact W.zret (v := 0) hx hb hr rfl (fun t ht hW => ⟨⟨0, (jY, m_length, qG, uW, eY, dN, aR, aE, bJ, aW, gJ, rD), rfl, hp, by rw [ht]; exact hP, va_K.moved hW.alike hK, hD⟩, hS.F ht⟩) hS.2.2 eX10_act_200.2.2.2.2.2.1
end S_X10_act
noncomputable def wp_X10_act (post : Int32 → Nat → Int32 → Int32 → Int32 → Int32 → Int32 → Int32 → Int32 → Int32 → Int32 → Int32 → (Nat → Int32) → Prop) (p0 p1 bW aG : Int32) (jY : Nat) (m_length qG uW eY bU dN aR aE bJ aW gJ : Int32) (rD m_x jA pY rW oY pR pX rG rQ : Nat → Int32) : Prop := (p0 = 97 → ws_X10_act_176 post bW aG bU m_x jA pY rW oY pR pX rG rQ p0 jY m_length qG uW eY dN aR aE bJ aW gJ rD) ∧ (p0 = 100 → wp_X10_canDown (fun r_1 => (¬ r_1 = 0 → wp_X10_goDown (fun r_2 m_now_3 => post 1 jY m_length qG uW eY dN aR aE bJ aW gJ m_now_3) bW rD pR) ∧ (r_1 = 0 → post 0 jY m_length qG uW eY dN aR aE bJ aW gJ rD)) bW rD) ∧ (p0 = 104 → ws_X10_act_98 post bW aG bU m_x jA pY rW oY pR pX rG rQ p0 p1 jY m_length qG uW eY dN aR aE bJ aW gJ rD) ∧ (p0 = 107 → ∀ v_18 : Int32, v_18 = rD (17 : Int32).toNatClampNeg → (¬ v_18 = (-1) → wp_X10_goShake (fun r_19 m_now_20 => post 1 jY m_length qG uW eY dN aR aE bJ aW gJ m_now_20) bW rD m_x jA rW oY pR pX) ∧ (v_18 = (-1) → post 0 jY m_length qG uW eY dN aR aE bJ aW gJ rD)) ∧ (p0 = 109 → wp_X10_refusesMove (fun r_21 => (0 ≤ r_21 → wp_X10_goMove (fun r_22 m_now_23 => post 1 jY m_length qG uW eY dN aR aE bJ aW gJ m_now_23) p1 bW rD oY pR pX) ∧ (¬ 0 ≤ r_21 → post 0 jY m_length qG uW eY dN aR aE bJ aW gJ rD)) p1 aG rD) ∧ (p0 = 111 → ws_X10_act_176 post bW aG bU m_x jA pY rW oY pR pX rG rQ p0 jY m_length qG uW eY dN aR aE bJ aW gJ rD) ∧ (p0 = 112 → ws_X10_act_98 post bW aG bU m_x jA pY rW oY pR pX rG rQ p0 p1 jY m_length qG uW eY dN aR aE bJ aW gJ rD) ∧ (¬ p0 = 97 → ¬ p0 = 100 → ¬ p0 = 104 → ¬ p0 = 107 → ¬ p0 = 109 → ¬ p0 = 111 → ¬ p0 = 112 → ws_X10_act_196 post bW aG bU m_x jA pY rW oY pR pX rG rQ jY m_length qG uW eY dN aR aE bJ aW gJ rD)
set_option maxHeartbeats 4000000 in
set_option maxRecDepth 100000 in
theorem c_X10_act (l : Launch) (dC : Nat → ClassId) (dI : Nat → Nat → Nat) (cI cC cZ cB cJ : ClassId) (a_m oJ uD dY iJ lJ jQ jR jW jK pJ bM aY jO gR gY mK jZ iY bG mJ jB mQ lY eJ bY sz : Nat) (p0 p1 bW aG jG bQ dG : Int32) (jY : Nat) (m_length qG uW eY aJ aB bU dN aR aE bJ aW bT gJ dU bL bR bO mY pW : Int32) (rD m_x jA pY rW oY pR pX rG rQ : Nat → Int32) (post : Int32 → Nat → Int32 → Int32 → Int32 → Int32 → Int32 → Int32 → Int32 → Int32 → Int32 → Int32 → (Nat → Int32) → Prop) (hw : wp_X10_act post p0 p1 bW aG jY m_length qG uW eY bU dN aR aE bJ aW gJ rD m_x jA pY rW oY pR pX rG rQ) : Met l yX10_act (gw yX10_act cX10_act 4 (some .boolean)) rm_X10_act (va_Pc [.ref a_m, .int p0, .int p1] (gPre (dC, dI) (tyl cI cC cZ cB cJ) (wd_X10_act cI cC cZ cB cJ a_m oJ uD dY iJ lJ jQ jR jW jK pJ bM aY jO gR gY mK jZ iY bG mJ jB mQ lY eJ bY bW aG jG bQ dG jY m_length qG uW eY aJ aB bU dN aR aE bJ aW bT gJ dU bL bR bO mY pW rD m_x jA pY rW oY pR pX rG rQ) sz)) (q_X10_act dC dI cI cC cZ cB cJ (va_A (wd_X10_act cI cC cZ cB cJ a_m oJ uD dY iJ lJ jQ jR jW jK pJ bM aY jO gR gY mK jZ iY bG mJ jB mQ lY eJ bY bW aG jG bQ dG jY m_length qG uW eY aJ aB bU dN aR aE bJ aW bT gJ dU bL bR bO mY pW rD m_x jA pY rW oY pR pX rG rQ) sz) a_m oJ uD dY iJ lJ jQ jR jW jK pJ bM aY jO gR gY mK jZ iY bG mJ jB mQ lY eJ bY bW aG jG bQ dG aJ aB bU bT dU bL bR bO mY pW m_x jA pY rW oY pR pX rG rQ post) 0 0 (va_A (wd_X10_act cI cC cZ cB cJ a_m oJ uD dY iJ lJ jQ jR jW jK pJ bM aY jO gR gY mK jZ iY bG mJ jB mQ lY eJ bY bW aG jG bQ dG jY m_length qG uW eY aJ aB bU dN aR aE bJ aW bT gJ dU bL bR bO mY pW rD m_x jA pY rW oY pR pX rG rQ) sz) := by
  refine g_enter (own := RX10) (dC, dI) (tyl cI cC cZ cB cJ) (wd_X10_act cI cC cZ cB cJ a_m oJ uD dY iJ lJ jQ jR jW jK pJ bM aY jO gR gY mK jZ iY bG mJ jB mQ lY eJ bY bW aG jG bQ dG jY m_length qG uW eY aJ aB bU dN aR aE bJ aW bT gJ dU bL bR bO mY pW rD m_x jA pY rW oY pR pX rG rQ) sz [.ref a_m, .int p0, .int p1] (fun A => q_X10_act dC dI cI cC cZ cB cJ A a_m oJ uD dY iJ lJ jQ jR jW jK pJ bM aY jO gR gY mK jZ iY bG mJ jB mQ lY eJ bY bW aG jG bQ dG aJ aB bU bT dU bL bR bO mY pW m_x jA pY rW oY pR pX rG rQ post) pn_RX10 rfl (Nat.le_of_ble_eq_true rfl) ?_
  intro p e s m args below meth c A H locs ls C0 hP hD hS hl
  have hl : lv_has ls 4 [(0, .ref a_m), (1, .int p0), (2, .int p1)] := hl
  obtain ⟨hx, hb, hr, hml, hown, hts, hlocks, hA, hK, hN, tL, tM, hZL, hTL, hZM, hTM, hZX⟩ := id C0
  have hp := hw
  unfold wp_X10_act at hp
  refine lv_iload_n hx hb eX10_act_0.1 rfl (lv_at hl 1 rfl) ?_
  by_cases hc0 : p0 = 97
  · have hp := hp.1 hc0
    refine lv_tableIn (tgt := 176) hx hb eX10_act_0.2.1 (by first | (rw [hc0]; done) | (rw [hc0]; decide)) (by first | (rw [hc0]; done) | (rw [hc0]; decide)) (by first | (rw [hc0]; done) | (rw [hc0]; rfl)) (by decide) ?_
    exact ks_X10_act_176 C0 p0 jY m_length qG uW eY dN aR aE bJ aW gJ rD H locs ls hp hP hD hS (lv_sub hl [0, 1] rfl)
  by_cases hc1 : p0 = 100
  · have hp := hp.2.1 hc1
    refine lv_tableIn (tgt := 140) hx hb eX10_act_0.2.1 (by first | (rw [hc1]; done) | (rw [hc1]; decide)) (by first | (rw [hc1]; done) | (rw [hc1]; decide)) (by first | (rw [hc1]; done) | (rw [hc1]; rfl)) (by decide) ?_
    refine lv_aload_n hx hb eX10_act_123.2.2.2.2.2.2.2.2.2.2.2.1 rfl (lv_at hl 0 rfl) ?_
    have hm := mgk (wc := (wd_X10_canDown cI cC cZ cB cJ a_m oJ uD dY iJ lJ jQ jR jW jK pJ bM aY jO gR gY mK jZ iY bG mJ jB mQ lY eJ bY bW aG jG bQ dG jY m_length qG uW eY aJ aB bU dN aR aE bJ aW bT gJ dU bL bR bO mY pW rD)) hP mk_230 11 rfl rfl rfl
    refine g_calli hP hD hS hA (mixT mk_230) (mixF mk_230) hm.1 hm.2 (nd_F _) (dis_g _) (g_runV (As := []) (rest := []) C0 hP hD hS (mixT mk_230) hm.1 (nd_T _) 0 10 rfl rfl (c_X10_canDown l dC dI cI cC cZ cB cJ a_m oJ uD dY iJ lJ jQ jR jW jK pJ bM aY jO gR gY mK jZ iY bG mJ jB mQ lY eJ bY H.size bW aG jG bQ dG jY m_length qG uW eY aJ aB bU dN aR aE bJ aW bT gJ dU bL bR bO mY pW rD _ hp) q_816 q_819 q_817 q_818 q_642 h_X10_canDown rfl rfl ⟨Nat.le_of_ble_eq_true rfl, Nat.le_of_ble_eq_true rfl⟩ rfl rfl hl.1 rfl (lv_room (Nat.le_of_ble_eq_true rfl)) eX10_act_123.2.2.2.2.2.2.2.2.2.2.2.2.1 ⟨Nat.zero_le _, Nat.zero_le _⟩) (fun r_1 u H locs hp hP hD hS => ?_)
    have hPD := PDm (ws' := (wd_X10_act cI cC cZ cB cJ a_m oJ uD dY iJ lJ jQ jR jW jK pJ bM aY jO gR gY mK jZ iY bG mJ jB mQ lY eJ bY bW aG jG bQ dG jY m_length qG uW eY aJ aB bU dN aR aE bJ aW bT gJ dU bL bR bO mY pW rD m_x jA pY rW oY pR pX rG rQ)) hP hD 11 rfl rfl rfl
    have hP := hPD.1
    have hD := hPD.2
    refine lv_if_ne (tgt := 149) hx hb eX10_act_123.2.2.2.2.2.2.2.2.2.2.2.2.2.1 (by decide) (fun hc => ?_) (fun hc => ?_)
    · have hp := hp.1 hc
      refine lv_aload_n hx hb eX10_act_149.1 rfl (lv_at hl 0 rfl) ?_
      have hm := mgk (wc := (wd_X10_goDown cI cC cZ cB cJ a_m oJ uD dY iJ lJ jQ jR jW jK pJ bM aY jO gR gY mK jZ iY bG mJ jB mQ lY eJ bY bW aG jG bQ dG jY m_length qG uW eY aJ aB bU dN aR aE bJ aW bT gJ dU bL bR bO mY pW rD pR)) hP mk_231 11 rfl rfl rfl
      refine g_calli hP hD hS hA (mixT mk_231) (mixF mk_231) hm.1 hm.2 (nd_F _) (dis_g _) (g_runV (As := []) (rest := []) C0 hP hD hS (mixT mk_231) hm.1 (nd_T _) 0 10 rfl rfl (c_X10_goDown l dC dI cI cC cZ cB cJ a_m oJ uD dY iJ lJ jQ jR jW jK pJ bM aY jO gR gY mK jZ iY bG mJ jB mQ lY eJ bY H.size bW aG jG bQ dG jY m_length qG uW eY aJ aB bU dN aR aE bJ aW bT gJ dU bL bR bO mY pW rD pR _ hp) q_820 q_823 q_821 q_822 q_642 h_X10_goDown rfl rfl ⟨Nat.le_of_ble_eq_true rfl, Nat.le_of_ble_eq_true rfl⟩ rfl rfl hl.1 rfl (lv_room (Nat.le_of_ble_eq_true rfl)) eX10_act_149.2.1 ⟨Nat.zero_le _, Nat.zero_le _⟩) (fun r_2 u H locs hp hP hD hS => ?_)
      obtain ⟨m_now_3, rfl⟩ : ∃ z, z = u := ⟨_, rfl⟩
      have hPD := PDm (ws' := (wd_X10_act cI cC cZ cB cJ a_m oJ uD dY iJ lJ jQ jR jW jK pJ bM aY jO gR gY mK jZ iY bG mJ jB mQ lY eJ bY bW aG jG bQ dG jY m_length qG uW eY aJ aB bU dN aR aE bJ aW bT gJ dU bL bR bO mY pW m_now_3 m_x jA pY rW oY pR pX rG rQ)) hP hD 11 rfl rfl rfl
      have hP := hPD.1
      have hD := hPD.2
      refine lv_pop hx hb eX10_act_149.2.2.1 rfl ?_
      refine lv_iconst (v := 1) hx hb eX10_act_149.2.2.2.1 ic_1 ?_
      exact W.zret (v := 1) hx hb hr rfl (fun t ht hW => ⟨⟨1, (jY, m_length, qG, uW, eY, dN, aR, aE, bJ, aW, gJ, m_now_3), rfl, hp, by rw [ht]; exact hP, va_K.moved hW.alike hK, hD⟩, hS.F ht⟩) hS.2.2 eX10_act_149.2.2.2.2.1
    · have hp := hp.2 hc
      refine lv_iconst (v := 0) hx hb eX10_act_123.2.2.2.2.2.2.2.2.2.2.2.2.2.2.1 ic_0 ?_
      exact W.zret (v := 0) hx hb hr rfl (fun t ht hW => ⟨⟨0, (jY, m_length, qG, uW, eY, dN, aR, aE, bJ, aW, gJ, rD), rfl, hp, by rw [ht]; exact hP, va_K.moved hW.alike hK, hD⟩, hS.F ht⟩) hS.2.2 eX10_act_123.2.2.2.2.2.2.2.2.2.2.2.2.2.2.2
  by_cases hc2 : p0 = 104
  · have hp := hp.2.2.1 hc2
    refine lv_tableIn (tgt := 98) hx hb eX10_act_0.2.1 (by first | (rw [hc2]; done) | (rw [hc2]; decide)) (by first | (rw [hc2]; done) | (rw [hc2]; decide)) (by first | (rw [hc2]; done) | (rw [hc2]; rfl)) (by decide) ?_
    exact ks_X10_act_98 C0 p0 p1 jY m_length qG uW eY dN aR aE bJ aW gJ rD H locs ls hp hP hD hS (lv_sub hl [0, 1, 2] rfl)
  by_cases hc3 : p0 = 107
  · have hp := hp.2.2.2.1 hc3
    refine lv_tableIn (tgt := 156) hx hb eX10_act_0.2.1 (by first | (rw [hc3]; done) | (rw [hc3]; decide)) (by first | (rw [hc3]; done) | (rw [hc3]; decide)) (by first | (rw [hc3]; done) | (rw [hc3]; rfl)) (by decide) ?_
    refine lv_aload_n hx hb eX10_act_149.2.2.2.2.2.1 rfl (lv_at hl 0 rfl) ?_
    refine va_get (D := (dC, dI)) (ci := 10) (v := .ref oJ) (C := RX10) (T := TX10) (N := 51) hx hb hts i_X10 hown hK hP 0 rfl rfl 0 (Nat.le_of_ble_eq_true rfl) (hts _ q_692) (fun _ h9 => h9) rfl eX10_act_149.2.2.2.2.2.2.1 ?_
    refine lv_bipush (v := 17) hx hb eX10_act_149.2.2.2.2.2.2.2.1 bp_17 ?_
    refine va_iald hx hb hK hP 1 0 rfl rfl (g_in rfl) eX10_act_149.2.2.2.2.2.2.2.2.1 ?_
    refine lv_topi (fun v_18 ev_18 => ?_)
    have hp := hp v_18 ev_18
    refine lv_iconst (v := (-1)) hx hb eX10_act_149.2.2.2.2.2.2.2.2.2.1 ic_m1 ?_
    refine lv_icmp_ne (tgt := 169) hx hb eX10_act_149.2.2.2.2.2.2.2.2.2.2.1 (by decide) (fun hc => ?_) (fun hc => ?_)
    · have hp := hp.1 hc
      refine lv_aload_n hx hb eX10_act_149.2.2.2.2.2.2.2.2.2.2.2.2.2.1 rfl (lv_at hl 0 rfl) ?_
      have hm := mgk (wc := (wd_X10_goShake cI cC cZ cB cJ a_m oJ uD dY iJ lJ jQ jR jW jK pJ bM aY jO gR gY mK jZ iY bG mJ jB mQ lY eJ bY bW aG jG bQ dG jY m_length qG uW eY aJ aB bU dN aR aE bJ aW bT gJ dU bL bR bO mY pW rD m_x jA rW oY pR pX)) hP mk_228 11 rfl rfl rfl
      refine g_calli hP hD hS hA (mixT mk_228) (mixF mk_228) hm.1 hm.2 (nd_F _) (dis_g _) (g_runV (As := []) (rest := []) C0 hP hD hS (mixT mk_228) hm.1 (nd_T _) 0 10 rfl rfl (c_X10_goShake l dC dI cI cC cZ cB cJ a_m oJ uD dY iJ lJ jQ jR jW jK pJ bM aY jO gR gY mK jZ iY bG mJ jB mQ lY eJ bY H.size bW aG jG bQ dG jY m_length qG uW eY aJ aB bU dN aR aE bJ aW bT gJ dU bL bR bO mY pW rD m_x jA rW oY pR pX _ hp) q_836 q_839 q_837 q_838 q_642 h_X10_goShake rfl rfl ⟨Nat.le_of_ble_eq_true rfl, Nat.le_of_ble_eq_true rfl⟩ rfl rfl hl.1 rfl (lv_room (Nat.le_of_ble_eq_true rfl)) eX10_act_149.2.2.2.2.2.2.2.2.2.2.2.2.2.2.1 ⟨Nat.zero_le _, Nat.zero_le _⟩) (fun r_19 u H locs hp hP hD hS => ?_)
      obtain ⟨m_now_20, rfl⟩ : ∃ z, z = u := ⟨_, rfl⟩
      have hPD := PDm (ws' := (wd_X10_act cI cC cZ cB cJ a_m oJ uD dY iJ lJ jQ jR jW jK pJ bM aY jO gR gY mK jZ iY bG mJ jB mQ lY eJ bY bW aG jG bQ dG jY m_length qG uW eY aJ aB bU dN aR aE bJ aW bT gJ dU bL bR bO mY pW m_now_20 m_x jA pY rW oY pR pX rG rQ)) hP hD 11 rfl rfl rfl
      have hP := hPD.1
      have hD := hPD.2
      refine lv_pop hx hb eX10_act_149.2.2.2.2.2.2.2.2.2.2.2.2.2.2.2 rfl ?_
      refine lv_iconst (v := 1) hx hb eX10_act_174.1 ic_1 ?_
      exact W.zret (v := 1) hx hb hr rfl (fun t ht hW => ⟨⟨1, (jY, m_length, qG, uW, eY, dN, aR, aE, bJ, aW, gJ, m_now_20), rfl, hp, by rw [ht]; exact hP, va_K.moved hW.alike hK, hD⟩, hS.F ht⟩) hS.2.2 eX10_act_174.2.1
    · have hp := hp.2 hc
      refine lv_iconst (v := 0) hx hb eX10_act_149.2.2.2.2.2.2.2.2.2.2.2.1 ic_0 ?_
      exact W.zret (v := 0) hx hb hr rfl (fun t ht hW => ⟨⟨0, (jY, m_length, qG, uW, eY, dN, aR, aE, bJ, aW, gJ, rD), rfl, hp, by rw [ht]; exact hP, va_K.moved hW.alike hK, hD⟩, hS.F ht⟩) hS.2.2 eX10_act_149.2.2.2.2.2.2.2.2.2.2.2.2.1
  by_cases hc4 : p0 = 109
  · have hp := hp.2.2.2.2.1 hc4
    refine lv_tableIn (tgt := 80) hx hb eX10_act_0.2.1 (by first | (rw [hc4]; done) | (rw [hc4]; decide)) (by first | (rw [hc4]; done) | (rw [hc4]; decide)) (by first | (rw [hc4]; done) | (rw [hc4]; rfl)) (by decide) ?_
    refine lv_aload_n hx hb eX10_act_0.2.2.1 rfl (lv_at hl 0 rfl) ?_
    refine lv_iload_n hx hb eX10_act_0.2.2.2.1 rfl (lv_at hl 2 rfl) ?_
    have hm := mgk (wc := (wd_X10_refusesMove cI cC cZ cB cJ a_m oJ uD dY iJ lJ jQ jR jW jK pJ bM aY jO gR gY mK jZ iY bG mJ jB mQ lY eJ bY bW aG jG bQ dG jY m_length qG uW eY aJ aB bU dN aR aE bJ aW bT gJ dU bL bR bO mY pW rD)) hP mk_230 11 rfl rfl rfl
    refine g_calli hP hD hS hA (mixT mk_230) (mixF mk_230) hm.1 hm.2 (nd_F _) (dis_g _) (g_runV (As := [.int p1]) (rest := []) C0 hP hD hS (mixT mk_230) hm.1 (nd_T _) 0 10 rfl rfl (c_X10_refusesMove l dC dI cI cC cZ cB cJ a_m oJ uD dY iJ lJ jQ jR jW jK pJ bM aY jO gR gY mK jZ iY bG mJ jB mQ lY eJ bY H.size p1 bW aG jG bQ dG jY m_length qG uW eY aJ aB bU dN aR aE bJ aW bT gJ dU bL bR bO mY pW rD _ hp) q_783 q_786 q_784 q_785 q_642 h_X10_refusesMove rfl rfl ⟨Nat.le_of_ble_eq_true rfl, Nat.le_of_ble_eq_true rfl⟩ rfl rfl hl.1 rfl (lv_room (Nat.le_of_ble_eq_true rfl)) eX10_act_0.2.2.2.2.1 ⟨Nat.zero_le _, Nat.zero_le _⟩) (fun r_21 u H locs hp hP hD hS => ?_)
    have hPD := PDm (ws' := (wd_X10_act cI cC cZ cB cJ a_m oJ uD dY iJ lJ jQ jR jW jK pJ bM aY jO gR gY mK jZ iY bG mJ jB mQ lY eJ bY bW aG jG bQ dG jY m_length qG uW eY aJ aB bU dN aR aE bJ aW bT gJ dU bL bR bO mY pW rD m_x jA pY rW oY pR pX rG rQ)) hP hD 11 rfl rfl rfl
    have hP := hPD.1
    have hD := hPD.2
    refine lv_if_ge (tgt := 90) hx hb eX10_act_0.2.2.2.2.2.1 (by decide) (fun hc => ?_) (fun hc => ?_)
    · have hp := hp.1 hc
      refine lv_aload_n hx hb eX10_act_0.2.2.2.2.2.2.2.2.1 rfl (lv_at hl 0 rfl) ?_
      refine lv_iload_n hx hb eX10_act_0.2.2.2.2.2.2.2.2.2.1 rfl (lv_at hl 2 rfl) ?_
      have hm := mgk (wc := (wd_X10_goMove cI cC cZ cB cJ a_m oJ uD dY iJ lJ jQ jR jW jK pJ bM aY jO gR gY mK jZ iY bG mJ jB mQ lY eJ bY bW aG jG bQ dG jY m_length qG uW eY aJ aB bU dN aR aE bJ aW bT gJ dU bL bR bO mY pW rD oY pR pX)) hP mk_232 11 rfl rfl rfl
      refine g_calli hP hD hS hA (mixT mk_232) (mixF mk_232) hm.1 hm.2 (nd_F _) (dis_g _) (g_runV (As := [.int p1]) (rest := []) C0 hP hD hS (mixT mk_232) hm.1 (nd_T _) 0 10 rfl rfl (c_X10_goMove l dC dI cI cC cZ cB cJ a_m oJ uD dY iJ lJ jQ jR jW jK pJ bM aY jO gR gY mK jZ iY bG mJ jB mQ lY eJ bY H.size p1 bW aG jG bQ dG jY m_length qG uW eY aJ aB bU dN aR aE bJ aW bT gJ dU bL bR bO mY pW rD oY pR pX _ hp) q_791 q_794 q_792 q_793 q_642 h_X10_goMove rfl rfl ⟨Nat.le_of_ble_eq_true rfl, Nat.le_of_ble_eq_true rfl⟩ rfl rfl hl.1 rfl (lv_room (Nat.le_of_ble_eq_true rfl)) eX10_act_0.2.2.2.2.2.2.2.2.2.2.1 ⟨Nat.zero_le _, Nat.zero_le _⟩) (fun r_22 u H locs hp hP hD hS => ?_)
      obtain ⟨m_now_23, rfl⟩ : ∃ z, z = u := ⟨_, rfl⟩
      have hPD := PDm (ws' := (wd_X10_act cI cC cZ cB cJ a_m oJ uD dY iJ lJ jQ jR jW jK pJ bM aY jO gR gY mK jZ iY bG mJ jB mQ lY eJ bY bW aG jG bQ dG jY m_length qG uW eY aJ aB bU dN aR aE bJ aW bT gJ dU bL bR bO mY pW m_now_23 m_x jA pY rW oY pR pX rG rQ)) hP hD 11 rfl rfl rfl
      have hP := hPD.1
      have hD := hPD.2
      refine lv_pop hx hb eX10_act_0.2.2.2.2.2.2.2.2.2.2.2.1 rfl ?_
      refine lv_iconst (v := 1) hx hb eX10_act_0.2.2.2.2.2.2.2.2.2.2.2.2.1 ic_1 ?_
      exact W.zret (v := 1) hx hb hr rfl (fun t ht hW => ⟨⟨1, (jY, m_length, qG, uW, eY, dN, aR, aE, bJ, aW, gJ, m_now_23), rfl, hp, by rw [ht]; exact hP, va_K.moved hW.alike hK, hD⟩, hS.F ht⟩) hS.2.2 eX10_act_0.2.2.2.2.2.2.2.2.2.2.2.2.2
    · have hp := hp.2 hc
      refine lv_iconst (v := 0) hx hb eX10_act_0.2.2.2.2.2.2.1 ic_0 ?_
      exact W.zret (v := 0) hx hb hr rfl (fun t ht hW => ⟨⟨0, (jY, m_length, qG, uW, eY, dN, aR, aE, bJ, aW, gJ, rD), rfl, hp, by rw [ht]; exact hP, va_K.moved hW.alike hK, hD⟩, hS.F ht⟩) hS.2.2 eX10_act_0.2.2.2.2.2.2.2.1
  by_cases hc5 : p0 = 111
  · have hp := hp.2.2.2.2.2.1 hc5
    refine lv_tableIn (tgt := 176) hx hb eX10_act_0.2.1 (by first | (rw [hc5]; done) | (rw [hc5]; decide)) (by first | (rw [hc5]; done) | (rw [hc5]; decide)) (by first | (rw [hc5]; done) | (rw [hc5]; rfl)) (by decide) ?_
    exact ks_X10_act_176 C0 p0 jY m_length qG uW eY dN aR aE bJ aW gJ rD H locs ls hp hP hD hS (lv_sub hl [0, 1] rfl)
  by_cases hc6 : p0 = 112
  · have hp := hp.2.2.2.2.2.2.1 hc6
    refine lv_tableIn (tgt := 98) hx hb eX10_act_0.2.1 (by first | (rw [hc6]; done) | (rw [hc6]; decide)) (by first | (rw [hc6]; done) | (rw [hc6]; decide)) (by first | (rw [hc6]; done) | (rw [hc6]; rfl)) (by decide) ?_
    exact ks_X10_act_98 C0 p0 p1 jY m_length qG uW eY dN aR aE bJ aW gJ rD H locs ls hp hP hD hS (lv_sub hl [0, 1, 2] rfl)
  have hp := hp.2.2.2.2.2.2.2 hc0 hc1 hc2 hc3 hc4 hc5 hc6
  have key : W p l e rm_X10_act s m args below meth c H locs 0 0 (MQ below (q_X10_act dC dI cI cC cZ cB cJ A a_m oJ uD dY iJ lJ jQ jR jW jK pJ bM aY jO gR gY mK jZ iY bG mJ jB mQ lY eJ bY bW aG jG bQ dG aJ aB bU bT dU bL bR bO mY pW m_x jA pY rW oY pR pX rG rQ post) args s 0 0 A) (F0 m 196 ls []) := by
    exact ks_X10_act_196 C0 jY m_length qG uW eY dN aR aE bJ aW gJ rD H locs ls hp hP hD hS (lv_sub hl [0] rfl)
  by_cases hh0 : p0 = 98
  · exact lv_tableIn (tgt := 196) hx hb eX10_act_0.2.1 (by first | (rw [hh0]; done) | (rw [hh0]; decide)) (by first | (rw [hh0]; done) | (rw [hh0]; decide)) (by first | (rw [hh0]; done) | (rw [hh0]; rfl)) (by decide) key
  by_cases hh1 : p0 = 99
  · exact lv_tableIn (tgt := 196) hx hb eX10_act_0.2.1 (by first | (rw [hh1]; done) | (rw [hh1]; decide)) (by first | (rw [hh1]; done) | (rw [hh1]; decide)) (by first | (rw [hh1]; done) | (rw [hh1]; rfl)) (by decide) key
  by_cases hh2 : p0 = 101
  · exact lv_tableIn (tgt := 196) hx hb eX10_act_0.2.1 (by first | (rw [hh2]; done) | (rw [hh2]; decide)) (by first | (rw [hh2]; done) | (rw [hh2]; decide)) (by first | (rw [hh2]; done) | (rw [hh2]; rfl)) (by decide) key
  by_cases hh3 : p0 = 102
  · exact lv_tableIn (tgt := 196) hx hb eX10_act_0.2.1 (by first | (rw [hh3]; done) | (rw [hh3]; decide)) (by first | (rw [hh3]; done) | (rw [hh3]; decide)) (by first | (rw [hh3]; done) | (rw [hh3]; rfl)) (by decide) key
  by_cases hh4 : p0 = 103
  · exact lv_tableIn (tgt := 196) hx hb eX10_act_0.2.1 (by first | (rw [hh4]; done) | (rw [hh4]; decide)) (by first | (rw [hh4]; done) | (rw [hh4]; decide)) (by first | (rw [hh4]; done) | (rw [hh4]; rfl)) (by decide) key
  by_cases hh5 : p0 = 105
  · exact lv_tableIn (tgt := 196) hx hb eX10_act_0.2.1 (by first | (rw [hh5]; done) | (rw [hh5]; decide)) (by first | (rw [hh5]; done) | (rw [hh5]; decide)) (by first | (rw [hh5]; done) | (rw [hh5]; rfl)) (by decide) key
  by_cases hh6 : p0 = 106
  · exact lv_tableIn (tgt := 196) hx hb eX10_act_0.2.1 (by first | (rw [hh6]; done) | (rw [hh6]; decide)) (by first | (rw [hh6]; done) | (rw [hh6]; decide)) (by first | (rw [hh6]; done) | (rw [hh6]; rfl)) (by decide) key
  by_cases hh7 : p0 = 108
  · exact lv_tableIn (tgt := 196) hx hb eX10_act_0.2.1 (by first | (rw [hh7]; done) | (rw [hh7]; decide)) (by first | (rw [hh7]; done) | (rw [hh7]; decide)) (by first | (rw [hh7]; done) | (rw [hh7]; rfl)) (by decide) key
  by_cases hh8 : p0 = 110
  · exact lv_tableIn (tgt := 196) hx hb eX10_act_0.2.1 (by first | (rw [hh8]; done) | (rw [hh8]; decide)) (by first | (rw [hh8]; done) | (rw [hh8]; decide)) (by first | (rw [hh8]; done) | (rw [hh8]; rfl)) (by decide) key
  exact lv_tableOut (tgt := 196) hx hb eX10_act_0.2.1 (by have g0 := lv_neT (a := 97) hc0 rfl; have g1 := lv_neT (a := 100) hc1 rfl; have g2 := lv_neT (a := 104) hc2 rfl; have g3 := lv_neT (a := 107) hc3 rfl; have g4 := lv_neT (a := 109) hc4 rfl; have g5 := lv_neT (a := 111) hc5 rfl; have g6 := lv_neT (a := 112) hc6 rfl; have f0 := lv_neT (a := 98) hh0 rfl; have f1 := lv_neT (a := 99) hh1 rfl; have f2 := lv_neT (a := 101) hh2 rfl; have f3 := lv_neT (a := 102) hh3 rfl; have f4 := lv_neT (a := 103) hh4 rfl; have f5 := lv_neT (a := 105) hh5 rfl; have f6 := lv_neT (a := 106) hh6 rfl; have f7 := lv_neT (a := 108) hh7 rfl; have f8 := lv_neT (a := 110) hh8 rfl; omega) (by decide) key
noncomputable abbrev wd_X10_lay_b3 (cI cC cZ cB cJ : ClassId) (gR gY : Nat) (uQ uZ : Nat → Int32) : va_W := [(gR, .inl (cI, 252, .inl uQ)), (gY, .inl (cI, 21, .inl uZ))]
noncomputable abbrev q_X10_lay_b3 (dC : Nat → ClassId) (dI : Nat → Nat → Nat) (cI cC cZ cB cJ : ClassId) (A : Nat → Prop) (gR gY : Nat) (uZ : Nat → Int32) (post : (Nat → Int32) → Prop) : Array Value → State → Outcome → State → Prop := va_Qv (fun (u : (Nat → Int32)) => post u) (fun u t => gB (dC, dI) (tyl cI cC cZ cB cJ) A (wd_X10_lay_b3 cI cC cZ cB cJ gR gY u uZ) t) A
noncomputable abbrev rm_X10_lay_b3 : Room := { frames := 0, cells := 0, slots := 0, locals := 0 }
section S_X10_lay_b3
variable {p : Program} {l : Launch} {e : Env} {s : State} {m : MethodId} {args : Array Value} {below : List Frame} {meth : Method} {c : Code} {dC : Nat → ClassId} {dI : Nat → Nat → Nat} {cI cC cZ cB cJ : ClassId} {A : Nat → Prop} {gR gY : Nat} {uZ : Nat → Int32} {post : (Nat → Int32) → Prop}
noncomputable def ws_X10_lay_b3_2 (post : (Nat → Int32) → Prop) (next : Int32 → Int32 → (Nat → Int32) → Prop) (uZ : Nat → Int32) (x2 x3 : Int32) (uQ : Nat → Int32) : Prop := (21 ≤ x3 → post uQ) ∧ (¬ 21 ≤ x3 → ∀ v_1 : Int32, v_1 = x2 + x3 → vp_in x3 21 ∧ (∀ v_2 : Int32, v_2 = uZ x3.toNatClampNeg → vp_in v_1 252 ∧ (∀ v_3 : Int32, v_3 = x3 + 1 → next x2 v_3 (upd uQ v_1.toNatClampNeg v_2))))
noncomputable def wb_X10_lay_b3_2 (post : (Nat → Int32) → Prop) (uZ : Nat → Int32) : Nat → Int32 → Int32 → (Nat → Int32) → Prop := fun n => Nat.rec (motive := fun _ => Int32 → Int32 → (Nat → Int32) → Prop) (fun _ _ _ => False) (fun _ ih => ws_X10_lay_b3_2 post ih uZ) n
set_option maxHeartbeats 4000000 in
set_option maxRecDepth 100000 in
theorem ks_X10_lay_b3_2 (C0 : gc cX10_lay none 4 RX10 (dC, dI) (tyl cI cC cZ cB cJ) A p s m args meth c) {next : Int32 → Int32 → (Nat → Int32) → Prop} (hKn : ∀ (x2 : Int32) (x3 : Int32) (uQ : Nat → Int32) (H : Heap) (locs : List Loc) (ls : Array Slot), next x2 x3 uQ → va_P (dC, dI) classes (wd_X10_lay_b3 cI cC cZ cB cJ gR gY uQ uZ) H → va_D A (wd_X10_lay_b3 cI cC cZ cB cJ gR gY uQ uZ) → va_S A s.heap H locs → lv_has ls 4 [(0, .ref gY), (1, .ref gR), (2, .int x2), (3, .int x3)] → W p l e rm_X10_lay_b3 s m args below meth c H locs 0 0 (MQ below (q_X10_lay_b3 dC dI cI cC cZ cB cJ A gR gY uZ post) args s 0 0 A) (F0 m 2 ls [])) : ∀ (x2 x3 : Int32) (uQ : Nat → Int32) (H : Heap) (locs : List Loc) (ls : Array Slot), (ws_X10_lay_b3_2 post next uZ) x2 x3 uQ → va_P (dC, dI) classes (wd_X10_lay_b3 cI cC cZ cB cJ gR gY uQ uZ) H → va_D A (wd_X10_lay_b3 cI cC cZ cB cJ gR gY uQ uZ) → va_S A s.heap H locs → lv_has ls 4 [(0, .ref gY), (1, .ref gR), (2, .int x2), (3, .int x3)] → W p l e rm_X10_lay_b3 s m args below meth c H locs 0 0 (MQ below (q_X10_lay_b3 dC dI cI cC cZ cB cJ A gR gY uZ post) args s 0 0 A) (F0 m 2 ls []) := by
  obtain ⟨hx, hb, hr, hml, hown, hts, hlocks, hA, hK, hN, tL, tM, hZL, hTL, hZM, hTM, hZX⟩ := id C0
  intro x2 x3 uQ H locs ls hp hP hD hS hl
  unfold ws_X10_lay_b3_2 at hp
  refine lv_iload_n hx hb eX10_lay_0.2.2.1 rfl (lv_at hl 3 rfl) ?_
  refine lv_bipush (v := 21) hx hb eX10_lay_0.2.2.2.1 bp_21 ?_
  refine lv_icmp_ge (tgt := 22) hx hb eX10_lay_0.2.2.2.2.1 (by decide) (fun hc => ?_) (fun hc => ?_)
  · have hp := hp.1 hc
    exact W.vret hx hb hr (fun t ht hW => ⟨⟨uQ, rfl, hp, by rw [ht]; exact hP, va_K.moved hW.alike hK, hD⟩, hS.F ht⟩) hS.2.2 eX10_lay_0.2.2.2.2.2.2.2.2.2.2.2.2.2.2.2
  · have hp := hp.2 hc
    refine lv_aload_n hx hb eX10_lay_0.2.2.2.2.2.1 rfl (lv_at hl 1 rfl) ?_
    refine lv_iload_n hx hb eX10_lay_0.2.2.2.2.2.2.1 rfl (lv_at hl 2 rfl) ?_
    refine lv_iload_n hx hb eX10_lay_0.2.2.2.2.2.2.2.1 rfl (lv_at hl 3 rfl) ?_
    refine lv_iadd hx hb eX10_lay_0.2.2.2.2.2.2.2.2.1 ?_
    refine lv_topi (fun v_1 ev_1 => ?_)
    have hp := hp v_1 ev_1
    refine lv_aload_n hx hb eX10_lay_0.2.2.2.2.2.2.2.2.2.1 rfl (lv_at hl 0 rfl) ?_
    refine lv_iload_n hx hb eX10_lay_0.2.2.2.2.2.2.2.2.2.2.1 rfl (lv_at hl 3 rfl) ?_
    have hin := hp.1
    have hp := hp.2
    refine va_iald hx hb hK hP 1 0 rfl rfl hin eX10_lay_0.2.2.2.2.2.2.2.2.2.2.2.1 ?_
    refine lv_topi (fun v_2 ev_2 => ?_)
    have hp := hp v_2 ev_2
    have hin := hp.1
    have hp := hp.2
    refine va_iast hx hb hK hP hD hS 0 0 rfl rfl hin eX10_lay_0.2.2.2.2.2.2.2.2.2.2.2.2.1 (fun H locs hP hD hS => ?_)
    have hP : va_P (dC, dI) classes (wd_X10_lay_b3 cI cC cZ cB cJ gR gY (upd uQ v_1.toNatClampNeg v_2) uZ) H := hP
    have hD : va_D A (wd_X10_lay_b3 cI cC cZ cB cJ gR gY (upd uQ v_1.toNatClampNeg v_2) uZ) := hD
    obtain ⟨v_3, ev_3⟩ : ∃ y : Int32, y = x3 + 1 := ⟨_, rfl⟩
    refine lv_iinc (v := v_3) (lv' := [(3, .int v_3), (0, .ref gY), (1, .ref gR), (2, .int x2)]) hx hb eX10_lay_0.2.2.2.2.2.2.2.2.2.2.2.2.2.1 hl (k := 3) rfl (by rw [ev_3]; rfl) (by decide) rfl (fun ls hl => ?_)
    have hp := hp v_3 ev_3
    refine lv_goto (tgt := 2) hx hb eX10_lay_0.2.2.2.2.2.2.2.2.2.2.2.2.2.2.1 (by decide) ?_
    exact hKn x2 v_3 (upd uQ v_1.toNatClampNeg v_2) H locs ls hp hP hD hS (lv_sub hl [1, 2, 3, 0] rfl)
set_option maxHeartbeats 4000000 in
set_option maxRecDepth 100000 in
theorem kb_X10_lay_b3_2 (C0 : gc cX10_lay none 4 RX10 (dC, dI) (tyl cI cC cZ cB cJ) A p s m args meth c) : ∀ (n : Nat), ∀ (x2 x3 : Int32) (uQ : Nat → Int32) (H : Heap) (locs : List Loc) (ls : Array Slot), (wb_X10_lay_b3_2 post uZ n) x2 x3 uQ → va_P (dC, dI) classes (wd_X10_lay_b3 cI cC cZ cB cJ gR gY uQ uZ) H → va_D A (wd_X10_lay_b3 cI cC cZ cB cJ gR gY uQ uZ) → va_S A s.heap H locs → lv_has ls 4 [(0, .ref gY), (1, .ref gR), (2, .int x2), (3, .int x3)] → W p l e rm_X10_lay_b3 s m args below meth c H locs 0 0 (MQ below (q_X10_lay_b3 dC dI cI cC cZ cB cJ A gR gY uZ post) args s 0 0 A) (F0 m 2 ls []) := by
  intro n
  induction n with
  | zero =>
    intro x2 x3 uQ H locs ls hp
    exact False.elim hp
  | succ n ih =>
    intro x2 x3 uQ H locs ls hp
    exact ks_X10_lay_b3_2 C0 ih x2 x3 uQ H locs ls hp
end S_X10_lay_b3
noncomputable def wp_X10_lay_b3 (post : (Nat → Int32) → Prop) (p2 : Int32) (uQ uZ : Nat → Int32) : Prop := ∃ n : Nat, wb_X10_lay_b3_2 post uZ n p2 0 uQ
set_option maxHeartbeats 4000000 in
set_option maxRecDepth 100000 in
theorem c_X10_lay_b3 (l : Launch) (dC : Nat → ClassId) (dI : Nat → Nat → Nat) (cI cC cZ cB cJ : ClassId) (gR gY sz : Nat) (p2 : Int32) (uQ uZ : Nat → Int32) (post : (Nat → Int32) → Prop) (hw : wp_X10_lay_b3 post p2 uQ uZ) : Met l yX10_lay (gw yX10_lay cX10_lay 4 none) rm_X10_lay_b3 (va_Pc [.ref gY, .ref gR, .int p2] (gPre (dC, dI) (tyl cI cC cZ cB cJ) (wd_X10_lay_b3 cI cC cZ cB cJ gR gY uQ uZ) sz)) (q_X10_lay_b3 dC dI cI cC cZ cB cJ (va_A (wd_X10_lay_b3 cI cC cZ cB cJ gR gY uQ uZ) sz) gR gY uZ post) 0 0 (va_A (wd_X10_lay_b3 cI cC cZ cB cJ gR gY uQ uZ) sz) := by
  refine g_enter (own := RX10) (dC, dI) (tyl cI cC cZ cB cJ) (wd_X10_lay_b3 cI cC cZ cB cJ gR gY uQ uZ) sz [.ref gY, .ref gR, .int p2] (fun A => q_X10_lay_b3 dC dI cI cC cZ cB cJ A gR gY uZ post) pn_RX10 rfl (Nat.le_of_ble_eq_true rfl) ?_
  intro p e s m args below meth c A H locs ls C0 hP hD hS hl
  have hl : lv_has ls 4 [(0, .ref gY), (1, .ref gR), (2, .int p2)] := hl
  obtain ⟨hx, hb, hr, hml, hown, hts, hlocks, hA, hK, hN, tL, tM, hZL, hTL, hZM, hTM, hZX⟩ := id C0
  have hp := hw
  unfold wp_X10_lay_b3 at hp
  refine lv_iconst (v := 0) hx hb eX10_lay_0.1 ic_0 ?_
  refine lv_istore_n (lv' := [(3, .int 0), (0, .ref gY), (1, .ref gR), (2, .int p2)]) hx hb eX10_lay_0.2.1 rfl hl (by decide) rfl (fun ls hl => ?_)
  obtain ⟨n9, hp⟩ := hp
  exact kb_X10_lay_b3_2 C0 n9 p2 0 uQ H locs ls hp hP hD hS (lv_sub hl [1, 2, 3, 0] rfl)
noncomputable abbrev wd_X10_remember_b2 (cI cC cZ cB cJ : ClassId) (a_m oJ uD dY iJ lJ jQ jR jW jK pJ bM aY jO gR gY mK jZ iY bG mJ jB mQ lY eJ bY : Nat) (bW aG jG bQ dG : Int32) (jY : Nat) (m_length qG uW eY aJ aB bU dN aR aE bJ aW bT gJ dU bL bR bO mY pW : Int32) (uQ uZ : Nat → Int32) : va_W := [(a_m, .inr (10, [.ref oJ, .int bW, .ref uD, .ref dY, .ref iJ, .ref lJ, .int aG, .ref jQ, .ref jR, .ref jW, .ref jK, .int jG, .ref pJ, .int bQ, .int dG, rdv jK jO jY, .int m_length, .int qG, .int uW, .int eY, .ref bM, .ref aY, .int aJ, .int aB, .ref jO, .int bU, .int dN, .int aR, .int aE, .int bJ, .int aW, .ref gR, .int bT, .ref gY, .ref mK, .int gJ, .ref jZ, .int dU, .ref iY, .ref bG, .int bL, .int bR, .int bO, .ref mJ, .ref jB, .ref mQ, .int mY, .int pW, .ref lY, .ref eJ, .ref bY])), (gR, .inl (cI, 252, .inl uQ)), (gY, .inl (cI, 21, .inl uZ))]
noncomputable abbrev q_X10_remember_b2 (dC : Nat → ClassId) (dI : Nat → Nat → Nat) (cI cC cZ cB cJ : ClassId) (A : Nat → Prop) (a_m oJ uD dY iJ lJ jQ jR jW jK pJ bM aY jO gR gY mK jZ iY bG mJ jB mQ lY eJ bY : Nat) (bW aG jG bQ dG : Int32) (jY : Nat) (m_length qG uW eY aJ aB bU dN aR aE bJ aW gJ dU bL bR bO mY pW : Int32) (uZ : Nat → Int32) (post : Int32 → (Nat → Int32) → Prop) : Array Value → State → Outcome → State → Prop := va_Qv (fun (u : Int32 × (Nat → Int32)) => post u.1 u.2) (fun u t => gB (dC, dI) (tyl cI cC cZ cB cJ) A (wd_X10_remember_b2 cI cC cZ cB cJ a_m oJ uD dY iJ lJ jQ jR jW jK pJ bM aY jO gR gY mK jZ iY bG mJ jB mQ lY eJ bY bW aG jG bQ dG jY m_length qG uW eY aJ aB bU dN aR aE bJ aW u.1 gJ dU bL bR bO mY pW u.2 uZ) t) A
noncomputable abbrev rm_X10_remember_b2 : Room := { frames := 1, cells := 0, slots := 0, locals := 23 }
section S_X10_remember_b2
variable {p : Program} {l : Launch} {e : Env} {s : State} {m : MethodId} {args : Array Value} {below : List Frame} {meth : Method} {c : Code} {dC : Nat → ClassId} {dI : Nat → Nat → Nat} {cI cC cZ cB cJ : ClassId} {A : Nat → Prop} {a_m oJ uD dY iJ lJ jQ jR jW jK pJ bM aY jO gR gY mK jZ iY bG mJ jB mQ lY eJ bY : Nat} {bW aG jG bQ dG : Int32} {jY : Nat} {m_length qG uW eY aJ aB bU dN aR aE bJ aW gJ dU bL bR bO mY pW : Int32} {uZ : Nat → Int32} {post : Int32 → (Nat → Int32) → Prop}
noncomputable def ws_X10_remember_b2_49 (post : Int32 → (Nat → Int32) → Prop) (uZ : Nat → Int32) (bT : Int32) (uQ : Nat → Int32) : Prop := ∀ v_1 : Int32, v_1 = 21 * bT → wp_X10_lay_b3 (fun aED => ∀ v_3 : Int32, v_3 = bT + 1 → post v_3 aED) v_1 uQ uZ
set_option maxHeartbeats 4000000 in
set_option maxRecDepth 100000 in
theorem ks_X10_remember_b2_49 (C0 : gc cX10_remember none 3 RX10 (dC, dI) (tyl cI cC cZ cB cJ) A p s m args meth c) : ∀ (bT : Int32) (uQ : Nat → Int32) (H : Heap) (locs : List Loc) (ls : Array Slot), (ws_X10_remember_b2_49 post uZ) bT uQ → va_P (dC, dI) classes (wd_X10_remember_b2 cI cC cZ cB cJ a_m oJ uD dY iJ lJ jQ jR jW jK pJ bM aY jO gR gY mK jZ iY bG mJ jB mQ lY eJ bY bW aG jG bQ dG jY m_length qG uW eY aJ aB bU dN aR aE bJ aW bT gJ dU bL bR bO mY pW uQ uZ) H → va_D A (wd_X10_remember_b2 cI cC cZ cB cJ a_m oJ uD dY iJ lJ jQ jR jW jK pJ bM aY jO gR gY mK jZ iY bG mJ jB mQ lY eJ bY bW aG jG bQ dG jY m_length qG uW eY aJ aB bU dN aR aE bJ aW bT gJ dU bL bR bO mY pW uQ uZ) → va_S A s.heap H locs → lv_has ls 3 [(0, .ref a_m), (1, .ref gY)] → W p l e rm_X10_remember_b2 s m args below meth c H locs 0 0 (MQ below (q_X10_remember_b2 dC dI cI cC cZ cB cJ A a_m oJ uD dY iJ lJ jQ jR jW jK pJ bM aY jO gR gY mK jZ iY bG mJ jB mQ lY eJ bY bW aG jG bQ dG jY m_length qG uW eY aJ aB bU dN aR aE bJ aW gJ dU bL bR bO mY pW uZ post) args s 0 0 A) (F0 m 49 ls []) := by
  obtain ⟨hx, hb, hr, hml, hown, hts, hlocks, hA, hK, hN, tL, tM, hZL, hTL, hZM, hTM, hZX⟩ := id C0
  intro bT uQ H locs ls hp hP hD hS hl
  unfold ws_X10_remember_b2_49 at hp
  refine lv_aload_n hx hb eX10_remember_30.2.2.2.2.2.2.2.2.2.2.2.1 rfl (lv_at hl 1 rfl) ?_
  refine lv_aload_n hx hb eX10_remember_30.2.2.2.2.2.2.2.2.2.2.2.2.1 rfl (lv_at hl 0 rfl) ?_
  refine va_get (D := (dC, dI)) (ci := 10) (v := .ref gR) (C := RX10) (T := TX10) (N := 51) hx hb hts i_X10 hown hK hP 0 rfl rfl 31 (Nat.le_of_ble_eq_true rfl) (hts _ q_767) (fun _ h9 => h9) rfl eX10_remember_30.2.2.2.2.2.2.2.2.2.2.2.2.2.1 ?_
  refine lv_bipush (v := 21) hx hb eX10_remember_30.2.2.2.2.2.2.2.2.2.2.2.2.2.2.1 bp_21 ?_
  refine lv_aload_n hx hb eX10_remember_30.2.2.2.2.2.2.2.2.2.2.2.2.2.2.2 rfl (lv_at hl 0 rfl) ?_
  refine va_get (D := (dC, dI)) (ci := 10) (v := .int bT) (C := RX10) (T := TX10) (N := 51) hx hb hts i_X10 hown hK hP 0 rfl rfl 32 (Nat.le_of_ble_eq_true rfl) (hts _ q_684) (fun _ h9 => h9) rfl eX10_remember_57.1 ?_
  refine lv_imul hx hb eX10_remember_57.2.1 ?_
  refine lv_topi (fun v_1 ev_1 => ?_)
  have hp := hp v_1 ev_1
  have hm := mgk (wc := (wd_X10_lay_b3 cI cC cZ cB cJ gR gY uQ uZ)) hP mk_0 3 rfl rfl rfl
  refine g_callv hP hD hS hA (mixT mk_0) (mixF mk_0) hm.1 hm.2 (nd_F _) (dis_g _) (g_runS (As := [.ref gY, .ref gR, .int v_1]) (rest := []) C0 hP hD hS (mixT mk_0) hm.1 (nd_T _) (c_X10_lay_b3 l dC dI cI cC cZ cB cJ gR gY H.size v_1 uQ uZ _ hp) q_768 q_770 q_769 q_642 h_X10_lay rfl rfl ⟨Nat.le_of_ble_eq_true rfl, Nat.le_of_ble_eq_true rfl⟩ rfl rfl hl.1 rfl (lv_room (Nat.le_of_ble_eq_true rfl)) eX10_remember_57.2.2.1 ⟨Nat.zero_le _, Nat.zero_le _⟩) (fun u H locs hp hP hD hS => ?_)
  obtain ⟨aED, rfl⟩ : ∃ z, z = u := ⟨_, rfl⟩
  have hPD := PDm (ws' := (wd_X10_remember_b2 cI cC cZ cB cJ a_m oJ uD dY iJ lJ jQ jR jW jK pJ bM aY jO gR gY mK jZ iY bG mJ jB mQ lY eJ bY bW aG jG bQ dG jY m_length qG uW eY aJ aB bU dN aR aE bJ aW bT gJ dU bL bR bO mY pW aED uZ)) hP hD 3 rfl rfl rfl
  have hP := hPD.1
  have hD := hPD.2
  refine lv_aload_n hx hb eX10_remember_57.2.2.2.1 rfl (lv_at hl 0 rfl) ?_
  refine lv_dup hx hb eX10_remember_57.2.2.2.2.1 rfl ?_
  refine va_get (D := (dC, dI)) (ci := 10) (v := .int bT) (C := RX10) (T := TX10) (N := 51) hx hb hts i_X10 hown hK hP 0 rfl rfl 32 (Nat.le_of_ble_eq_true rfl) (hts _ q_684) (fun _ h9 => h9) rfl eX10_remember_57.2.2.2.2.2.1 ?_
  refine lv_iconst (v := 1) hx hb eX10_remember_57.2.2.2.2.2.2 ic_1 ?_
  refine lv_iadd hx hb eX10_remember_70.1 ?_
  refine lv_topi (fun v_3 ev_3 => ?_)
  have hp := hp v_3 ev_3
  refine va_put (D := (dC, dI)) (ci := 10) (v := .int v_3) (ty := .int) (C := RX10) (T := TX10) (N := 51) hx hb hts i_X10 tyX10 tyX10_ok nmX10 hown hK hP hD hS 0 rfl rfl 32 (Nat.le_of_ble_eq_true rfl) (hts _ q_684) (fun _ h9 => h9) rfl (tyX10_ok 32 (Nat.le_of_ble_eq_true rfl)) rfl rfl (Nat.le_of_ble_eq_true rfl) eX10_remember_70.2.1 (fun H locs hP hD hS => ?_)
  have hP : va_P (dC, dI) classes (wd_X10_remember_b2 cI cC cZ cB cJ a_m oJ uD dY iJ lJ jQ jR jW jK pJ bM aY jO gR gY mK jZ iY bG mJ jB mQ lY eJ bY bW aG jG bQ dG jY m_length qG uW eY aJ aB bU dN aR aE bJ aW v_3 gJ dU bL bR bO mY pW aED uZ) H := hP
  have hD : va_D A (wd_X10_remember_b2 cI cC cZ cB cJ a_m oJ uD dY iJ lJ jQ jR jW jK pJ bM aY jO gR gY mK jZ iY bG mJ jB mQ lY eJ bY bW aG jG bQ dG jY m_length qG uW eY aJ aB bU dN aR aE bJ aW v_3 gJ dU bL bR bO mY pW aED uZ) := hD
  exact W.vret hx hb hr (fun t ht hW => ⟨⟨(v_3, aED), rfl, hp, by rw [ht]; exact hP, va_K.moved hW.alike hK, hD⟩, hS.F ht⟩) hS.2.2 eX10_remember_70.2.2
noncomputable def ws_X10_remember_b2_11 (post : Int32 → (Nat → Int32) → Prop) (next : Int32 → Int32 → (Nat → Int32) → Prop) (uZ : Nat → Int32) (x2 bT : Int32) (uQ : Nat → Int32) : Prop := (231 ≤ x2 → ∀ v_4 : Int32, v_4 = bT - 1 → ws_X10_remember_b2_49 post uZ v_4 uQ) ∧ (¬ 231 ≤ x2 → ∀ v_5 : Int32, v_5 = x2 + 21 → vp_in v_5 252 ∧ (∀ v_6 : Int32, v_6 = uQ v_5.toNatClampNeg → vp_in x2 252 ∧ (∀ v_7 : Int32, v_7 = x2 + 1 → next v_7 bT (upd uQ x2.toNatClampNeg v_6))))
noncomputable def wb_X10_remember_b2_11 (post : Int32 → (Nat → Int32) → Prop) (uZ : Nat → Int32) : Nat → Int32 → Int32 → (Nat → Int32) → Prop := fun n => Nat.rec (motive := fun _ => Int32 → Int32 → (Nat → Int32) → Prop) (fun _ _ _ => False) (fun _ ih => ws_X10_remember_b2_11 post ih uZ) n
set_option maxHeartbeats 4000000 in
set_option maxRecDepth 100000 in
theorem ks_X10_remember_b2_11 (C0 : gc cX10_remember none 3 RX10 (dC, dI) (tyl cI cC cZ cB cJ) A p s m args meth c) {next : Int32 → Int32 → (Nat → Int32) → Prop} (hKn : ∀ (x2 : Int32) (bT : Int32) (uQ : Nat → Int32) (H : Heap) (locs : List Loc) (ls : Array Slot), next x2 bT uQ → va_P (dC, dI) classes (wd_X10_remember_b2 cI cC cZ cB cJ a_m oJ uD dY iJ lJ jQ jR jW jK pJ bM aY jO gR gY mK jZ iY bG mJ jB mQ lY eJ bY bW aG jG bQ dG jY m_length qG uW eY aJ aB bU dN aR aE bJ aW bT gJ dU bL bR bO mY pW uQ uZ) H → va_D A (wd_X10_remember_b2 cI cC cZ cB cJ a_m oJ uD dY iJ lJ jQ jR jW jK pJ bM aY jO gR gY mK jZ iY bG mJ jB mQ lY eJ bY bW aG jG bQ dG jY m_length qG uW eY aJ aB bU dN aR aE bJ aW bT gJ dU bL bR bO mY pW uQ uZ) → va_S A s.heap H locs → lv_has ls 3 [(0, .ref a_m), (1, .ref gY), (2, .int x2)] → W p l e rm_X10_remember_b2 s m args below meth c H locs 0 0 (MQ below (q_X10_remember_b2 dC dI cI cC cZ cB cJ A a_m oJ uD dY iJ lJ jQ jR jW jK pJ bM aY jO gR gY mK jZ iY bG mJ jB mQ lY eJ bY bW aG jG bQ dG jY m_length qG uW eY aJ aB bU dN aR aE bJ aW gJ dU bL bR bO mY pW uZ post) args s 0 0 A) (F0 m 11 ls [])) : ∀ (x2 bT : Int32) (uQ : Nat → Int32) (H : Heap) (locs : List Loc) (ls : Array Slot), (ws_X10_remember_b2_11 post next uZ) x2 bT uQ → va_P (dC, dI) classes (wd_X10_remember_b2 cI cC cZ cB cJ a_m oJ uD dY iJ lJ jQ jR jW jK pJ bM aY jO gR gY mK jZ iY bG mJ jB mQ lY eJ bY bW aG jG bQ dG jY m_length qG uW eY aJ aB bU dN aR aE bJ aW bT gJ dU bL bR bO mY pW uQ uZ) H → va_D A (wd_X10_remember_b2 cI cC cZ cB cJ a_m oJ uD dY iJ lJ jQ jR jW jK pJ bM aY jO gR gY mK jZ iY bG mJ jB mQ lY eJ bY bW aG jG bQ dG jY m_length qG uW eY aJ aB bU dN aR aE bJ aW bT gJ dU bL bR bO mY pW uQ uZ) → va_S A s.heap H locs → lv_has ls 3 [(0, .ref a_m), (1, .ref gY), (2, .int x2)] → W p l e rm_X10_remember_b2 s m args below meth c H locs 0 0 (MQ below (q_X10_remember_b2 dC dI cI cC cZ cB cJ A a_m oJ uD dY iJ lJ jQ jR jW jK pJ bM aY jO gR gY mK jZ iY bG mJ jB mQ lY eJ bY bW aG jG bQ dG jY m_length qG uW eY aJ aB bU dN aR aE bJ aW gJ dU bL bR bO mY pW uZ post) args s 0 0 A) (F0 m 11 ls []) := by
  obtain ⟨hx, hb, hr, hml, hown, hts, hlocks, hA, hK, hN, tL, tM, hZL, hTL, hZM, hTM, hZX⟩ := id C0
  intro x2 bT uQ H locs ls hp hP hD hS hl
  unfold ws_X10_remember_b2_11 at hp
  refine lv_iload_n hx hb eX10_remember_0.2.2.2.2.2.2.1 rfl (lv_at hl 2 rfl) ?_
  refine lv_sipush (v := 231) hx hb eX10_remember_0.2.2.2.2.2.2.2.1 sp_231 ?_
  refine lv_icmp_ge (tgt := 39) hx hb eX10_remember_0.2.2.2.2.2.2.2.2.1 (by decide) (fun hc => ?_) (fun hc => ?_)
  · have hp := hp.1 hc
    refine lv_aload_n hx hb eX10_remember_30.2.2.2.2.2.1 rfl (lv_at hl 0 rfl) ?_
    refine lv_dup hx hb eX10_remember_30.2.2.2.2.2.2.1 rfl ?_
    refine va_get (D := (dC, dI)) (ci := 10) (v := .int bT) (C := RX10) (T := TX10) (N := 51) hx hb hts i_X10 hown hK hP 0 rfl rfl 32 (Nat.le_of_ble_eq_true rfl) (hts _ q_684) (fun _ h9 => h9) rfl eX10_remember_30.2.2.2.2.2.2.2.1 ?_
    refine lv_iconst (v := 1) hx hb eX10_remember_30.2.2.2.2.2.2.2.2.1 ic_1 ?_
    refine lv_isub hx hb eX10_remember_30.2.2.2.2.2.2.2.2.2.1 ?_
    refine lv_topi (fun v_4 ev_4 => ?_)
    have hp := hp v_4 ev_4
    refine va_put (D := (dC, dI)) (ci := 10) (v := .int v_4) (ty := .int) (C := RX10) (T := TX10) (N := 51) hx hb hts i_X10 tyX10 tyX10_ok nmX10 hown hK hP hD hS 0 rfl rfl 32 (Nat.le_of_ble_eq_true rfl) (hts _ q_684) (fun _ h9 => h9) rfl (tyX10_ok 32 (Nat.le_of_ble_eq_true rfl)) rfl rfl (Nat.le_of_ble_eq_true rfl) eX10_remember_30.2.2.2.2.2.2.2.2.2.2.1 (fun H locs hP hD hS => ?_)
    have hP : va_P (dC, dI) classes (wd_X10_remember_b2 cI cC cZ cB cJ a_m oJ uD dY iJ lJ jQ jR jW jK pJ bM aY jO gR gY mK jZ iY bG mJ jB mQ lY eJ bY bW aG jG bQ dG jY m_length qG uW eY aJ aB bU dN aR aE bJ aW v_4 gJ dU bL bR bO mY pW uQ uZ) H := hP
    have hD : va_D A (wd_X10_remember_b2 cI cC cZ cB cJ a_m oJ uD dY iJ lJ jQ jR jW jK pJ bM aY jO gR gY mK jZ iY bG mJ jB mQ lY eJ bY bW aG jG bQ dG jY m_length qG uW eY aJ aB bU dN aR aE bJ aW v_4 gJ dU bL bR bO mY pW uQ uZ) := hD
    exact ks_X10_remember_b2_49 C0 v_4 uQ H locs ls hp hP hD hS (lv_sub hl [0, 1] rfl)
  · have hp := hp.2 hc
    refine lv_aload_n hx hb eX10_remember_0.2.2.2.2.2.2.2.2.2.1 rfl (lv_at hl 0 rfl) ?_
    refine va_get (D := (dC, dI)) (ci := 10) (v := .ref gR) (C := RX10) (T := TX10) (N := 51) hx hb hts i_X10 hown hK hP 0 rfl rfl 31 (Nat.le_of_ble_eq_true rfl) (hts _ q_767) (fun _ h9 => h9) rfl eX10_remember_0.2.2.2.2.2.2.2.2.2.2.1 ?_
    refine lv_iload_n hx hb eX10_remember_0.2.2.2.2.2.2.2.2.2.2.2.1 rfl (lv_at hl 2 rfl) ?_
    refine lv_aload_n hx hb eX10_remember_0.2.2.2.2.2.2.2.2.2.2.2.2.1 rfl (lv_at hl 0 rfl) ?_
    refine va_get (D := (dC, dI)) (ci := 10) (v := .ref gR) (C := RX10) (T := TX10) (N := 51) hx hb hts i_X10 hown hK hP 0 rfl rfl 31 (Nat.le_of_ble_eq_true rfl) (hts _ q_767) (fun _ h9 => h9) rfl eX10_remember_0.2.2.2.2.2.2.2.2.2.2.2.2.2.1 ?_
    refine lv_iload_n hx hb eX10_remember_0.2.2.2.2.2.2.2.2.2.2.2.2.2.2.1 rfl (lv_at hl 2 rfl) ?_
    refine lv_bipush (v := 21) hx hb eX10_remember_0.2.2.2.2.2.2.2.2.2.2.2.2.2.2.2 bp_21 ?_
    refine lv_iadd hx hb eX10_remember_30.1 ?_
    refine lv_topi (fun v_5 ev_5 => ?_)
    have hp := hp v_5 ev_5
    have hin := hp.1
    have hp := hp.2
    refine va_iald hx hb hK hP 1 0 rfl rfl hin eX10_remember_30.2.1 ?_
    refine lv_topi (fun v_6 ev_6 => ?_)
    have hp := hp v_6 ev_6
    have hin := hp.1
    have hp := hp.2
    refine va_iast hx hb hK hP hD hS 1 0 rfl rfl hin eX10_remember_30.2.2.1 (fun H locs hP hD hS => ?_)
    have hP : va_P (dC, dI) classes (wd_X10_remember_b2 cI cC cZ cB cJ a_m oJ uD dY iJ lJ jQ jR jW jK pJ bM aY jO gR gY mK jZ iY bG mJ jB mQ lY eJ bY bW aG jG bQ dG jY m_length qG uW eY aJ aB bU dN aR aE bJ aW bT gJ dU bL bR bO mY pW (upd uQ x2.toNatClampNeg v_6) uZ) H := hP
    have hD : va_D A (wd_X10_remember_b2 cI cC cZ cB cJ a_m oJ uD dY iJ lJ jQ jR jW jK pJ bM aY jO gR gY mK jZ iY bG mJ jB mQ lY eJ bY bW aG jG bQ dG jY m_length qG uW eY aJ aB bU dN aR aE bJ aW bT gJ dU bL bR bO mY pW (upd uQ x2.toNatClampNeg v_6) uZ) := hD
    obtain ⟨v_7, ev_7⟩ : ∃ y : Int32, y = x2 + 1 := ⟨_, rfl⟩
    refine lv_iinc (v := v_7) (lv' := [(2, .int v_7), (0, .ref a_m), (1, .ref gY)]) hx hb eX10_remember_30.2.2.2.1 hl (k := 2) rfl (by rw [ev_7]; rfl) (by decide) rfl (fun ls hl => ?_)
    have hp := hp v_7 ev_7
    refine lv_goto (tgt := 11) hx hb eX10_remember_30.2.2.2.2.1 (by decide) ?_
    exact hKn v_7 bT (upd uQ x2.toNatClampNeg v_6) H locs ls hp hP hD hS (lv_sub hl [1, 2, 0] rfl)
set_option maxHeartbeats 4000000 in
set_option maxRecDepth 100000 in
theorem kb_X10_remember_b2_11 (C0 : gc cX10_remember none 3 RX10 (dC, dI) (tyl cI cC cZ cB cJ) A p s m args meth c) : ∀ (n : Nat), ∀ (x2 bT : Int32) (uQ : Nat → Int32) (H : Heap) (locs : List Loc) (ls : Array Slot), (wb_X10_remember_b2_11 post uZ n) x2 bT uQ → va_P (dC, dI) classes (wd_X10_remember_b2 cI cC cZ cB cJ a_m oJ uD dY iJ lJ jQ jR jW jK pJ bM aY jO gR gY mK jZ iY bG mJ jB mQ lY eJ bY bW aG jG bQ dG jY m_length qG uW eY aJ aB bU dN aR aE bJ aW bT gJ dU bL bR bO mY pW uQ uZ) H → va_D A (wd_X10_remember_b2 cI cC cZ cB cJ a_m oJ uD dY iJ lJ jQ jR jW jK pJ bM aY jO gR gY mK jZ iY bG mJ jB mQ lY eJ bY bW aG jG bQ dG jY m_length qG uW eY aJ aB bU dN aR aE bJ aW bT gJ dU bL bR bO mY pW uQ uZ) → va_S A s.heap H locs → lv_has ls 3 [(0, .ref a_m), (1, .ref gY), (2, .int x2)] → W p l e rm_X10_remember_b2 s m args below meth c H locs 0 0 (MQ below (q_X10_remember_b2 dC dI cI cC cZ cB cJ A a_m oJ uD dY iJ lJ jQ jR jW jK pJ bM aY jO gR gY mK jZ iY bG mJ jB mQ lY eJ bY bW aG jG bQ dG jY m_length qG uW eY aJ aB bU dN aR aE bJ aW gJ dU bL bR bO mY pW uZ post) args s 0 0 A) (F0 m 11 ls []) := by
  intro n
  induction n with
  | zero =>
    intro x2 bT uQ H locs ls hp
    exact False.elim hp
  | succ n ih =>
    intro x2 bT uQ H locs ls hp
    exact ks_X10_remember_b2_11 C0 ih x2 bT uQ H locs ls hp
end S_X10_remember_b2
noncomputable def wp_X10_remember_b2 (post : Int32 → (Nat → Int32) → Prop) (bT : Int32) (uQ uZ : Nat → Int32) : Prop := (¬ bT = 12 → ws_X10_remember_b2_49 post uZ bT uQ) ∧ (bT = 12 → ∃ n : Nat, wb_X10_remember_b2_11 post uZ n 0 bT uQ)
set_option maxHeartbeats 4000000 in
set_option maxRecDepth 100000 in
theorem c_X10_remember_b2 (l : Launch) (dC : Nat → ClassId) (dI : Nat → Nat → Nat) (cI cC cZ cB cJ : ClassId) (a_m oJ uD dY iJ lJ jQ jR jW jK pJ bM aY jO gR gY mK jZ iY bG mJ jB mQ lY eJ bY sz : Nat) (bW aG jG bQ dG : Int32) (jY : Nat) (m_length qG uW eY aJ aB bU dN aR aE bJ aW bT gJ dU bL bR bO mY pW : Int32) (uQ uZ : Nat → Int32) (post : Int32 → (Nat → Int32) → Prop) (hw : wp_X10_remember_b2 post bT uQ uZ) : Met l yX10_remember (gw yX10_remember cX10_remember 3 none) rm_X10_remember_b2 (va_Pc [.ref a_m, .ref gY] (gPre (dC, dI) (tyl cI cC cZ cB cJ) (wd_X10_remember_b2 cI cC cZ cB cJ a_m oJ uD dY iJ lJ jQ jR jW jK pJ bM aY jO gR gY mK jZ iY bG mJ jB mQ lY eJ bY bW aG jG bQ dG jY m_length qG uW eY aJ aB bU dN aR aE bJ aW bT gJ dU bL bR bO mY pW uQ uZ) sz)) (q_X10_remember_b2 dC dI cI cC cZ cB cJ (va_A (wd_X10_remember_b2 cI cC cZ cB cJ a_m oJ uD dY iJ lJ jQ jR jW jK pJ bM aY jO gR gY mK jZ iY bG mJ jB mQ lY eJ bY bW aG jG bQ dG jY m_length qG uW eY aJ aB bU dN aR aE bJ aW bT gJ dU bL bR bO mY pW uQ uZ) sz) a_m oJ uD dY iJ lJ jQ jR jW jK pJ bM aY jO gR gY mK jZ iY bG mJ jB mQ lY eJ bY bW aG jG bQ dG jY m_length qG uW eY aJ aB bU dN aR aE bJ aW gJ dU bL bR bO mY pW uZ post) 0 0 (va_A (wd_X10_remember_b2 cI cC cZ cB cJ a_m oJ uD dY iJ lJ jQ jR jW jK pJ bM aY jO gR gY mK jZ iY bG mJ jB mQ lY eJ bY bW aG jG bQ dG jY m_length qG uW eY aJ aB bU dN aR aE bJ aW bT gJ dU bL bR bO mY pW uQ uZ) sz) := by
  refine g_enter (own := RX10) (dC, dI) (tyl cI cC cZ cB cJ) (wd_X10_remember_b2 cI cC cZ cB cJ a_m oJ uD dY iJ lJ jQ jR jW jK pJ bM aY jO gR gY mK jZ iY bG mJ jB mQ lY eJ bY bW aG jG bQ dG jY m_length qG uW eY aJ aB bU dN aR aE bJ aW bT gJ dU bL bR bO mY pW uQ uZ) sz [.ref a_m, .ref gY] (fun A => q_X10_remember_b2 dC dI cI cC cZ cB cJ A a_m oJ uD dY iJ lJ jQ jR jW jK pJ bM aY jO gR gY mK jZ iY bG mJ jB mQ lY eJ bY bW aG jG bQ dG jY m_length qG uW eY aJ aB bU dN aR aE bJ aW gJ dU bL bR bO mY pW uZ post) pn_RX10 rfl (Nat.le_of_ble_eq_true rfl) ?_
  intro p e s m args below meth c A H locs ls C0 hP hD hS hl
  have hl : lv_has ls 3 [(0, .ref a_m), (1, .ref gY)] := hl
  obtain ⟨hx, hb, hr, hml, hown, hts, hlocks, hA, hK, hN, tL, tM, hZL, hTL, hZM, hTM, hZX⟩ := id C0
  have hp := hw
  unfold wp_X10_remember_b2 at hp
  refine lv_aload_n hx hb eX10_remember_0.1 rfl (lv_at hl 0 rfl) ?_
  refine va_get (D := (dC, dI)) (ci := 10) (v := .int bT) (C := RX10) (T := TX10) (N := 51) hx hb hts i_X10 hown hK hP 0 rfl rfl 32 (Nat.le_of_ble_eq_true rfl) (hts _ q_684) (fun _ h9 => h9) rfl eX10_remember_0.2.1 ?_
  refine lv_bipush (v := 12) hx hb eX10_remember_0.2.2.1 bp_12 ?_
  refine lv_icmp_ne (tgt := 49) hx hb eX10_remember_0.2.2.2.1 (by decide) (fun hc => ?_) (fun hc => ?_)
  · have hp := hp.1 hc
    exact ks_X10_remember_b2_49 C0 bT uQ H locs ls hp hP hD hS (lv_sub hl [0, 1] rfl)
  · have hp := hp.2 hc
    refine lv_iconst (v := 0) hx hb eX10_remember_0.2.2.2.2.1 ic_0 ?_
    refine lv_istore_n (lv' := [(2, .int 0), (0, .ref a_m), (1, .ref gY)]) hx hb eX10_remember_0.2.2.2.2.2.1 rfl hl (by decide) rfl (fun ls hl => ?_)
    obtain ⟨n9, hp⟩ := hp
    exact kb_X10_remember_b2_11 C0 n9 0 bT uQ H locs ls hp hP hD hS (lv_sub hl [1, 2, 0] rfl)
noncomputable abbrev wd_X10_tell (cI cC cZ cB cJ : ClassId) (a_m oJ uD dY iJ lJ jQ jR jW jK pJ bM aY jO gR gY mK jZ iY bG mJ jB mQ lY eJ bY : Nat) (bW aG jG bQ dG : Int32) (jY : Nat) (m_length qG uW eY aJ aB bU dN aR aE bJ aW bT gJ dU bL bR bO mY pW : Int32) (uM : Nat → Int32) : va_W := [(a_m, .inr (10, [.ref oJ, .int bW, .ref uD, .ref dY, .ref iJ, .ref lJ, .int aG, .ref jQ, .ref jR, .ref jW, .ref jK, .int jG, .ref pJ, .int bQ, .int dG, rdv jK jO jY, .int m_length, .int qG, .int uW, .int eY, .ref bM, .ref aY, .int aJ, .int aB, .ref jO, .int bU, .int dN, .int aR, .int aE, .int bJ, .int aW, .ref gR, .int bT, .ref gY, .ref mK, .int gJ, .ref jZ, .int dU, .ref iY, .ref bG, .int bL, .int bR, .int bO, .ref mJ, .ref jB, .ref mQ, .int mY, .int pW, .ref lY, .ref eJ, .ref bY])), (pJ, .inl (cI, 32, .inl uM))]
noncomputable abbrev q_X10_tell (dC : Nat → ClassId) (dI : Nat → Nat → Nat) (cI cC cZ cB cJ : ClassId) (A : Nat → Prop) (a_m oJ uD dY iJ lJ jQ jR jW jK pJ bM aY jO gR gY mK jZ iY bG mJ jB mQ lY eJ bY : Nat) (bW aG jG dG : Int32) (jY : Nat) (m_length qG uW eY aJ aB bU dN aR aE bJ aW bT gJ dU bL bR bO mY pW : Int32) (post : Int32 → (Nat → Int32) → Prop) : Array Value → State → Outcome → State → Prop := va_Qv (fun (u : Int32 × (Nat → Int32)) => post u.1 u.2) (fun u t => gB (dC, dI) (tyl cI cC cZ cB cJ) A (wd_X10_tell cI cC cZ cB cJ a_m oJ uD dY iJ lJ jQ jR jW jK pJ bM aY jO gR gY mK jZ iY bG mJ jB mQ lY eJ bY bW aG jG u.1 dG jY m_length qG uW eY aJ aB bU dN aR aE bJ aW bT gJ dU bL bR bO mY pW u.2) t) A
noncomputable abbrev rm_X10_tell : Room := { frames := 0, cells := 0, slots := 0, locals := 0 }
noncomputable def wp_X10_tell (post : Int32 → (Nat → Int32) → Prop) (p0 bQ : Int32) (uM : Nat → Int32) : Prop := vp_in bQ 32 ∧ (∀ v_1 : Int32, v_1 = bQ + 1 → post v_1 (upd uM bQ.toNatClampNeg p0))
set_option maxHeartbeats 4000000 in
set_option maxRecDepth 100000 in
theorem c_X10_tell (l : Launch) (dC : Nat → ClassId) (dI : Nat → Nat → Nat) (cI cC cZ cB cJ : ClassId) (a_m oJ uD dY iJ lJ jQ jR jW jK pJ bM aY jO gR gY mK jZ iY bG mJ jB mQ lY eJ bY sz : Nat) (p0 bW aG jG bQ dG : Int32) (jY : Nat) (m_length qG uW eY aJ aB bU dN aR aE bJ aW bT gJ dU bL bR bO mY pW : Int32) (uM : Nat → Int32) (post : Int32 → (Nat → Int32) → Prop) (hw : wp_X10_tell post p0 bQ uM) : Met l yX10_tell (gw yX10_tell cX10_tell 2 none) rm_X10_tell (va_Pc [.ref a_m, .int p0] (gPre (dC, dI) (tyl cI cC cZ cB cJ) (wd_X10_tell cI cC cZ cB cJ a_m oJ uD dY iJ lJ jQ jR jW jK pJ bM aY jO gR gY mK jZ iY bG mJ jB mQ lY eJ bY bW aG jG bQ dG jY m_length qG uW eY aJ aB bU dN aR aE bJ aW bT gJ dU bL bR bO mY pW uM) sz)) (q_X10_tell dC dI cI cC cZ cB cJ (va_A (wd_X10_tell cI cC cZ cB cJ a_m oJ uD dY iJ lJ jQ jR jW jK pJ bM aY jO gR gY mK jZ iY bG mJ jB mQ lY eJ bY bW aG jG bQ dG jY m_length qG uW eY aJ aB bU dN aR aE bJ aW bT gJ dU bL bR bO mY pW uM) sz) a_m oJ uD dY iJ lJ jQ jR jW jK pJ bM aY jO gR gY mK jZ iY bG mJ jB mQ lY eJ bY bW aG jG dG jY m_length qG uW eY aJ aB bU dN aR aE bJ aW bT gJ dU bL bR bO mY pW post) 0 0 (va_A (wd_X10_tell cI cC cZ cB cJ a_m oJ uD dY iJ lJ jQ jR jW jK pJ bM aY jO gR gY mK jZ iY bG mJ jB mQ lY eJ bY bW aG jG bQ dG jY m_length qG uW eY aJ aB bU dN aR aE bJ aW bT gJ dU bL bR bO mY pW uM) sz) := by
  refine g_enter (own := RX10) (dC, dI) (tyl cI cC cZ cB cJ) (wd_X10_tell cI cC cZ cB cJ a_m oJ uD dY iJ lJ jQ jR jW jK pJ bM aY jO gR gY mK jZ iY bG mJ jB mQ lY eJ bY bW aG jG bQ dG jY m_length qG uW eY aJ aB bU dN aR aE bJ aW bT gJ dU bL bR bO mY pW uM) sz [.ref a_m, .int p0] (fun A => q_X10_tell dC dI cI cC cZ cB cJ A a_m oJ uD dY iJ lJ jQ jR jW jK pJ bM aY jO gR gY mK jZ iY bG mJ jB mQ lY eJ bY bW aG jG dG jY m_length qG uW eY aJ aB bU dN aR aE bJ aW bT gJ dU bL bR bO mY pW post) pn_RX10 rfl (Nat.le_of_ble_eq_true rfl) ?_
  intro p e s m args below meth c A H locs ls C0 hP hD hS hl
  have hl : lv_has ls 2 [(0, .ref a_m), (1, .int p0)] := hl
  obtain ⟨hx, hb, hr, hml, hown, hts, hlocks, hA, hK, hN, tL, tM, hZL, hTL, hZM, hTM, hZX⟩ := id C0
  have hp := hw
  unfold wp_X10_tell at hp
  refine lv_aload_n hx hb eX10_tell_0.1 rfl (lv_at hl 0 rfl) ?_
  refine va_get (D := (dC, dI)) (ci := 10) (v := .ref pJ) (C := RX10) (T := TX10) (N := 51) hx hb hts i_X10 hown hK hP 0 rfl rfl 12 (Nat.le_of_ble_eq_true rfl) (hts _ q_846) (fun _ h9 => h9) rfl eX10_tell_0.2.1 ?_
  refine lv_aload_n hx hb eX10_tell_0.2.2.1 rfl (lv_at hl 0 rfl) ?_
  refine va_get (D := (dC, dI)) (ci := 10) (v := .int bQ) (C := RX10) (T := TX10) (N := 51) hx hb hts i_X10 hown hK hP 0 rfl rfl 13 (Nat.le_of_ble_eq_true rfl) (hts _ q_847) (fun _ h9 => h9) rfl eX10_tell_0.2.2.2.1 ?_
  refine lv_iload_n hx hb eX10_tell_0.2.2.2.2.1 rfl (lv_at hl 1 rfl) ?_
  have hin := hp.1
  have hp := hp.2
  refine va_iast hx hb hK hP hD hS 1 0 rfl rfl hin eX10_tell_0.2.2.2.2.2.1 (fun H locs hP hD hS => ?_)
  have hP : va_P (dC, dI) classes (wd_X10_tell cI cC cZ cB cJ a_m oJ uD dY iJ lJ jQ jR jW jK pJ bM aY jO gR gY mK jZ iY bG mJ jB mQ lY eJ bY bW aG jG bQ dG jY m_length qG uW eY aJ aB bU dN aR aE bJ aW bT gJ dU bL bR bO mY pW (upd uM bQ.toNatClampNeg p0)) H := hP
  have hD : va_D A (wd_X10_tell cI cC cZ cB cJ a_m oJ uD dY iJ lJ jQ jR jW jK pJ bM aY jO gR gY mK jZ iY bG mJ jB mQ lY eJ bY bW aG jG bQ dG jY m_length qG uW eY aJ aB bU dN aR aE bJ aW bT gJ dU bL bR bO mY pW (upd uM bQ.toNatClampNeg p0)) := hD
  refine lv_aload_n hx hb eX10_tell_0.2.2.2.2.2.2.1 rfl (lv_at hl 0 rfl) ?_
  refine lv_dup hx hb eX10_tell_0.2.2.2.2.2.2.2.1 rfl ?_
  refine va_get (D := (dC, dI)) (ci := 10) (v := .int bQ) (C := RX10) (T := TX10) (N := 51) hx hb hts i_X10 hown hK hP 0 rfl rfl 13 (Nat.le_of_ble_eq_true rfl) (hts _ q_847) (fun _ h9 => h9) rfl eX10_tell_0.2.2.2.2.2.2.2.2.1 ?_
  refine lv_iconst (v := 1) hx hb eX10_tell_0.2.2.2.2.2.2.2.2.2.1 ic_1 ?_
  refine lv_iadd hx hb eX10_tell_0.2.2.2.2.2.2.2.2.2.2.1 ?_
  refine lv_topi (fun v_1 ev_1 => ?_)
  have hp := hp v_1 ev_1
  refine va_put (D := (dC, dI)) (ci := 10) (v := .int v_1) (ty := .int) (C := RX10) (T := TX10) (N := 51) hx hb hts i_X10 tyX10 tyX10_ok nmX10 hown hK hP hD hS 0 rfl rfl 13 (Nat.le_of_ble_eq_true rfl) (hts _ q_847) (fun _ h9 => h9) rfl (tyX10_ok 13 (Nat.le_of_ble_eq_true rfl)) rfl rfl (Nat.le_of_ble_eq_true rfl) eX10_tell_0.2.2.2.2.2.2.2.2.2.2.2.1 (fun H locs hP hD hS => ?_)
  have hP : va_P (dC, dI) classes (wd_X10_tell cI cC cZ cB cJ a_m oJ uD dY iJ lJ jQ jR jW jK pJ bM aY jO gR gY mK jZ iY bG mJ jB mQ lY eJ bY bW aG jG v_1 dG jY m_length qG uW eY aJ aB bU dN aR aE bJ aW bT gJ dU bL bR bO mY pW (upd uM bQ.toNatClampNeg p0)) H := hP
  have hD : va_D A (wd_X10_tell cI cC cZ cB cJ a_m oJ uD dY iJ lJ jQ jR jW jK pJ bM aY jO gR gY mK jZ iY bG mJ jB mQ lY eJ bY bW aG jG v_1 dG jY m_length qG uW eY aJ aB bU dN aR aE bJ aW bT gJ dU bL bR bO mY pW (upd uM bQ.toNatClampNeg p0)) := hD
  exact W.vret hx hb hr (fun t ht hW => ⟨⟨(v_1, (upd uM bQ.toNatClampNeg p0)), rfl, hp, by rw [ht]; exact hP, va_K.moved hW.alike hK, hD⟩, hS.F ht⟩) hS.2.2 eX10_tell_0.2.2.2.2.2.2.2.2.2.2.2.2
noncomputable abbrev wd_X10_day (cI cC cZ cB cJ : ClassId) (a_m oJ uD dY iJ lJ jQ jR jW jK pJ bM aY jO gR gY mK jZ iY bG mJ jB mQ lY eJ bY : Nat) (bW aG jG bQ dG : Int32) (jY : Nat) (m_length qG uW eY aJ aB bU dN aR aE bJ aW bT gJ dU bL bR bO mY pW : Int32) (rD m_x jA pY rW oY pR pX rG uM rQ uQ uZ wE : Nat → Int32) : va_W := [(a_m, .inr (10, [.ref oJ, .int bW, .ref uD, .ref dY, .ref iJ, .ref lJ, .int aG, .ref jQ, .ref jR, .ref jW, .ref jK, .int jG, .ref pJ, .int bQ, .int dG, rdv jK jO jY, .int m_length, .int qG, .int uW, .int eY, .ref bM, .ref aY, .int aJ, .int aB, .ref jO, .int bU, .int dN, .int aR, .int aE, .int bJ, .int aW, .ref gR, .int bT, .ref gY, .ref mK, .int gJ, .ref jZ, .int dU, .ref iY, .ref bG, .int bL, .int bR, .int bO, .ref mJ, .ref jB, .ref mQ, .int mY, .int pW, .ref lY, .ref eJ, .ref bY])), (oJ, .inl (cI, 21, .inl rD)), (uD, .inl (cI, 16, .inl m_x)), (dY, .inl (cI, 16, .inl jA)), (iJ, .inl (cI, 16, .inl pY)), (lJ, .inl (cI, 16, .inl rW)), (jQ, .inl (cI, 8, .inl oY)), (jR, .inl (cI, 8, .inl pR)), (jW, .inl (cI, 5, .inl pX)), (jK, .inl (cB, 80, .inl rG)), (pJ, .inl (cI, 32, .inl uM)), (jO, .inl (cB, 40, .inl rQ)), (gR, .inl (cI, 252, .inl uQ)), (gY, .inl (cI, 21, .inl uZ)), (mK, .inl (cI, 160, .inl wE))]
noncomputable abbrev q_X10_day (dC : Nat → ClassId) (dI : Nat → Nat → Nat) (cI cC cZ cB cJ : ClassId) (A : Nat → Prop) (a_m oJ uD dY iJ lJ jQ jR jW jK pJ bM aY jO gR gY mK jZ iY bG mJ jB mQ lY eJ bY : Nat) (bW aG aJ aB bU dU bL bR bO mY pW : Int32) (m_x jA pY rW oY pR pX rG rQ : Nat → Int32) (post : Int32 → Int32 → Int32 → Int32 → Nat → Int32 → Int32 → Int32 → Int32 → Int32 → Int32 → Int32 → Int32 → Int32 → Int32 → Int32 → (Nat → Int32) → (Nat → Int32) → (Nat → Int32) → (Nat → Int32) → (Nat → Int32) → Prop) : Array Value → State → Outcome → State → Prop := va_Qi (fun (r : Int32) (u : Int32 × Int32 × Int32 × Nat × Int32 × Int32 × Int32 × Int32 × Int32 × Int32 × Int32 × Int32 × Int32 × Int32 × Int32 × (Nat → Int32) × (Nat → Int32) × (Nat → Int32) × (Nat → Int32) × (Nat → Int32)) => post r u.1 u.2.1 u.2.2.1 u.2.2.2.1 u.2.2.2.2.1 u.2.2.2.2.2.1 u.2.2.2.2.2.2.1 u.2.2.2.2.2.2.2.1 u.2.2.2.2.2.2.2.2.1 u.2.2.2.2.2.2.2.2.2.1 u.2.2.2.2.2.2.2.2.2.2.1 u.2.2.2.2.2.2.2.2.2.2.2.1 u.2.2.2.2.2.2.2.2.2.2.2.2.1 u.2.2.2.2.2.2.2.2.2.2.2.2.2.1 u.2.2.2.2.2.2.2.2.2.2.2.2.2.2.1 u.2.2.2.2.2.2.2.2.2.2.2.2.2.2.2.1 u.2.2.2.2.2.2.2.2.2.2.2.2.2.2.2.2.1 u.2.2.2.2.2.2.2.2.2.2.2.2.2.2.2.2.2.1 u.2.2.2.2.2.2.2.2.2.2.2.2.2.2.2.2.2.2.1 u.2.2.2.2.2.2.2.2.2.2.2.2.2.2.2.2.2.2.2) (fun u t => gB (dC, dI) (tyl cI cC cZ cB cJ) A (wd_X10_day cI cC cZ cB cJ a_m oJ uD dY iJ lJ jQ jR jW jK pJ bM aY jO gR gY mK jZ iY bG mJ jB mQ lY eJ bY bW aG u.1 u.2.1 u.2.2.1 u.2.2.2.1 u.2.2.2.2.1 u.2.2.2.2.2.1 u.2.2.2.2.2.2.1 u.2.2.2.2.2.2.2.1 aJ aB bU u.2.2.2.2.2.2.2.2.1 u.2.2.2.2.2.2.2.2.2.1 u.2.2.2.2.2.2.2.2.2.2.1 u.2.2.2.2.2.2.2.2.2.2.2.1 u.2.2.2.2.2.2.2.2.2.2.2.2.1 u.2.2.2.2.2.2.2.2.2.2.2.2.2.1 u.2.2.2.2.2.2.2.2.2.2.2.2.2.2.1 dU bL bR bO mY pW u.2.2.2.2.2.2.2.2.2.2.2.2.2.2.2.1 m_x jA pY rW oY pR pX rG u.2.2.2.2.2.2.2.2.2.2.2.2.2.2.2.2.1 rQ u.2.2.2.2.2.2.2.2.2.2.2.2.2.2.2.2.2.1 u.2.2.2.2.2.2.2.2.2.2.2.2.2.2.2.2.2.2.1 u.2.2.2.2.2.2.2.2.2.2.2.2.2.2.2.2.2.2.2) t) A
noncomputable abbrev rm_X10_day : Room := { frames := 268, cells := 0, slots := 0, locals := 8828 }
section S_X10_day
variable {p : Program} {l : Launch} {e : Env} {s : State} {m : MethodId} {args : Array Value} {below : List Frame} {meth : Method} {c : Code} {dC : Nat → ClassId} {dI : Nat → Nat → Nat} {cI cC cZ cB cJ : ClassId} {A : Nat → Prop} {a_m oJ uD dY iJ lJ jQ jR jW jK pJ bM aY jO gR gY mK jZ iY bG mJ jB mQ lY eJ bY : Nat} {bW aG aJ aB bU dU bL bR bO mY pW : Int32} {m_x jA pY rW oY pR pX rG rQ : Nat → Int32} {post : Int32 → Int32 → Int32 → Int32 → Nat → Int32 → Int32 → Int32 → Int32 → Int32 → Int32 → Int32 → Int32 → Int32 → Int32 → Int32 → (Nat → Int32) → (Nat → Int32) → (Nat → Int32) → (Nat → Int32) → (Nat → Int32) → Prop}
noncomputable def ws_X10_day_186 (post : Int32 → Int32 → Int32 → Int32 → Nat → Int32 → Int32 → Int32 → Int32 → Int32 → Int32 → Int32 → Int32 → Int32 → Int32 → Int32 → (Nat → Int32) → (Nat → Int32) → (Nat → Int32) → (Nat → Int32) → (Nat → Int32) → Prop) (bW aG bU : Int32) (m_x jA pY rW oY pR pX rG rQ : Nat → Int32) (x3 k1 jG bQ dG : Int32) (jY : Nat) (m_length qG uW eY dN aR aE bJ aW bT gJ : Int32) (rD uM uQ uZ wE : Nat → Int32) : Prop := wp_X10_tell (fun yY aA1 => wp_X10_tell (fun xW zG => post x3 jG xW dG jY m_length qG uW eY dN aR aE bJ aW bT gJ rD zG uQ uZ wE) gJ yY aA1) k1 bQ uM
set_option maxHeartbeats 4000000 in
set_option maxRecDepth 100000 in
theorem ks_X10_day_186 (C0 : gc cX10_day (some .int) 4 RX10 (dC, dI) (tyl cI cC cZ cB cJ) A p s m args meth c) : ∀ (x3 k1 jG bQ dG : Int32) (jY : Nat) (m_length qG uW eY dN aR aE bJ aW bT gJ : Int32) (rD uM uQ uZ wE : Nat → Int32) (H : Heap) (locs : List Loc) (ls : Array Slot), (ws_X10_day_186 post bW aG bU m_x jA pY rW oY pR pX rG rQ) x3 k1 jG bQ dG jY m_length qG uW eY dN aR aE bJ aW bT gJ rD uM uQ uZ wE → va_P (dC, dI) classes (wd_X10_day cI cC cZ cB cJ a_m oJ uD dY iJ lJ jQ jR jW jK pJ bM aY jO gR gY mK jZ iY bG mJ jB mQ lY eJ bY bW aG jG bQ dG jY m_length qG uW eY aJ aB bU dN aR aE bJ aW bT gJ dU bL bR bO mY pW rD m_x jA pY rW oY pR pX rG uM rQ uQ uZ wE) H → va_D A (wd_X10_day cI cC cZ cB cJ a_m oJ uD dY iJ lJ jQ jR jW jK pJ bM aY jO gR gY mK jZ iY bG mJ jB mQ lY eJ bY bW aG jG bQ dG jY m_length qG uW eY aJ aB bU dN aR aE bJ aW bT gJ dU bL bR bO mY pW rD m_x jA pY rW oY pR pX rG uM rQ uQ uZ wE) → va_S A s.heap H locs → lv_has ls 4 [(0, .ref a_m), (3, .int x3)] → W p l e rm_X10_day s m args below meth c H locs 0 0 (MQ below (q_X10_day dC dI cI cC cZ cB cJ A a_m oJ uD dY iJ lJ jQ jR jW jK pJ bM aY jO gR gY mK jZ iY bG mJ jB mQ lY eJ bY bW aG aJ aB bU dU bL bR bO mY pW m_x jA pY rW oY pR pX rG rQ post) args s 0 0 A) (F0 m 186 ls [.int k1, .ref a_m]) := by
  obtain ⟨hx, hb, hr, hml, hown, hts, hlocks, hA, hK, hN, tL, tM, hZL, hTL, hZM, hTM, hZX⟩ := id C0
  intro x3 k1 jG bQ dG jY m_length qG uW eY dN aR aE bJ aW bT gJ rD uM uQ uZ wE H locs ls hp hP hD hS hl
  unfold ws_X10_day_186 at hp
  have hm := mgk (wc := (wd_X10_tell cI cC cZ cB cJ a_m oJ uD dY iJ lJ jQ jR jW jK pJ bM aY jO gR gY mK jZ iY bG mJ jB mQ lY eJ bY bW aG jG bQ dG jY m_length qG uW eY aJ aB bU dN aR aE bJ aW bT gJ dU bL bR bO mY pW uM)) hP mk_233 15 rfl rfl rfl
  refine g_callv hP hD hS hA (mixT mk_233) (mixF mk_233) hm.1 hm.2 (nd_F _) (dis_g _) (g_runV (As := [.int k1]) (rest := []) C0 hP hD hS (mixT mk_233) hm.1 (nd_T _) 0 10 rfl rfl (c_X10_tell l dC dI cI cC cZ cB cJ a_m oJ uD dY iJ lJ jQ jR jW jK pJ bM aY jO gR gY mK jZ iY bG mJ jB mQ lY eJ bY H.size k1 bW aG jG bQ dG jY m_length qG uW eY aJ aB bU dN aR aE bJ aW bT gJ dU bL bR bO mY pW uM _ hp) q_849 q_852 q_850 q_851 q_642 h_X10_tell rfl rfl ⟨Nat.le_of_ble_eq_true rfl, Nat.le_of_ble_eq_true rfl⟩ rfl rfl hl.1 rfl (lv_room (Nat.le_of_ble_eq_true rfl)) eX10_day_172.2.2.2.2.2.2.2.2.1 ⟨Nat.zero_le _, Nat.zero_le _⟩) (fun u H locs hp hP hD hS => ?_)
  obtain ⟨yY, aA1⟩ := u
  have hPD := PDm (ws' := (wd_X10_day cI cC cZ cB cJ a_m oJ uD dY iJ lJ jQ jR jW jK pJ bM aY jO gR gY mK jZ iY bG mJ jB mQ lY eJ bY bW aG jG yY dG jY m_length qG uW eY aJ aB bU dN aR aE bJ aW bT gJ dU bL bR bO mY pW rD m_x jA pY rW oY pR pX rG aA1 rQ uQ uZ wE)) hP hD 15 rfl rfl rfl
  have hP := hPD.1
  have hD := hPD.2
  refine lv_aload_n hx hb eX10_day_172.2.2.2.2.2.2.2.2.2.1 rfl (lv_at hl 0 rfl) ?_
  refine lv_aload_n hx hb eX10_day_172.2.2.2.2.2.2.2.2.2.2.1 rfl (lv_at hl 0 rfl) ?_
  refine va_get (D := (dC, dI)) (ci := 10) (v := .int gJ) (C := RX10) (T := TX10) (N := 51) hx hb hts i_X10 hown hK hP 0 rfl rfl 35 (Nat.le_of_ble_eq_true rfl) (hts _ q_845) (fun _ h9 => h9) rfl eX10_day_172.2.2.2.2.2.2.2.2.2.2.2.1 ?_
  have hm := mgk (wc := (wd_X10_tell cI cC cZ cB cJ a_m oJ uD dY iJ lJ jQ jR jW jK pJ bM aY jO gR gY mK jZ iY bG mJ jB mQ lY eJ bY bW aG jG yY dG jY m_length qG uW eY aJ aB bU dN aR aE bJ aW bT gJ dU bL bR bO mY pW aA1)) hP mk_233 15 rfl rfl rfl
  refine g_callv hP hD hS hA (mixT mk_233) (mixF mk_233) hm.1 hm.2 (nd_F _) (dis_g _) (g_runV (As := [.int gJ]) (rest := []) C0 hP hD hS (mixT mk_233) hm.1 (nd_T _) 0 10 rfl rfl (c_X10_tell l dC dI cI cC cZ cB cJ a_m oJ uD dY iJ lJ jQ jR jW jK pJ bM aY jO gR gY mK jZ iY bG mJ jB mQ lY eJ bY H.size gJ bW aG jG yY dG jY m_length qG uW eY aJ aB bU dN aR aE bJ aW bT gJ dU bL bR bO mY pW aA1 _ hp) q_849 q_852 q_850 q_851 q_642 h_X10_tell rfl rfl ⟨Nat.le_of_ble_eq_true rfl, Nat.le_of_ble_eq_true rfl⟩ rfl rfl hl.1 rfl (lv_room (Nat.le_of_ble_eq_true rfl)) eX10_day_172.2.2.2.2.2.2.2.2.2.2.2.2.1 ⟨Nat.zero_le _, Nat.zero_le _⟩) (fun u H locs hp hP hD hS => ?_)
  obtain ⟨xW, zG⟩ := u
  have hPD := PDm (ws' := (wd_X10_day cI cC cZ cB cJ a_m oJ uD dY iJ lJ jQ jR jW jK pJ bM aY jO gR gY mK jZ iY bG mJ jB mQ lY eJ bY bW aG jG xW dG jY m_length qG uW eY aJ aB bU dN aR aE bJ aW bT gJ dU bL bR bO mY pW rD m_x jA pY rW oY pR pX rG zG rQ uQ uZ wE)) hP hD 15 rfl rfl rfl
  have hP := hPD.1
  have hD := hPD.2
  refine lv_iload_n hx hb eX10_day_172.2.2.2.2.2.2.2.2.2.2.2.2.2.1 rfl (lv_at hl 1 rfl) ?_
  exact W.iret (v := x3) hx hb hr (fun t ht hW => ⟨⟨x3, (jG, xW, dG, jY, m_length, qG, uW, eY, dN, aR, aE, bJ, aW, bT, gJ, rD, zG, uQ, uZ, wE), rfl, hp, by rw [ht]; exact hP, va_K.moved hW.alike hK, hD⟩, hS.F ht⟩) hS.2.2 eX10_day_172.2.2.2.2.2.2.2.2.2.2.2.2.2.2
noncomputable def ws_X10_day_170 (post : Int32 → Int32 → Int32 → Int32 → Nat → Int32 → Int32 → Int32 → Int32 → Int32 → Int32 → Int32 → Int32 → Int32 → Int32 → Int32 → (Nat → Int32) → (Nat → Int32) → (Nat → Int32) → (Nat → Int32) → (Nat → Int32) → Prop) (bW aG bU : Int32) (m_x jA pY rW oY pR pX rG rQ : Nat → Int32) (x1 x3 jG bQ dG : Int32) (jY : Nat) (m_length qG uW eY dN aR aE bJ aW bT gJ : Int32) (rD uM uQ uZ wE : Nat → Int32) : Prop := (x1 ≤ x3 → ws_X10_day_186 post bW aG bU m_x jA pY rW oY pR pX rG rQ x3 0 jG 0 dG jY m_length qG uW eY dN aR aE bJ aW bT gJ rD uM uQ uZ wE) ∧ (¬ x1 ≤ x3 → ws_X10_day_186 post bW aG bU m_x jA pY rW oY pR pX rG rQ x3 1 jG 0 dG jY m_length qG uW eY dN aR aE bJ aW bT gJ rD uM uQ uZ wE)
set_option maxHeartbeats 4000000 in
set_option maxRecDepth 100000 in
theorem ks_X10_day_170 (C0 : gc cX10_day (some .int) 4 RX10 (dC, dI) (tyl cI cC cZ cB cJ) A p s m args meth c) : ∀ (x1 x3 jG bQ dG : Int32) (jY : Nat) (m_length qG uW eY dN aR aE bJ aW bT gJ : Int32) (rD uM uQ uZ wE : Nat → Int32) (H : Heap) (locs : List Loc) (ls : Array Slot), (ws_X10_day_170 post bW aG bU m_x jA pY rW oY pR pX rG rQ) x1 x3 jG bQ dG jY m_length qG uW eY dN aR aE bJ aW bT gJ rD uM uQ uZ wE → va_P (dC, dI) classes (wd_X10_day cI cC cZ cB cJ a_m oJ uD dY iJ lJ jQ jR jW jK pJ bM aY jO gR gY mK jZ iY bG mJ jB mQ lY eJ bY bW aG jG bQ dG jY m_length qG uW eY aJ aB bU dN aR aE bJ aW bT gJ dU bL bR bO mY pW rD m_x jA pY rW oY pR pX rG uM rQ uQ uZ wE) H → va_D A (wd_X10_day cI cC cZ cB cJ a_m oJ uD dY iJ lJ jQ jR jW jK pJ bM aY jO gR gY mK jZ iY bG mJ jB mQ lY eJ bY bW aG jG bQ dG jY m_length qG uW eY aJ aB bU dN aR aE bJ aW bT gJ dU bL bR bO mY pW rD m_x jA pY rW oY pR pX rG uM rQ uQ uZ wE) → va_S A s.heap H locs → lv_has ls 4 [(0, .ref a_m), (1, .int x1), (3, .int x3)] → W p l e rm_X10_day s m args below meth c H locs 0 0 (MQ below (q_X10_day dC dI cI cC cZ cB cJ A a_m oJ uD dY iJ lJ jQ jR jW jK pJ bM aY jO gR gY mK jZ iY bG mJ jB mQ lY eJ bY bW aG aJ aB bU dU bL bR bO mY pW m_x jA pY rW oY pR pX rG rQ post) args s 0 0 A) (F0 m 170 ls []) := by
  obtain ⟨hx, hb, hr, hml, hown, hts, hlocks, hA, hK, hN, tL, tM, hZL, hTL, hZM, hTM, hZX⟩ := id C0
  intro x1 x3 jG bQ dG jY m_length qG uW eY dN aR aE bJ aW bT gJ rD uM uQ uZ wE H locs ls hp hP hD hS hl
  unfold ws_X10_day_170 at hp
  refine lv_aload_n hx hb eX10_day_142.2.2.2.2.2.2.2.2.2.2.2.2.2.2.1 rfl (lv_at hl 0 rfl) ?_
  refine lv_iconst (v := 0) hx hb eX10_day_142.2.2.2.2.2.2.2.2.2.2.2.2.2.2.2 ic_0 ?_
  refine va_put (D := (dC, dI)) (ci := 10) (v := .int 0) (ty := .int) (C := RX10) (T := TX10) (N := 51) hx hb hts i_X10 tyX10 tyX10_ok nmX10 hown hK hP hD hS 0 rfl rfl 13 (Nat.le_of_ble_eq_true rfl) (hts _ q_847) (fun _ h9 => h9) rfl (tyX10_ok 13 (Nat.le_of_ble_eq_true rfl)) rfl rfl (Nat.le_of_ble_eq_true rfl) eX10_day_172.1 (fun H locs hP hD hS => ?_)
  have hP : va_P (dC, dI) classes (wd_X10_day cI cC cZ cB cJ a_m oJ uD dY iJ lJ jQ jR jW jK pJ bM aY jO gR gY mK jZ iY bG mJ jB mQ lY eJ bY bW aG jG 0 dG jY m_length qG uW eY aJ aB bU dN aR aE bJ aW bT gJ dU bL bR bO mY pW rD m_x jA pY rW oY pR pX rG uM rQ uQ uZ wE) H := hP
  have hD : va_D A (wd_X10_day cI cC cZ cB cJ a_m oJ uD dY iJ lJ jQ jR jW jK pJ bM aY jO gR gY mK jZ iY bG mJ jB mQ lY eJ bY bW aG jG 0 dG jY m_length qG uW eY aJ aB bU dN aR aE bJ aW bT gJ dU bL bR bO mY pW rD m_x jA pY rW oY pR pX rG uM rQ uQ uZ wE) := hD
  refine lv_aload_n hx hb eX10_day_172.2.1 rfl (lv_at hl 0 rfl) ?_
  refine lv_iload_n hx hb eX10_day_172.2.2.1 rfl (lv_at hl 2 rfl) ?_
  refine lv_iload_n hx hb eX10_day_172.2.2.2.1 rfl (lv_at hl 1 rfl) ?_
  refine lv_icmp_ge (tgt := 185) hx hb eX10_day_172.2.2.2.2.1 (by decide) (fun hc => ?_) (fun hc => ?_)
  · have hp := hp.1 hc
    refine lv_iconst (v := 0) hx hb eX10_day_172.2.2.2.2.2.2.2.1 ic_0 ?_
    exact ks_X10_day_186 C0 x3 0 jG 0 dG jY m_length qG uW eY dN aR aE bJ aW bT gJ rD uM uQ uZ wE H locs ls hp hP hD hS (lv_sub hl [0, 2] rfl)
  · have hp := hp.2 hc
    refine lv_iconst (v := 1) hx hb eX10_day_172.2.2.2.2.2.1 ic_1 ?_
    refine lv_goto (tgt := 186) hx hb eX10_day_172.2.2.2.2.2.2.1 (by decide) ?_
    exact ks_X10_day_186 C0 x3 1 jG 0 dG jY m_length qG uW eY dN aR aE bJ aW bT gJ rD uM uQ uZ wE H locs ls hp hP hD hS (lv_sub hl [0, 2] rfl)
noncomputable def ws_X10_day_158 (post : Int32 → Int32 → Int32 → Int32 → Nat → Int32 → Int32 → Int32 → Int32 → Int32 → Int32 → Int32 → Int32 → Int32 → Int32 → Int32 → (Nat → Int32) → (Nat → Int32) → (Nat → Int32) → (Nat → Int32) → (Nat → Int32) → Prop) (bW aG bU : Int32) (m_x jA pY rW oY pR pX rG rQ : Nat → Int32) (x1 x3 jG bQ dG : Int32) (jY : Nat) (m_length qG uW eY dN aR aE bJ aW bT gJ : Int32) (rD uM uQ uZ wE : Nat → Int32) : Prop := (x3 ≤ 0 → ws_X10_day_170 post bW aG bU m_x jA pY rW oY pR pX rG rQ x1 x3 jG bQ dG jY m_length qG uW eY dN aR aE bJ aW bT gJ rD uM uQ uZ wE) ∧ (¬ x3 ≤ 0 → wp_X10_remember_b2 (fun m_undoMany_12 m_undos_13 => ws_X10_day_170 post bW aG bU m_x jA pY rW oY pR pX rG rQ x1 x3 jG bQ dG jY m_length qG uW eY dN aR aE bJ aW m_undoMany_12 gJ rD uM m_undos_13 uZ wE) bT uQ uZ)
set_option maxHeartbeats 4000000 in
set_option maxRecDepth 100000 in
theorem ks_X10_day_158 (C0 : gc cX10_day (some .int) 4 RX10 (dC, dI) (tyl cI cC cZ cB cJ) A p s m args meth c) : ∀ (x1 x3 jG bQ dG : Int32) (jY : Nat) (m_length qG uW eY dN aR aE bJ aW bT gJ : Int32) (rD uM uQ uZ wE : Nat → Int32) (H : Heap) (locs : List Loc) (ls : Array Slot), (ws_X10_day_158 post bW aG bU m_x jA pY rW oY pR pX rG rQ) x1 x3 jG bQ dG jY m_length qG uW eY dN aR aE bJ aW bT gJ rD uM uQ uZ wE → va_P (dC, dI) classes (wd_X10_day cI cC cZ cB cJ a_m oJ uD dY iJ lJ jQ jR jW jK pJ bM aY jO gR gY mK jZ iY bG mJ jB mQ lY eJ bY bW aG jG bQ dG jY m_length qG uW eY aJ aB bU dN aR aE bJ aW bT gJ dU bL bR bO mY pW rD m_x jA pY rW oY pR pX rG uM rQ uQ uZ wE) H → va_D A (wd_X10_day cI cC cZ cB cJ a_m oJ uD dY iJ lJ jQ jR jW jK pJ bM aY jO gR gY mK jZ iY bG mJ jB mQ lY eJ bY bW aG jG bQ dG jY m_length qG uW eY aJ aB bU dN aR aE bJ aW bT gJ dU bL bR bO mY pW rD m_x jA pY rW oY pR pX rG uM rQ uQ uZ wE) → va_S A s.heap H locs → lv_has ls 4 [(0, .ref a_m), (1, .int x1), (3, .int x3)] → W p l e rm_X10_day s m args below meth c H locs 0 0 (MQ below (q_X10_day dC dI cI cC cZ cB cJ A a_m oJ uD dY iJ lJ jQ jR jW jK pJ bM aY jO gR gY mK jZ iY bG mJ jB mQ lY eJ bY bW aG aJ aB bU dU bL bR bO mY pW m_x jA pY rW oY pR pX rG rQ post) args s 0 0 A) (F0 m 158 ls []) := by
  obtain ⟨hx, hb, hr, hml, hown, hts, hlocks, hA, hK, hN, tL, tM, hZL, hTL, hZM, hTM, hZX⟩ := id C0
  intro x1 x3 jG bQ dG jY m_length qG uW eY dN aR aE bJ aW bT gJ rD uM uQ uZ wE H locs ls hp hP hD hS hl
  unfold ws_X10_day_158 at hp
  refine lv_iload_n hx hb eX10_day_142.2.2.2.2.2.2.2.2.1 rfl (lv_at hl 2 rfl) ?_
  refine lv_if_le (tgt := 170) hx hb eX10_day_142.2.2.2.2.2.2.2.2.2.1 (by decide) (fun hc => ?_) (fun hc => ?_)
  · have hp := hp.1 hc
    exact ks_X10_day_170 C0 x1 x3 jG bQ dG jY m_length qG uW eY dN aR aE bJ aW bT gJ rD uM uQ uZ wE H locs ls hp hP hD hS (lv_sub hl [0, 1, 2] rfl)
  · have hp := hp.2 hc
    refine lv_aload_n hx hb eX10_day_142.2.2.2.2.2.2.2.2.2.2.1 rfl (lv_at hl 0 rfl) ?_
    refine lv_aload_n hx hb eX10_day_142.2.2.2.2.2.2.2.2.2.2.2.1 rfl (lv_at hl 0 rfl) ?_
    refine va_get (D := (dC, dI)) (ci := 10) (v := .ref gY) (C := RX10) (T := TX10) (N := 51) hx hb hts i_X10 hown hK hP 0 rfl rfl 33 (Nat.le_of_ble_eq_true rfl) (hts _ q_848) (fun _ h9 => h9) rfl eX10_day_142.2.2.2.2.2.2.2.2.2.2.2.2.1 ?_
    have hm := mgk (wc := (wd_X10_remember_b2 cI cC cZ cB cJ a_m oJ uD dY iJ lJ jQ jR jW jK pJ bM aY jO gR gY mK jZ iY bG mJ jB mQ lY eJ bY bW aG jG bQ dG jY m_length qG uW eY aJ aB bU dN aR aE bJ aW bT gJ dU bL bR bO mY pW uQ uZ)) hP mk_234 15 rfl rfl rfl
    refine g_callv hP hD hS hA (mixT mk_234) (mixF mk_234) hm.1 hm.2 (nd_F _) (dis_g _) (g_runV (As := [.ref gY]) (rest := []) C0 hP hD hS (mixT mk_234) hm.1 (nd_T _) 0 10 rfl rfl (c_X10_remember_b2 l dC dI cI cC cZ cB cJ a_m oJ uD dY iJ lJ jQ jR jW jK pJ bM aY jO gR gY mK jZ iY bG mJ jB mQ lY eJ bY H.size bW aG jG bQ dG jY m_length qG uW eY aJ aB bU dN aR aE bJ aW bT gJ dU bL bR bO mY pW uQ uZ _ hp) q_787 q_790 q_788 q_789 q_642 h_X10_remember rfl rfl ⟨Nat.le_of_ble_eq_true rfl, Nat.le_of_ble_eq_true rfl⟩ rfl rfl hl.1 rfl (lv_room (Nat.le_of_ble_eq_true rfl)) eX10_day_142.2.2.2.2.2.2.2.2.2.2.2.2.2.1 ⟨Nat.zero_le _, Nat.zero_le _⟩) (fun u H locs hp hP hD hS => ?_)
    obtain ⟨m_undoMany_12, m_undos_13⟩ := u
    have hPD := PDm (ws' := (wd_X10_day cI cC cZ cB cJ a_m oJ uD dY iJ lJ jQ jR jW jK pJ bM aY jO gR gY mK jZ iY bG mJ jB mQ lY eJ bY bW aG jG bQ dG jY m_length qG uW eY aJ aB bU dN aR aE bJ aW m_undoMany_12 gJ dU bL bR bO mY pW rD m_x jA pY rW oY pR pX rG uM rQ m_undos_13 uZ wE)) hP hD 15 rfl rfl rfl
    have hP := hPD.1
    have hD := hPD.2
    exact ks_X10_day_170 C0 x1 x3 jG bQ dG jY m_length qG uW eY dN aR aE bJ aW m_undoMany_12 gJ rD uM m_undos_13 uZ wE H locs ls hp hP hD hS (lv_sub hl [0, 1, 2] rfl)
noncomputable def ws_X10_day_122 (post : Int32 → Int32 → Int32 → Int32 → Nat → Int32 → Int32 → Int32 → Int32 → Int32 → Int32 → Int32 → Int32 → Int32 → Int32 → Int32 → (Nat → Int32) → (Nat → Int32) → (Nat → Int32) → (Nat → Int32) → (Nat → Int32) → Prop) (next : Int32 → Int32 → Int32 → Int32 → Int32 → Nat → Int32 → Int32 → Int32 → Int32 → Int32 → Int32 → Int32 → Int32 → Int32 → Int32 → Int32 → (Nat → Int32) → (Nat → Int32) → (Nat → Int32) → (Nat → Int32) → (Nat → Int32) → Prop) (bW aG bU : Int32) (m_x jA pY rW oY pR pX rG rQ : Nat → Int32) (x1 x3 jG bQ dG : Int32) (jY : Nat) (m_length qG uW eY dN aR aE bJ aW bT gJ : Int32) (rD uM uQ uZ wE : Nat → Int32) : Prop := (x1 ≤ x3 → ws_X10_day_158 post bW aG bU m_x jA pY rW oY pR pX rG rQ x1 x3 jG bQ dG jY m_length qG uW eY dN aR aE bJ aW bT gJ rD uM uQ uZ wE) ∧ (¬ x1 ≤ x3 → ∀ v_14 : Int32, v_14 = 2 * x3 → vp_in v_14 160 ∧ (∀ v_15 : Int32, v_15 = wE v_14.toNatClampNeg → ∀ v_16 : Int32, v_16 = 2 * x3 → ∀ v_17 : Int32, v_17 = v_16 + 1 → vp_in v_17 160 ∧ (∀ v_18 : Int32, v_18 = wE v_17.toNatClampNeg → wp_X10_act (fun r_19 aGD aCJ aLi aGC aBo aB3 aA2 aAx aBk aA3 m_picked_30 m_now_31 => (r_19 = 0 → ws_X10_day_158 post bW aG bU m_x jA pY rW oY pR pX rG rQ x1 x3 jG bQ dG aGD aCJ aLi aGC aBo aB3 aA2 aAx aBk aA3 bT m_picked_30 m_now_31 uM uQ uZ wE) ∧ (¬ r_19 = 0 → ∀ v_32 : Int32, v_32 = x3 + 1 → next x1 v_32 jG bQ dG aGD aCJ aLi aGC aBo aB3 aA2 aAx aBk aA3 bT m_picked_30 m_now_31 uM uQ uZ wE)) v_15 v_18 bW aG jY m_length qG uW eY bU dN aR aE bJ aW gJ rD m_x jA pY rW oY pR pX rG rQ)))
noncomputable def wb_X10_day_122 (post : Int32 → Int32 → Int32 → Int32 → Nat → Int32 → Int32 → Int32 → Int32 → Int32 → Int32 → Int32 → Int32 → Int32 → Int32 → Int32 → (Nat → Int32) → (Nat → Int32) → (Nat → Int32) → (Nat → Int32) → (Nat → Int32) → Prop) (bW aG bU : Int32) (m_x jA pY rW oY pR pX rG rQ : Nat → Int32) : Nat → Int32 → Int32 → Int32 → Int32 → Int32 → Nat → Int32 → Int32 → Int32 → Int32 → Int32 → Int32 → Int32 → Int32 → Int32 → Int32 → Int32 → (Nat → Int32) → (Nat → Int32) → (Nat → Int32) → (Nat → Int32) → (Nat → Int32) → Prop := fun n => Nat.rec (motive := fun _ => Int32 → Int32 → Int32 → Int32 → Int32 → Nat → Int32 → Int32 → Int32 → Int32 → Int32 → Int32 → Int32 → Int32 → Int32 → Int32 → Int32 → (Nat → Int32) → (Nat → Int32) → (Nat → Int32) → (Nat → Int32) → (Nat → Int32) → Prop) (fun _ _ _ _ _ _ _ _ _ _ _ _ _ _ _ _ _ _ _ _ _ _ => False) (fun _ ih => ws_X10_day_122 post ih bW aG bU m_x jA pY rW oY pR pX rG rQ) n
set_option maxHeartbeats 4000000 in
set_option maxRecDepth 100000 in
theorem ks_X10_day_122 (C0 : gc cX10_day (some .int) 4 RX10 (dC, dI) (tyl cI cC cZ cB cJ) A p s m args meth c) {next : Int32 → Int32 → Int32 → Int32 → Int32 → Nat → Int32 → Int32 → Int32 → Int32 → Int32 → Int32 → Int32 → Int32 → Int32 → Int32 → Int32 → (Nat → Int32) → (Nat → Int32) → (Nat → Int32) → (Nat → Int32) → (Nat → Int32) → Prop} (hKn : ∀ (x1 : Int32) (x3 : Int32) (jG : Int32) (bQ : Int32) (dG : Int32) (jY : Nat) (m_length : Int32) (qG : Int32) (uW : Int32) (eY : Int32) (dN : Int32) (aR : Int32) (aE : Int32) (bJ : Int32) (aW : Int32) (bT : Int32) (gJ : Int32) (rD : Nat → Int32) (uM : Nat → Int32) (uQ : Nat → Int32) (uZ : Nat → Int32) (wE : Nat → Int32) (H : Heap) (locs : List Loc) (ls : Array Slot), next x1 x3 jG bQ dG jY m_length qG uW eY dN aR aE bJ aW bT gJ rD uM uQ uZ wE → va_P (dC, dI) classes (wd_X10_day cI cC cZ cB cJ a_m oJ uD dY iJ lJ jQ jR jW jK pJ bM aY jO gR gY mK jZ iY bG mJ jB mQ lY eJ bY bW aG jG bQ dG jY m_length qG uW eY aJ aB bU dN aR aE bJ aW bT gJ dU bL bR bO mY pW rD m_x jA pY rW oY pR pX rG uM rQ uQ uZ wE) H → va_D A (wd_X10_day cI cC cZ cB cJ a_m oJ uD dY iJ lJ jQ jR jW jK pJ bM aY jO gR gY mK jZ iY bG mJ jB mQ lY eJ bY bW aG jG bQ dG jY m_length qG uW eY aJ aB bU dN aR aE bJ aW bT gJ dU bL bR bO mY pW rD m_x jA pY rW oY pR pX rG uM rQ uQ uZ wE) → va_S A s.heap H locs → lv_has ls 4 [(0, .ref a_m), (1, .int x1), (3, .int x3)] → W p l e rm_X10_day s m args below meth c H locs 0 0 (MQ below (q_X10_day dC dI cI cC cZ cB cJ A a_m oJ uD dY iJ lJ jQ jR jW jK pJ bM aY jO gR gY mK jZ iY bG mJ jB mQ lY eJ bY bW aG aJ aB bU dU bL bR bO mY pW m_x jA pY rW oY pR pX rG rQ post) args s 0 0 A) (F0 m 122 ls [])) : ∀ (x1 x3 jG bQ dG : Int32) (jY : Nat) (m_length qG uW eY dN aR aE bJ aW bT gJ : Int32) (rD uM uQ uZ wE : Nat → Int32) (H : Heap) (locs : List Loc) (ls : Array Slot), (ws_X10_day_122 post next bW aG bU m_x jA pY rW oY pR pX rG rQ) x1 x3 jG bQ dG jY m_length qG uW eY dN aR aE bJ aW bT gJ rD uM uQ uZ wE → va_P (dC, dI) classes (wd_X10_day cI cC cZ cB cJ a_m oJ uD dY iJ lJ jQ jR jW jK pJ bM aY jO gR gY mK jZ iY bG mJ jB mQ lY eJ bY bW aG jG bQ dG jY m_length qG uW eY aJ aB bU dN aR aE bJ aW bT gJ dU bL bR bO mY pW rD m_x jA pY rW oY pR pX rG uM rQ uQ uZ wE) H → va_D A (wd_X10_day cI cC cZ cB cJ a_m oJ uD dY iJ lJ jQ jR jW jK pJ bM aY jO gR gY mK jZ iY bG mJ jB mQ lY eJ bY bW aG jG bQ dG jY m_length qG uW eY aJ aB bU dN aR aE bJ aW bT gJ dU bL bR bO mY pW rD m_x jA pY rW oY pR pX rG uM rQ uQ uZ wE) → va_S A s.heap H locs → lv_has ls 4 [(0, .ref a_m), (1, .int x1), (3, .int x3)] → W p l e rm_X10_day s m args below meth c H locs 0 0 (MQ below (q_X10_day dC dI cI cC cZ cB cJ A a_m oJ uD dY iJ lJ jQ jR jW jK pJ bM aY jO gR gY mK jZ iY bG mJ jB mQ lY eJ bY bW aG aJ aB bU dU bL bR bO mY pW m_x jA pY rW oY pR pX rG rQ post) args s 0 0 A) (F0 m 122 ls []) := by
  obtain ⟨hx, hb, hr, hml, hown, hts, hlocks, hA, hK, hN, tL, tM, hZL, hTL, hZM, hTM, hZX⟩ := id C0
  intro x1 x3 jG bQ dG jY m_length qG uW eY dN aR aE bJ aW bT gJ rD uM uQ uZ wE H locs ls hp hP hD hS hl
  unfold ws_X10_day_122 at hp
  refine lv_iload_n hx hb eX10_day_120.2.2.1 rfl (lv_at hl 2 rfl) ?_
  refine lv_iload_n hx hb eX10_day_120.2.2.2.1 rfl (lv_at hl 1 rfl) ?_
  refine lv_icmp_ge (tgt := 158) hx hb eX10_day_120.2.2.2.2.1 (by decide) (fun hc => ?_) (fun hc => ?_)
  · have hp := hp.1 hc
    exact ks_X10_day_158 C0 x1 x3 jG bQ dG jY m_length qG uW eY dN aR aE bJ aW bT gJ rD uM uQ uZ wE H locs ls hp hP hD hS (lv_sub hl [0, 1, 2] rfl)
  · have hp := hp.2 hc
    refine lv_aload_n hx hb eX10_day_120.2.2.2.2.2.1 rfl (lv_at hl 0 rfl) ?_
    refine lv_aload_n hx hb eX10_day_120.2.2.2.2.2.2.1 rfl (lv_at hl 0 rfl) ?_
    refine va_get (D := (dC, dI)) (ci := 10) (v := .ref mK) (C := RX10) (T := TX10) (N := 51) hx hb hts i_X10 hown hK hP 0 rfl rfl 34 (Nat.le_of_ble_eq_true rfl) (hts _ q_844) (fun _ h9 => h9) rfl eX10_day_120.2.2.2.2.2.2.2.1 ?_
    refine lv_iconst (v := 2) hx hb eX10_day_120.2.2.2.2.2.2.2.2.1 ic_2 ?_
    refine lv_iload_n hx hb eX10_day_120.2.2.2.2.2.2.2.2.2.1 rfl (lv_at hl 2 rfl) ?_
    refine lv_imul hx hb eX10_day_120.2.2.2.2.2.2.2.2.2.2.1 ?_
    refine lv_topi (fun v_14 ev_14 => ?_)
    have hp := hp v_14 ev_14
    have hin := hp.1
    have hp := hp.2
    refine va_iald hx hb hK hP 14 0 rfl rfl hin eX10_day_120.2.2.2.2.2.2.2.2.2.2.2.1 ?_
    refine lv_topi (fun v_15 ev_15 => ?_)
    have hp := hp v_15 ev_15
    refine lv_aload_n hx hb eX10_day_120.2.2.2.2.2.2.2.2.2.2.2.2.1 rfl (lv_at hl 0 rfl) ?_
    refine va_get (D := (dC, dI)) (ci := 10) (v := .ref mK) (C := RX10) (T := TX10) (N := 51) hx hb hts i_X10 hown hK hP 0 rfl rfl 34 (Nat.le_of_ble_eq_true rfl) (hts _ q_844) (fun _ h9 => h9) rfl eX10_day_120.2.2.2.2.2.2.2.2.2.2.2.2.2.1 ?_
    refine lv_iconst (v := 2) hx hb eX10_day_120.2.2.2.2.2.2.2.2.2.2.2.2.2.2.1 ic_2 ?_
    refine lv_iload_n hx hb eX10_day_120.2.2.2.2.2.2.2.2.2.2.2.2.2.2.2 rfl (lv_at hl 2 rfl) ?_
    refine lv_imul hx hb eX10_day_142.1 ?_
    refine lv_topi (fun v_16 ev_16 => ?_)
    have hp := hp v_16 ev_16
    refine lv_iconst (v := 1) hx hb eX10_day_142.2.1 ic_1 ?_
    refine lv_iadd hx hb eX10_day_142.2.2.1 ?_
    refine lv_topi (fun v_17 ev_17 => ?_)
    have hp := hp v_17 ev_17
    have hin := hp.1
    have hp := hp.2
    refine va_iald hx hb hK hP 14 0 rfl rfl hin eX10_day_142.2.2.2.1 ?_
    refine lv_topi (fun v_18 ev_18 => ?_)
    have hp := hp v_18 ev_18
    have hm := mgk (wc := (wd_X10_act cI cC cZ cB cJ a_m oJ uD dY iJ lJ jQ jR jW jK pJ bM aY jO gR gY mK jZ iY bG mJ jB mQ lY eJ bY bW aG jG bQ dG jY m_length qG uW eY aJ aB bU dN aR aE bJ aW bT gJ dU bL bR bO mY pW rD m_x jA pY rW oY pR pX rG rQ)) hP mk_235 15 rfl rfl rfl
    refine g_calli hP hD hS hA (mixT mk_235) (mixF mk_235) hm.1 hm.2 (nd_F _) (dis_g _) (g_runV (As := [.int v_15, .int v_18]) (rest := []) C0 hP hD hS (mixT mk_235) hm.1 (nd_T _) 0 10 rfl rfl (c_X10_act l dC dI cI cC cZ cB cJ a_m oJ uD dY iJ lJ jQ jR jW jK pJ bM aY jO gR gY mK jZ iY bG mJ jB mQ lY eJ bY H.size v_15 v_18 bW aG jG bQ dG jY m_length qG uW eY aJ aB bU dN aR aE bJ aW bT gJ dU bL bR bO mY pW rD m_x jA pY rW oY pR pX rG rQ _ hp) q_853 q_856 q_854 q_855 q_642 h_X10_act rfl rfl ⟨Nat.le_of_ble_eq_true rfl, Nat.le_of_ble_eq_true rfl⟩ rfl rfl hl.1 rfl (lv_room (Nat.le_of_ble_eq_true rfl)) eX10_day_142.2.2.2.2.1 ⟨Nat.zero_le _, Nat.zero_le _⟩) (fun r_19 u H locs hp hP hD hS => ?_)
    obtain ⟨aGD, aCJ, aLi, aGC, aBo, aB3, aA2, aAx, aBk, aA3, m_picked_30, m_now_31⟩ := u
    have hPD := PDm (ws' := (wd_X10_day cI cC cZ cB cJ a_m oJ uD dY iJ lJ jQ jR jW jK pJ bM aY jO gR gY mK jZ iY bG mJ jB mQ lY eJ bY bW aG jG bQ dG aGD aCJ aLi aGC aBo aJ aB bU aB3 aA2 aAx aBk aA3 bT m_picked_30 dU bL bR bO mY pW m_now_31 m_x jA pY rW oY pR pX rG uM rQ uQ uZ wE)) hP hD 15 rfl rfl rfl
    have hP := hPD.1
    have hD := hPD.2
    refine lv_if_eq (tgt := 158) hx hb eX10_day_142.2.2.2.2.2.1 (by decide) (fun hc => ?_) (fun hc => ?_)
    · have hp := hp.1 hc
      exact ks_X10_day_158 C0 x1 x3 jG bQ dG aGD aCJ aLi aGC aBo aB3 aA2 aAx aBk aA3 bT m_picked_30 m_now_31 uM uQ uZ wE H locs ls hp hP hD hS (lv_sub hl [0, 1, 2] rfl)
    · have hp := hp.2 hc
      obtain ⟨v_32, ev_32⟩ : ∃ y : Int32, y = x3 + 1 := ⟨_, rfl⟩
      refine lv_iinc (v := v_32) (lv' := [(3, .int v_32), (0, .ref a_m), (1, .int x1)]) hx hb eX10_day_142.2.2.2.2.2.2.1 hl (k := 2) rfl (by rw [ev_32]; rfl) (by decide) rfl (fun ls hl => ?_)
      have hp := hp v_32 ev_32
      refine lv_goto (tgt := 122) hx hb eX10_day_142.2.2.2.2.2.2.2.1 (by decide) ?_
      exact hKn x1 v_32 jG bQ dG aGD aCJ aLi aGC aBo aB3 aA2 aAx aBk aA3 bT m_picked_30 m_now_31 uM uQ uZ wE H locs ls hp hP hD hS (lv_sub hl [1, 2, 0] rfl)
set_option maxHeartbeats 4000000 in
set_option maxRecDepth 100000 in
theorem kb_X10_day_122 (C0 : gc cX10_day (some .int) 4 RX10 (dC, dI) (tyl cI cC cZ cB cJ) A p s m args meth c) : ∀ (n : Nat), ∀ (x1 x3 jG bQ dG : Int32) (jY : Nat) (m_length qG uW eY dN aR aE bJ aW bT gJ : Int32) (rD uM uQ uZ wE : Nat → Int32) (H : Heap) (locs : List Loc) (ls : Array Slot), (wb_X10_day_122 post bW aG bU m_x jA pY rW oY pR pX rG rQ n) x1 x3 jG bQ dG jY m_length qG uW eY dN aR aE bJ aW bT gJ rD uM uQ uZ wE → va_P (dC, dI) classes (wd_X10_day cI cC cZ cB cJ a_m oJ uD dY iJ lJ jQ jR jW jK pJ bM aY jO gR gY mK jZ iY bG mJ jB mQ lY eJ bY bW aG jG bQ dG jY m_length qG uW eY aJ aB bU dN aR aE bJ aW bT gJ dU bL bR bO mY pW rD m_x jA pY rW oY pR pX rG uM rQ uQ uZ wE) H → va_D A (wd_X10_day cI cC cZ cB cJ a_m oJ uD dY iJ lJ jQ jR jW jK pJ bM aY jO gR gY mK jZ iY bG mJ jB mQ lY eJ bY bW aG jG bQ dG jY m_length qG uW eY aJ aB bU dN aR aE bJ aW bT gJ dU bL bR bO mY pW rD m_x jA pY rW oY pR pX rG uM rQ uQ uZ wE) → va_S A s.heap H locs → lv_has ls 4 [(0, .ref a_m), (1, .int x1), (3, .int x3)] → W p l e rm_X10_day s m args below meth c H locs 0 0 (MQ below (q_X10_day dC dI cI cC cZ cB cJ A a_m oJ uD dY iJ lJ jQ jR jW jK pJ bM aY jO gR gY mK jZ iY bG mJ jB mQ lY eJ bY bW aG aJ aB bU dU bL bR bO mY pW m_x jA pY rW oY pR pX rG rQ post) args s 0 0 A) (F0 m 122 ls []) := by
  intro n
  induction n with
  | zero =>
    intro x1 x3 jG bQ dG jY m_length qG uW eY dN aR aE bJ aW bT gJ rD uM uQ uZ wE H locs ls hp
    exact False.elim hp
  | succ n ih =>
    intro x1 x3 jG bQ dG jY m_length qG uW eY dN aR aE bJ aW bT gJ rD uM uQ uZ wE H locs ls hp
    exact ks_X10_day_122 C0 ih x1 x3 jG bQ dG jY m_length qG uW eY dN aR aE bJ aW bT gJ rD uM uQ uZ wE H locs ls hp
noncomputable def ws_X10_day_89 (post : Int32 → Int32 → Int32 → Int32 → Nat → Int32 → Int32 → Int32 → Int32 → Int32 → Int32 → Int32 → Int32 → Int32 → Int32 → Int32 → (Nat → Int32) → (Nat → Int32) → (Nat → Int32) → (Nat → Int32) → (Nat → Int32) → Prop) (bW aG bU : Int32) (m_x jA pY rW oY pR pX rG rQ : Nat → Int32) (x1 jG bQ dG : Int32) (jY : Nat) (m_length qG uW eY dN aR aE bJ aW bT gJ : Int32) (rD uM uQ uZ wE : Nat → Int32) : Prop := wp_X10_fine (fun r_6 => (¬ r_6 = 0 → wp_X10_lay_b2 (fun m_aside_7 => ∃ n : Nat, wb_X10_day_122 post bW aG bU m_x jA pY rW oY pR pX rG rQ n x1 0 jG bQ dG jY m_length qG uW eY dN aR aE bJ aW bT 0 rD uM uQ m_aside_7 wE) 0 rD uZ) ∧ (r_6 = 0 → post ((-1) - eY) jG bQ dG jY m_length qG uW eY dN aR aE bJ aW bT gJ rD uM uQ uZ wE)) eY
set_option maxHeartbeats 4000000 in
set_option maxRecDepth 100000 in
theorem ks_X10_day_89 (C0 : gc cX10_day (some .int) 4 RX10 (dC, dI) (tyl cI cC cZ cB cJ) A p s m args meth c) : ∀ (x1 jG bQ dG : Int32) (jY : Nat) (m_length qG uW eY dN aR aE bJ aW bT gJ : Int32) (rD uM uQ uZ wE : Nat → Int32) (H : Heap) (locs : List Loc) (ls : Array Slot), (ws_X10_day_89 post bW aG bU m_x jA pY rW oY pR pX rG rQ) x1 jG bQ dG jY m_length qG uW eY dN aR aE bJ aW bT gJ rD uM uQ uZ wE → va_P (dC, dI) classes (wd_X10_day cI cC cZ cB cJ a_m oJ uD dY iJ lJ jQ jR jW jK pJ bM aY jO gR gY mK jZ iY bG mJ jB mQ lY eJ bY bW aG jG bQ dG jY m_length qG uW eY aJ aB bU dN aR aE bJ aW bT gJ dU bL bR bO mY pW rD m_x jA pY rW oY pR pX rG uM rQ uQ uZ wE) H → va_D A (wd_X10_day cI cC cZ cB cJ a_m oJ uD dY iJ lJ jQ jR jW jK pJ bM aY jO gR gY mK jZ iY bG mJ jB mQ lY eJ bY bW aG jG bQ dG jY m_length qG uW eY aJ aB bU dN aR aE bJ aW bT gJ dU bL bR bO mY pW rD m_x jA pY rW oY pR pX rG uM rQ uQ uZ wE) → va_S A s.heap H locs → lv_has ls 4 [(0, .ref a_m), (1, .int x1)] → W p l e rm_X10_day s m args below meth c H locs 0 0 (MQ below (q_X10_day dC dI cI cC cZ cB cJ A a_m oJ uD dY iJ lJ jQ jR jW jK pJ bM aY jO gR gY mK jZ iY bG mJ jB mQ lY eJ bY bW aG aJ aB bU dU bL bR bO mY pW m_x jA pY rW oY pR pX rG rQ post) args s 0 0 A) (F0 m 89 ls []) := by
  obtain ⟨hx, hb, hr, hml, hown, hts, hlocks, hA, hK, hN, tL, tM, hZL, hTL, hZM, hTM, hZX⟩ := id C0
  intro x1 jG bQ dG jY m_length qG uW eY dN aR aE bJ aW bT gJ rD uM uQ uZ wE H locs ls hp hP hD hS hl
  unfold ws_X10_day_89 at hp
  refine lv_aload_n hx hb eX10_day_57.2.2.2.2.2.2.2.2.2.2.2.2.2.2.2 rfl (lv_at hl 0 rfl) ?_
  have hm := mgk (wc := (wd_X10_fine cI cC cZ cB cJ a_m oJ uD dY iJ lJ jQ jR jW jK pJ bM aY jO gR gY mK jZ iY bG mJ jB mQ lY eJ bY bW aG jG bQ dG jY m_length qG uW eY aJ aB bU dN aR aE bJ aW bT gJ dU bL bR bO mY pW)) hP mk_236 15 rfl rfl rfl
  refine g_calli hP hD hS hA (mixT mk_236) (mixF mk_236) hm.1 hm.2 (nd_F _) (dis_g _) (g_runV (As := []) (rest := []) C0 hP hD hS (mixT mk_236) hm.1 (nd_T _) 0 10 rfl rfl (c_X10_fine l dC dI cI cC cZ cB cJ a_m oJ uD dY iJ lJ jQ jR jW jK pJ bM aY jO gR gY mK jZ iY bG mJ jB mQ lY eJ bY H.size bW aG jG bQ dG jY m_length qG uW eY aJ aB bU dN aR aE bJ aW bT gJ dU bL bR bO mY pW _ hp) q_650 q_653 q_651 q_652 q_642 h_X10_fine rfl rfl ⟨Nat.le_of_ble_eq_true rfl, Nat.le_of_ble_eq_true rfl⟩ rfl rfl hl.1 rfl (lv_room (Nat.le_of_ble_eq_true rfl)) eX10_day_90.1 ⟨Nat.zero_le _, Nat.zero_le _⟩) (fun r_6 u H locs hp hP hD hS => ?_)
  have hPD := PDm (ws' := (wd_X10_day cI cC cZ cB cJ a_m oJ uD dY iJ lJ jQ jR jW jK pJ bM aY jO gR gY mK jZ iY bG mJ jB mQ lY eJ bY bW aG jG bQ dG jY m_length qG uW eY aJ aB bU dN aR aE bJ aW bT gJ dU bL bR bO mY pW rD m_x jA pY rW oY pR pX rG uM rQ uQ uZ wE)) hP hD 15 rfl rfl rfl
  have hP := hPD.1
  have hD := hPD.2
  refine lv_if_ne (tgt := 103) hx hb eX10_day_90.2.1 (by decide) (fun hc => ?_) (fun hc => ?_)
  · have hp := hp.1 hc
    refine lv_aload_n hx hb eX10_day_90.2.2.2.2.2.2.2.1 rfl (lv_at hl 0 rfl) ?_
    refine va_get (D := (dC, dI)) (ci := 10) (v := .ref oJ) (C := RX10) (T := TX10) (N := 51) hx hb hts i_X10 hown hK hP 0 rfl rfl 0 (Nat.le_of_ble_eq_true rfl) (hts _ q_692) (fun _ h9 => h9) rfl eX10_day_90.2.2.2.2.2.2.2.2.1 ?_
    refine lv_aload_n hx hb eX10_day_90.2.2.2.2.2.2.2.2.2.1 rfl (lv_at hl 0 rfl) ?_
    refine va_get (D := (dC, dI)) (ci := 10) (v := .ref gY) (C := RX10) (T := TX10) (N := 51) hx hb hts i_X10 hown hK hP 0 rfl rfl 33 (Nat.le_of_ble_eq_true rfl) (hts _ q_848) (fun _ h9 => h9) rfl eX10_day_90.2.2.2.2.2.2.2.2.2.2.1 ?_
    refine lv_iconst (v := 0) hx hb eX10_day_90.2.2.2.2.2.2.2.2.2.2.2.1 ic_0 ?_
    have hm := mgk (wc := (wd_X10_lay_b2 cI cC cZ cB cJ oJ gY rD uZ)) hP mk_237 15 rfl rfl rfl
    refine g_callv hP hD hS hA (mixT mk_237) (mixF mk_237) hm.1 hm.2 (nd_F _) (dis_g _) (g_runS (As := [.ref oJ, .ref gY, .int 0]) (rest := []) C0 hP hD hS (mixT mk_237) hm.1 (nd_T _) (c_X10_lay_b2 l dC dI cI cC cZ cB cJ oJ gY H.size 0 rD uZ _ hp) q_768 q_770 q_769 q_642 h_X10_lay rfl rfl ⟨Nat.le_of_ble_eq_true rfl, Nat.le_of_ble_eq_true rfl⟩ rfl rfl hl.1 rfl (lv_room (Nat.le_of_ble_eq_true rfl)) eX10_day_90.2.2.2.2.2.2.2.2.2.2.2.2.1 ⟨Nat.zero_le _, Nat.zero_le _⟩) (fun u H locs hp hP hD hS => ?_)
    obtain ⟨m_aside_7, rfl⟩ : ∃ z, z = u := ⟨_, rfl⟩
    have hPD := PDm (ws' := (wd_X10_day cI cC cZ cB cJ a_m oJ uD dY iJ lJ jQ jR jW jK pJ bM aY jO gR gY mK jZ iY bG mJ jB mQ lY eJ bY bW aG jG bQ dG jY m_length qG uW eY aJ aB bU dN aR aE bJ aW bT gJ dU bL bR bO mY pW rD m_x jA pY rW oY pR pX rG uM rQ uQ m_aside_7 wE)) hP hD 15 rfl rfl rfl
    have hP := hPD.1
    have hD := hPD.2
    refine lv_aload_n hx hb eX10_day_90.2.2.2.2.2.2.2.2.2.2.2.2.2.1 rfl (lv_at hl 0 rfl) ?_
    refine lv_iconst (v := 0) hx hb eX10_day_90.2.2.2.2.2.2.2.2.2.2.2.2.2.2.1 ic_0 ?_
    refine va_put (D := (dC, dI)) (ci := 10) (v := .int 0) (ty := .int) (C := RX10) (T := TX10) (N := 51) hx hb hts i_X10 tyX10 tyX10_ok nmX10 hown hK hP hD hS 0 rfl rfl 35 (Nat.le_of_ble_eq_true rfl) (hts _ q_845) (fun _ h9 => h9) rfl (tyX10_ok 35 (Nat.le_of_ble_eq_true rfl)) rfl rfl (Nat.le_of_ble_eq_true rfl) eX10_day_90.2.2.2.2.2.2.2.2.2.2.2.2.2.2.2 (fun H locs hP hD hS => ?_)
    have hP : va_P (dC, dI) classes (wd_X10_day cI cC cZ cB cJ a_m oJ uD dY iJ lJ jQ jR jW jK pJ bM aY jO gR gY mK jZ iY bG mJ jB mQ lY eJ bY bW aG jG bQ dG jY m_length qG uW eY aJ aB bU dN aR aE bJ aW bT 0 dU bL bR bO mY pW rD m_x jA pY rW oY pR pX rG uM rQ uQ m_aside_7 wE) H := hP
    have hD : va_D A (wd_X10_day cI cC cZ cB cJ a_m oJ uD dY iJ lJ jQ jR jW jK pJ bM aY jO gR gY mK jZ iY bG mJ jB mQ lY eJ bY bW aG jG bQ dG jY m_length qG uW eY aJ aB bU dN aR aE bJ aW bT 0 dU bL bR bO mY pW rD m_x jA pY rW oY pR pX rG uM rQ uQ m_aside_7 wE) := hD
    refine lv_iconst (v := 0) hx hb eX10_day_120.1 ic_0 ?_
    refine lv_istore_n (lv' := [(3, .int 0), (0, .ref a_m), (1, .int x1)]) hx hb eX10_day_120.2.1 rfl hl (by decide) rfl (fun ls hl => ?_)
    obtain ⟨n9, hp⟩ := hp
    exact kb_X10_day_122 C0 n9 x1 0 jG bQ dG jY m_length qG uW eY dN aR aE bJ aW bT 0 rD uM uQ m_aside_7 wE H locs ls hp hP hD hS (lv_sub hl [1, 2, 0] rfl)
  · have hp := hp.2 hc
    refine lv_iconst (v := (-1)) hx hb eX10_day_90.2.2.1 ic_m1 ?_
    refine lv_aload_n hx hb eX10_day_90.2.2.2.1 rfl (lv_at hl 0 rfl) ?_
    refine va_get (D := (dC, dI)) (ci := 10) (v := .int eY) (C := RX10) (T := TX10) (N := 51) hx hb hts i_X10 hown hK hP 0 rfl rfl 19 (Nat.le_of_ble_eq_true rfl) (hts _ q_649) (fun _ h9 => h9) rfl eX10_day_90.2.2.2.2.1 ?_
    refine lv_isub hx hb eX10_day_90.2.2.2.2.2.1 ?_
    exact W.iret (v := (-1) - eY) hx hb hr (fun t ht hW => ⟨⟨(-1) - eY, (jG, bQ, dG, jY, m_length, qG, uW, eY, dN, aR, aE, bJ, aW, bT, gJ, rD, uM, uQ, uZ, wE), rfl, hp, by rw [ht]; exact hP, va_K.moved hW.alike hK, hD⟩, hS.F ht⟩) hS.2.2 eX10_day_90.2.2.2.2.2.2.1
noncomputable def ws_X10_day_70 (post : Int32 → Int32 → Int32 → Int32 → Nat → Int32 → Int32 → Int32 → Int32 → Int32 → Int32 → Int32 → Int32 → Int32 → Int32 → Int32 → (Nat → Int32) → (Nat → Int32) → (Nat → Int32) → (Nat → Int32) → (Nat → Int32) → Prop) (bW aG bU : Int32) (m_x jA pY rW oY pR pX rG rQ : Nat → Int32) (x1 jG bQ dG : Int32) (jY : Nat) (m_length qG uW eY dN aR aE bJ aW bT gJ : Int32) (rD uM uQ uZ wE : Nat → Int32) : Prop := (m_length ≤ uW → ws_X10_day_89 post bW aG bU m_x jA pY rW oY pR pX rG rQ x1 jG bQ dG jY m_length qG uW eY dN aR aE bJ aW bT gJ rD uM uQ uZ wE) ∧ (¬ m_length ≤ uW → wp_X10_fault (fun m_wrong_33 => ws_X10_day_89 post bW aG bU m_x jA pY rW oY pR pX rG rQ x1 jG bQ dG jY m_length qG uW m_wrong_33 dN aR aE bJ aW bT gJ rD uM uQ uZ wE) uW eY)
set_option maxHeartbeats 4000000 in
set_option maxRecDepth 100000 in
theorem ks_X10_day_70 (C0 : gc cX10_day (some .int) 4 RX10 (dC, dI) (tyl cI cC cZ cB cJ) A p s m args meth c) : ∀ (x1 jG bQ dG : Int32) (jY : Nat) (m_length qG uW eY dN aR aE bJ aW bT gJ : Int32) (rD uM uQ uZ wE : Nat → Int32) (H : Heap) (locs : List Loc) (ls : Array Slot), (ws_X10_day_70 post bW aG bU m_x jA pY rW oY pR pX rG rQ) x1 jG bQ dG jY m_length qG uW eY dN aR aE bJ aW bT gJ rD uM uQ uZ wE → va_P (dC, dI) classes (wd_X10_day cI cC cZ cB cJ a_m oJ uD dY iJ lJ jQ jR jW jK pJ bM aY jO gR gY mK jZ iY bG mJ jB mQ lY eJ bY bW aG jG bQ dG jY m_length qG uW eY aJ aB bU dN aR aE bJ aW bT gJ dU bL bR bO mY pW rD m_x jA pY rW oY pR pX rG uM rQ uQ uZ wE) H → va_D A (wd_X10_day cI cC cZ cB cJ a_m oJ uD dY iJ lJ jQ jR jW jK pJ bM aY jO gR gY mK jZ iY bG mJ jB mQ lY eJ bY bW aG jG bQ dG jY m_length qG uW eY aJ aB bU dN aR aE bJ aW bT gJ dU bL bR bO mY pW rD m_x jA pY rW oY pR pX rG uM rQ uQ uZ wE) → va_S A s.heap H locs → lv_has ls 4 [(0, .ref a_m), (1, .int x1)] → W p l e rm_X10_day s m args below meth c H locs 0 0 (MQ below (q_X10_day dC dI cI cC cZ cB cJ A a_m oJ uD dY iJ lJ jQ jR jW jK pJ bM aY jO gR gY mK jZ iY bG mJ jB mQ lY eJ bY bW aG aJ aB bU dU bL bR bO mY pW m_x jA pY rW oY pR pX rG rQ post) args s 0 0 A) (F0 m 70 ls []) := by
  obtain ⟨hx, hb, hr, hml, hown, hts, hlocks, hA, hK, hN, tL, tM, hZL, hTL, hZM, hTM, hZX⟩ := id C0
  intro x1 jG bQ dG jY m_length qG uW eY dN aR aE bJ aW bT gJ rD uM uQ uZ wE H locs ls hp hP hD hS hl
  unfold ws_X10_day_70 at hp
  refine lv_aload_n hx hb eX10_day_57.2.2.2.2.2.2.1 rfl (lv_at hl 0 rfl) ?_
  refine va_get (D := (dC, dI)) (ci := 10) (v := .int uW) (C := RX10) (T := TX10) (N := 51) hx hb hts i_X10 hown hK hP 0 rfl rfl 18 (Nat.le_of_ble_eq_true rfl) (hts _ q_648) (fun _ h9 => h9) rfl eX10_day_57.2.2.2.2.2.2.2.1 ?_
  refine lv_aload_n hx hb eX10_day_57.2.2.2.2.2.2.2.2.1 rfl (lv_at hl 0 rfl) ?_
  refine va_get (D := (dC, dI)) (ci := 10) (v := .int m_length) (C := RX10) (T := TX10) (N := 51) hx hb hts i_X10 hown hK hP 0 rfl rfl 16 (Nat.le_of_ble_eq_true rfl) (hts _ q_646) (fun _ h9 => h9) rfl eX10_day_57.2.2.2.2.2.2.2.2.2.1 ?_
  refine lv_icmp_ge (tgt := 89) hx hb eX10_day_57.2.2.2.2.2.2.2.2.2.2.1 (by decide) (fun hc => ?_) (fun hc => ?_)
  · have hp := hp.1 hc
    exact ks_X10_day_89 C0 x1 jG bQ dG jY m_length qG uW eY dN aR aE bJ aW bT gJ rD uM uQ uZ wE H locs ls hp hP hD hS (lv_sub hl [0, 1] rfl)
  · have hp := hp.2 hc
    refine lv_aload_n hx hb eX10_day_57.2.2.2.2.2.2.2.2.2.2.2.1 rfl (lv_at hl 0 rfl) ?_
    refine lv_aload_n hx hb eX10_day_57.2.2.2.2.2.2.2.2.2.2.2.2.1 rfl (lv_at hl 0 rfl) ?_
    refine va_get (D := (dC, dI)) (ci := 10) (v := .int uW) (C := RX10) (T := TX10) (N := 51) hx hb hts i_X10 hown hK hP 0 rfl rfl 18 (Nat.le_of_ble_eq_true rfl) (hts _ q_648) (fun _ h9 => h9) rfl eX10_day_57.2.2.2.2.2.2.2.2.2.2.2.2.2.1 ?_
    have hm := mgk (wc := (wd_X10_fault cI cC cZ cB cJ a_m oJ uD dY iJ lJ jQ jR jW jK pJ bM aY jO gR gY mK jZ iY bG mJ jB mQ lY eJ bY bW aG jG bQ dG jY m_length qG uW eY aJ aB bU dN aR aE bJ aW bT gJ dU bL bR bO mY pW)) hP mk_236 15 rfl rfl rfl
    refine g_callv hP hD hS hA (mixT mk_236) (mixF mk_236) hm.1 hm.2 (nd_F _) (dis_g _) (g_runV (As := [.int uW]) (rest := []) C0 hP hD hS (mixT mk_236) hm.1 (nd_T _) 0 10 rfl rfl (c_X10_fault l dC dI cI cC cZ cB cJ a_m oJ uD dY iJ lJ jQ jR jW jK pJ bM aY jO gR gY mK jZ iY bG mJ jB mQ lY eJ bY H.size uW bW aG jG bQ dG jY m_length qG uW eY aJ aB bU dN aR aE bJ aW bT gJ dU bL bR bO mY pW _ hp) q_654 q_657 q_655 q_656 q_642 h_X10_fault rfl rfl ⟨Nat.le_of_ble_eq_true rfl, Nat.le_of_ble_eq_true rfl⟩ rfl rfl hl.1 rfl (lv_room (Nat.le_of_ble_eq_true rfl)) eX10_day_57.2.2.2.2.2.2.2.2.2.2.2.2.2.2.1 ⟨Nat.zero_le _, Nat.zero_le _⟩) (fun u H locs hp hP hD hS => ?_)
    obtain ⟨m_wrong_33, rfl⟩ : ∃ z, z = u := ⟨_, rfl⟩
    have hPD := PDm (ws' := (wd_X10_day cI cC cZ cB cJ a_m oJ uD dY iJ lJ jQ jR jW jK pJ bM aY jO gR gY mK jZ iY bG mJ jB mQ lY eJ bY bW aG jG bQ dG jY m_length qG uW m_wrong_33 aJ aB bU dN aR aE bJ aW bT gJ dU bL bR bO mY pW rD m_x jA pY rW oY pR pX rG uM rQ uQ uZ wE)) hP hD 15 rfl rfl rfl
    have hP := hPD.1
    have hD := hPD.2
    exact ks_X10_day_89 C0 x1 jG bQ dG jY m_length qG uW m_wrong_33 dN aR aE bJ aW bT gJ rD uM uQ uZ wE H locs ls hp hP hD hS (lv_sub hl [0, 1] rfl)
noncomputable def ws_X10_day_39 (post : Int32 → Int32 → Int32 → Int32 → Nat → Int32 → Int32 → Int32 → Int32 → Int32 → Int32 → Int32 → Int32 → Int32 → Int32 → Int32 → (Nat → Int32) → (Nat → Int32) → (Nat → Int32) → (Nat → Int32) → (Nat → Int32) → Prop) (next : Int32 → Int32 → Int32 → Int32 → Int32 → Nat → Int32 → Int32 → Int32 → Int32 → Int32 → Int32 → Int32 → Int32 → Int32 → Int32 → Int32 → (Nat → Int32) → (Nat → Int32) → (Nat → Int32) → (Nat → Int32) → (Nat → Int32) → Prop) (bW aG bU : Int32) (m_x jA pY rW oY pR pX rG rQ : Nat → Int32) (x1 x2 jG bQ dG : Int32) (jY : Nat) (m_length qG uW eY dN aR aE bJ aW bT gJ : Int32) (rD uM uQ uZ wE : Nat → Int32) : Prop := (x2 = 0 → ws_X10_day_70 post bW aG bU m_x jA pY rW oY pR pX rG rQ x1 jG bQ dG jY m_length qG uW eY dN aR aE bJ aW bT gJ rD uM uQ uZ wE) ∧ (¬ x2 = 0 → wp_X10_fine (fun r_34 => (r_34 = 0 → ws_X10_day_70 post bW aG bU m_x jA pY rW oY pR pX rG rQ x1 jG bQ dG jY m_length qG uW eY dN aR aE bJ aW bT gJ rD uM uQ uZ wE) ∧ (¬ r_34 = 0 → ∀ v_35 : Int32, v_35 = 2 * x1 → wp_X10_readAct (fun m_at_36 aJV m_acts_38 => ∀ v_39 : Int32, v_39 = x1 + 1 → wp_X10_passes (fun r_40 m_at_41 => next v_39 r_40 jG bQ dG jY m_length qG m_at_41 aJV dN aR aE bJ aW bT gJ rD uM uQ uZ m_acts_38) 59 jY m_length qG m_at_36 aJV rG rQ) v_35 jY m_length qG uW eY rG rQ wE)) eY)
noncomputable def wb_X10_day_39 (post : Int32 → Int32 → Int32 → Int32 → Nat → Int32 → Int32 → Int32 → Int32 → Int32 → Int32 → Int32 → Int32 → Int32 → Int32 → Int32 → (Nat → Int32) → (Nat → Int32) → (Nat → Int32) → (Nat → Int32) → (Nat → Int32) → Prop) (bW aG bU : Int32) (m_x jA pY rW oY pR pX rG rQ : Nat → Int32) : Nat → Int32 → Int32 → Int32 → Int32 → Int32 → Nat → Int32 → Int32 → Int32 → Int32 → Int32 → Int32 → Int32 → Int32 → Int32 → Int32 → Int32 → (Nat → Int32) → (Nat → Int32) → (Nat → Int32) → (Nat → Int32) → (Nat → Int32) → Prop := fun n => Nat.rec (motive := fun _ => Int32 → Int32 → Int32 → Int32 → Int32 → Nat → Int32 → Int32 → Int32 → Int32 → Int32 → Int32 → Int32 → Int32 → Int32 → Int32 → Int32 → (Nat → Int32) → (Nat → Int32) → (Nat → Int32) → (Nat → Int32) → (Nat → Int32) → Prop) (fun _ _ _ _ _ _ _ _ _ _ _ _ _ _ _ _ _ _ _ _ _ _ => False) (fun _ ih => ws_X10_day_39 post ih bW aG bU m_x jA pY rW oY pR pX rG rQ) n
set_option maxHeartbeats 4000000 in
set_option maxRecDepth 100000 in
theorem ks_X10_day_39 (C0 : gc cX10_day (some .int) 4 RX10 (dC, dI) (tyl cI cC cZ cB cJ) A p s m args meth c) {next : Int32 → Int32 → Int32 → Int32 → Int32 → Nat → Int32 → Int32 → Int32 → Int32 → Int32 → Int32 → Int32 → Int32 → Int32 → Int32 → Int32 → (Nat → Int32) → (Nat → Int32) → (Nat → Int32) → (Nat → Int32) → (Nat → Int32) → Prop} (hKn : ∀ (x1 : Int32) (x2 : Int32) (jG : Int32) (bQ : Int32) (dG : Int32) (jY : Nat) (m_length : Int32) (qG : Int32) (uW : Int32) (eY : Int32) (dN : Int32) (aR : Int32) (aE : Int32) (bJ : Int32) (aW : Int32) (bT : Int32) (gJ : Int32) (rD : Nat → Int32) (uM : Nat → Int32) (uQ : Nat → Int32) (uZ : Nat → Int32) (wE : Nat → Int32) (H : Heap) (locs : List Loc) (ls : Array Slot), next x1 x2 jG bQ dG jY m_length qG uW eY dN aR aE bJ aW bT gJ rD uM uQ uZ wE → va_P (dC, dI) classes (wd_X10_day cI cC cZ cB cJ a_m oJ uD dY iJ lJ jQ jR jW jK pJ bM aY jO gR gY mK jZ iY bG mJ jB mQ lY eJ bY bW aG jG bQ dG jY m_length qG uW eY aJ aB bU dN aR aE bJ aW bT gJ dU bL bR bO mY pW rD m_x jA pY rW oY pR pX rG uM rQ uQ uZ wE) H → va_D A (wd_X10_day cI cC cZ cB cJ a_m oJ uD dY iJ lJ jQ jR jW jK pJ bM aY jO gR gY mK jZ iY bG mJ jB mQ lY eJ bY bW aG jG bQ dG jY m_length qG uW eY aJ aB bU dN aR aE bJ aW bT gJ dU bL bR bO mY pW rD m_x jA pY rW oY pR pX rG uM rQ uQ uZ wE) → va_S A s.heap H locs → lv_has ls 4 [(0, .ref a_m), (1, .int x1), (2, .int x2)] → W p l e rm_X10_day s m args below meth c H locs 0 0 (MQ below (q_X10_day dC dI cI cC cZ cB cJ A a_m oJ uD dY iJ lJ jQ jR jW jK pJ bM aY jO gR gY mK jZ iY bG mJ jB mQ lY eJ bY bW aG aJ aB bU dU bL bR bO mY pW m_x jA pY rW oY pR pX rG rQ post) args s 0 0 A) (F0 m 39 ls [])) : ∀ (x1 x2 jG bQ dG : Int32) (jY : Nat) (m_length qG uW eY dN aR aE bJ aW bT gJ : Int32) (rD uM uQ uZ wE : Nat → Int32) (H : Heap) (locs : List Loc) (ls : Array Slot), (ws_X10_day_39 post next bW aG bU m_x jA pY rW oY pR pX rG rQ) x1 x2 jG bQ dG jY m_length qG uW eY dN aR aE bJ aW bT gJ rD uM uQ uZ wE → va_P (dC, dI) classes (wd_X10_day cI cC cZ cB cJ a_m oJ uD dY iJ lJ jQ jR jW jK pJ bM aY jO gR gY mK jZ iY bG mJ jB mQ lY eJ bY bW aG jG bQ dG jY m_length qG uW eY aJ aB bU dN aR aE bJ aW bT gJ dU bL bR bO mY pW rD m_x jA pY rW oY pR pX rG uM rQ uQ uZ wE) H → va_D A (wd_X10_day cI cC cZ cB cJ a_m oJ uD dY iJ lJ jQ jR jW jK pJ bM aY jO gR gY mK jZ iY bG mJ jB mQ lY eJ bY bW aG jG bQ dG jY m_length qG uW eY aJ aB bU dN aR aE bJ aW bT gJ dU bL bR bO mY pW rD m_x jA pY rW oY pR pX rG uM rQ uQ uZ wE) → va_S A s.heap H locs → lv_has ls 4 [(0, .ref a_m), (1, .int x1), (2, .int x2)] → W p l e rm_X10_day s m args below meth c H locs 0 0 (MQ below (q_X10_day dC dI cI cC cZ cB cJ A a_m oJ uD dY iJ lJ jQ jR jW jK pJ bM aY jO gR gY mK jZ iY bG mJ jB mQ lY eJ bY bW aG aJ aB bU dU bL bR bO mY pW m_x jA pY rW oY pR pX rG rQ post) args s 0 0 A) (F0 m 39 ls []) := by
  obtain ⟨hx, hb, hr, hml, hown, hts, hlocks, hA, hK, hN, tL, tM, hZL, hTL, hZM, hTM, hZX⟩ := id C0
  intro x1 x2 jG bQ dG jY m_length qG uW eY dN aR aE bJ aW bT gJ rD uM uQ uZ wE H locs ls hp hP hD hS hl
  unfold ws_X10_day_39 at hp
  refine lv_iload_n hx hb eX10_day_27.2.2.2.2.2.2.1 rfl (lv_at hl 2 rfl) ?_
  refine lv_if_eq (tgt := 70) hx hb eX10_day_27.2.2.2.2.2.2.2.1 (by decide) (fun hc => ?_) (fun hc => ?_)
  · have hp := hp.1 hc
    exact ks_X10_day_70 C0 x1 jG bQ dG jY m_length qG uW eY dN aR aE bJ aW bT gJ rD uM uQ uZ wE H locs ls hp hP hD hS (lv_sub hl [0, 1] rfl)
  · have hp := hp.2 hc
    refine lv_aload_n hx hb eX10_day_27.2.2.2.2.2.2.2.2.1 rfl (lv_at hl 0 rfl) ?_
    have hm := mgk (wc := (wd_X10_fine cI cC cZ cB cJ a_m oJ uD dY iJ lJ jQ jR jW jK pJ bM aY jO gR gY mK jZ iY bG mJ jB mQ lY eJ bY bW aG jG bQ dG jY m_length qG uW eY aJ aB bU dN aR aE bJ aW bT gJ dU bL bR bO mY pW)) hP mk_236 15 rfl rfl rfl
    refine g_calli hP hD hS hA (mixT mk_236) (mixF mk_236) hm.1 hm.2 (nd_F _) (dis_g _) (g_runV (As := []) (rest := []) C0 hP hD hS (mixT mk_236) hm.1 (nd_T _) 0 10 rfl rfl (c_X10_fine l dC dI cI cC cZ cB cJ a_m oJ uD dY iJ lJ jQ jR jW jK pJ bM aY jO gR gY mK jZ iY bG mJ jB mQ lY eJ bY H.size bW aG jG bQ dG jY m_length qG uW eY aJ aB bU dN aR aE bJ aW bT gJ dU bL bR bO mY pW _ hp) q_650 q_653 q_651 q_652 q_642 h_X10_fine rfl rfl ⟨Nat.le_of_ble_eq_true rfl, Nat.le_of_ble_eq_true rfl⟩ rfl rfl hl.1 rfl (lv_room (Nat.le_of_ble_eq_true rfl)) eX10_day_27.2.2.2.2.2.2.2.2.2.1 ⟨Nat.zero_le _, Nat.zero_le _⟩) (fun r_34 u H locs hp hP hD hS => ?_)
    have hPD := PDm (ws' := (wd_X10_day cI cC cZ cB cJ a_m oJ uD dY iJ lJ jQ jR jW jK pJ bM aY jO gR gY mK jZ iY bG mJ jB mQ lY eJ bY bW aG jG bQ dG jY m_length qG uW eY aJ aB bU dN aR aE bJ aW bT gJ dU bL bR bO mY pW rD m_x jA pY rW oY pR pX rG uM rQ uQ uZ wE)) hP hD 15 rfl rfl rfl
    have hP := hPD.1
    have hD := hPD.2
    refine lv_if_eq (tgt := 70) hx hb eX10_day_27.2.2.2.2.2.2.2.2.2.2.1 (by decide) (fun hc => ?_) (fun hc => ?_)
    · have hp := hp.1 hc
      exact ks_X10_day_70 C0 x1 jG bQ dG jY m_length qG uW eY dN aR aE bJ aW bT gJ rD uM uQ uZ wE H locs ls hp hP hD hS (lv_sub hl [0, 1] rfl)
    · have hp := hp.2 hc
      refine lv_aload_n hx hb eX10_day_27.2.2.2.2.2.2.2.2.2.2.2.1 rfl (lv_at hl 0 rfl) ?_
      refine lv_iconst (v := 2) hx hb eX10_day_27.2.2.2.2.2.2.2.2.2.2.2.2.1 ic_2 ?_
      refine lv_iload_n hx hb eX10_day_27.2.2.2.2.2.2.2.2.2.2.2.2.2.1 rfl (lv_at hl 1 rfl) ?_
      refine lv_imul hx hb eX10_day_27.2.2.2.2.2.2.2.2.2.2.2.2.2.2.1 ?_
      refine lv_topi (fun v_35 ev_35 => ?_)
      have hp := hp v_35 ev_35
      have hm := mgk (wc := (wd_X10_readAct cI cC cZ cB cJ a_m oJ uD dY iJ lJ jQ jR jW jK pJ bM aY jO gR gY mK jZ iY bG mJ jB mQ lY eJ bY bW aG jG bQ dG jY m_length qG uW eY aJ aB bU dN aR aE bJ aW bT gJ dU bL bR bO mY pW rG rQ wE)) hP mk_238 15 rfl rfl rfl
      refine g_callv hP hD hS hA (mixT mk_238) (mixF mk_238) hm.1 hm.2 (nd_F _) (dis_g _) (g_runV (As := [.int v_35]) (rest := []) C0 hP hD hS (mixT mk_238) hm.1 (nd_T _) 0 10 rfl rfl (c_X10_readAct l dC dI cI cC cZ cB cJ a_m oJ uD dY iJ lJ jQ jR jW jK pJ bM aY jO gR gY mK jZ iY bG mJ jB mQ lY eJ bY H.size v_35 bW aG jG bQ dG jY m_length qG uW eY aJ aB bU dN aR aE bJ aW bT gJ dU bL bR bO mY pW rG rQ wE _ hp) q_857 q_860 q_858 q_859 q_642 h_X10_readAct rfl rfl ⟨Nat.le_of_ble_eq_true rfl, Nat.le_of_ble_eq_true rfl⟩ rfl rfl hl.1 rfl (lv_room (Nat.le_of_ble_eq_true rfl)) eX10_day_27.2.2.2.2.2.2.2.2.2.2.2.2.2.2.2 ⟨Nat.zero_le _, Nat.zero_le _⟩) (fun u H locs hp hP hD hS => ?_)
      obtain ⟨m_at_36, aJV, m_acts_38⟩ := u
      have hPD := PDm (ws' := (wd_X10_day cI cC cZ cB cJ a_m oJ uD dY iJ lJ jQ jR jW jK pJ bM aY jO gR gY mK jZ iY bG mJ jB mQ lY eJ bY bW aG jG bQ dG jY m_length qG m_at_36 aJV aJ aB bU dN aR aE bJ aW bT gJ dU bL bR bO mY pW rD m_x jA pY rW oY pR pX rG uM rQ uQ uZ m_acts_38)) hP hD 15 rfl rfl rfl
      have hP := hPD.1
      have hD := hPD.2
      obtain ⟨v_39, ev_39⟩ : ∃ y : Int32, y = x1 + 1 := ⟨_, rfl⟩
      refine lv_iinc (v := v_39) (lv' := [(1, .int v_39), (0, .ref a_m), (2, .int x2)]) hx hb eX10_day_57.1 hl (k := 1) rfl (by rw [ev_39]; rfl) (by decide) rfl (fun ls hl => ?_)
      have hp := hp v_39 ev_39
      refine lv_aload_n hx hb eX10_day_57.2.1 rfl (lv_at hl 1 rfl) ?_
      refine lv_bipush (v := 59) hx hb eX10_day_57.2.2.1 bp_59 ?_
      have hm := mgk (wc := (wd_X10_passes cI cC cZ cB cJ a_m oJ uD dY iJ lJ jQ jR jW jK pJ bM aY jO gR gY mK jZ iY bG mJ jB mQ lY eJ bY bW aG jG bQ dG jY m_length qG m_at_36 aJV aJ aB bU dN aR aE bJ aW bT gJ dU bL bR bO mY pW rG rQ)) hP mk_239 15 rfl rfl rfl
      refine g_calli hP hD hS hA (mixT mk_239) (mixF mk_239) hm.1 hm.2 (nd_F _) (dis_g _) (g_runV (As := [.int 59]) (rest := []) C0 hP hD hS (mixT mk_239) hm.1 (nd_T _) 0 10 rfl rfl (c_X10_passes l dC dI cI cC cZ cB cJ a_m oJ uD dY iJ lJ jQ jR jW jK pJ bM aY jO gR gY mK jZ iY bG mJ jB mQ lY eJ bY H.size 59 bW aG jG bQ dG jY m_length qG m_at_36 aJV aJ aB bU dN aR aE bJ aW bT gJ dU bL bR bO mY pW rG rQ _ hp) q_662 q_665 q_663 q_664 q_642 h_X10_passes rfl rfl ⟨Nat.le_of_ble_eq_true rfl, Nat.le_of_ble_eq_true rfl⟩ rfl rfl hl.1 rfl (lv_room (Nat.le_of_ble_eq_true rfl)) eX10_day_57.2.2.2.1 ⟨Nat.zero_le _, Nat.zero_le _⟩) (fun r_40 u H locs hp hP hD hS => ?_)
      obtain ⟨m_at_41, rfl⟩ : ∃ z, z = u := ⟨_, rfl⟩
      have hPD := PDm (ws' := (wd_X10_day cI cC cZ cB cJ a_m oJ uD dY iJ lJ jQ jR jW jK pJ bM aY jO gR gY mK jZ iY bG mJ jB mQ lY eJ bY bW aG jG bQ dG jY m_length qG m_at_41 aJV aJ aB bU dN aR aE bJ aW bT gJ dU bL bR bO mY pW rD m_x jA pY rW oY pR pX rG uM rQ uQ uZ m_acts_38)) hP hD 15 rfl rfl rfl
      have hP := hPD.1
      have hD := hPD.2
      refine lv_istore_n (lv' := [(2, .int r_40), (1, .int v_39), (0, .ref a_m)]) hx hb eX10_day_57.2.2.2.2.1 rfl hl (by decide) rfl (fun ls hl => ?_)
      refine lv_goto (tgt := 39) hx hb eX10_day_57.2.2.2.2.2.1 (by decide) ?_
      exact hKn v_39 r_40 jG bQ dG jY m_length qG m_at_41 aJV dN aR aE bJ aW bT gJ rD uM uQ uZ m_acts_38 H locs ls hp hP hD hS (lv_sub hl [2, 1, 0] rfl)
set_option maxHeartbeats 4000000 in
set_option maxRecDepth 100000 in
theorem kb_X10_day_39 (C0 : gc cX10_day (some .int) 4 RX10 (dC, dI) (tyl cI cC cZ cB cJ) A p s m args meth c) : ∀ (n : Nat), ∀ (x1 x2 jG bQ dG : Int32) (jY : Nat) (m_length qG uW eY dN aR aE bJ aW bT gJ : Int32) (rD uM uQ uZ wE : Nat → Int32) (H : Heap) (locs : List Loc) (ls : Array Slot), (wb_X10_day_39 post bW aG bU m_x jA pY rW oY pR pX rG rQ n) x1 x2 jG bQ dG jY m_length qG uW eY dN aR aE bJ aW bT gJ rD uM uQ uZ wE → va_P (dC, dI) classes (wd_X10_day cI cC cZ cB cJ a_m oJ uD dY iJ lJ jQ jR jW jK pJ bM aY jO gR gY mK jZ iY bG mJ jB mQ lY eJ bY bW aG jG bQ dG jY m_length qG uW eY aJ aB bU dN aR aE bJ aW bT gJ dU bL bR bO mY pW rD m_x jA pY rW oY pR pX rG uM rQ uQ uZ wE) H → va_D A (wd_X10_day cI cC cZ cB cJ a_m oJ uD dY iJ lJ jQ jR jW jK pJ bM aY jO gR gY mK jZ iY bG mJ jB mQ lY eJ bY bW aG jG bQ dG jY m_length qG uW eY aJ aB bU dN aR aE bJ aW bT gJ dU bL bR bO mY pW rD m_x jA pY rW oY pR pX rG uM rQ uQ uZ wE) → va_S A s.heap H locs → lv_has ls 4 [(0, .ref a_m), (1, .int x1), (2, .int x2)] → W p l e rm_X10_day s m args below meth c H locs 0 0 (MQ below (q_X10_day dC dI cI cC cZ cB cJ A a_m oJ uD dY iJ lJ jQ jR jW jK pJ bM aY jO gR gY mK jZ iY bG mJ jB mQ lY eJ bY bW aG aJ aB bU dU bL bR bO mY pW m_x jA pY rW oY pR pX rG rQ post) args s 0 0 A) (F0 m 39 ls []) := by
  intro n
  induction n with
  | zero =>
    intro x1 x2 jG bQ dG jY m_length qG uW eY dN aR aE bJ aW bT gJ rD uM uQ uZ wE H locs ls hp
    exact False.elim hp
  | succ n ih =>
    intro x1 x2 jG bQ dG jY m_length qG uW eY dN aR aE bJ aW bT gJ rD uM uQ uZ wE H locs ls hp
    exact ks_X10_day_39 C0 ih x1 x2 jG bQ dG jY m_length qG uW eY dN aR aE bJ aW bT gJ rD uM uQ uZ wE H locs ls hp
noncomputable def ws_X10_day_38 (post : Int32 → Int32 → Int32 → Int32 → Nat → Int32 → Int32 → Int32 → Int32 → Int32 → Int32 → Int32 → Int32 → Int32 → Int32 → Int32 → (Nat → Int32) → (Nat → Int32) → (Nat → Int32) → (Nat → Int32) → (Nat → Int32) → Prop) (bW aG bU : Int32) (m_x jA pY rW oY pR pX rG rQ : Nat → Int32) (x1 k0 jG bQ dG : Int32) (jY : Nat) (m_length qG uW eY dN aR aE bJ aW bT gJ : Int32) (rD uM uQ uZ wE : Nat → Int32) : Prop := ∃ n : Nat, wb_X10_day_39 post bW aG bU m_x jA pY rW oY pR pX rG rQ n x1 k0 jG bQ dG jY m_length qG uW eY dN aR aE bJ aW bT gJ rD uM uQ uZ wE
set_option maxHeartbeats 4000000 in
set_option maxRecDepth 100000 in
theorem ks_X10_day_38 (C0 : gc cX10_day (some .int) 4 RX10 (dC, dI) (tyl cI cC cZ cB cJ) A p s m args meth c) : ∀ (x1 k0 jG bQ dG : Int32) (jY : Nat) (m_length qG uW eY dN aR aE bJ aW bT gJ : Int32) (rD uM uQ uZ wE : Nat → Int32) (H : Heap) (locs : List Loc) (ls : Array Slot), (ws_X10_day_38 post bW aG bU m_x jA pY rW oY pR pX rG rQ) x1 k0 jG bQ dG jY m_length qG uW eY dN aR aE bJ aW bT gJ rD uM uQ uZ wE → va_P (dC, dI) classes (wd_X10_day cI cC cZ cB cJ a_m oJ uD dY iJ lJ jQ jR jW jK pJ bM aY jO gR gY mK jZ iY bG mJ jB mQ lY eJ bY bW aG jG bQ dG jY m_length qG uW eY aJ aB bU dN aR aE bJ aW bT gJ dU bL bR bO mY pW rD m_x jA pY rW oY pR pX rG uM rQ uQ uZ wE) H → va_D A (wd_X10_day cI cC cZ cB cJ a_m oJ uD dY iJ lJ jQ jR jW jK pJ bM aY jO gR gY mK jZ iY bG mJ jB mQ lY eJ bY bW aG jG bQ dG jY m_length qG uW eY aJ aB bU dN aR aE bJ aW bT gJ dU bL bR bO mY pW rD m_x jA pY rW oY pR pX rG uM rQ uQ uZ wE) → va_S A s.heap H locs → lv_has ls 4 [(0, .ref a_m), (1, .int x1)] → W p l e rm_X10_day s m args below meth c H locs 0 0 (MQ below (q_X10_day dC dI cI cC cZ cB cJ A a_m oJ uD dY iJ lJ jQ jR jW jK pJ bM aY jO gR gY mK jZ iY bG mJ jB mQ lY eJ bY bW aG aJ aB bU dU bL bR bO mY pW m_x jA pY rW oY pR pX rG rQ post) args s 0 0 A) (F0 m 38 ls [.int k0]) := by
  obtain ⟨hx, hb, hr, hml, hown, hts, hlocks, hA, hK, hN, tL, tM, hZL, hTL, hZM, hTM, hZX⟩ := id C0
  intro x1 k0 jG bQ dG jY m_length qG uW eY dN aR aE bJ aW bT gJ rD uM uQ uZ wE H locs ls hp hP hD hS hl
  unfold ws_X10_day_38 at hp
  refine lv_istore_n (lv' := [(2, .int k0), (0, .ref a_m), (1, .int x1)]) hx hb eX10_day_27.2.2.2.2.2.1 rfl hl (by decide) rfl (fun ls hl => ?_)
  obtain ⟨n9, hp⟩ := hp
  exact kb_X10_day_39 C0 n9 x1 k0 jG bQ dG jY m_length qG uW eY dN aR aE bJ aW bT gJ rD uM uQ uZ wE H locs ls hp hP hD hS (lv_sub hl [1, 2, 0] rfl)
end S_X10_day
noncomputable def wp_X10_day (post : Int32 → Int32 → Int32 → Int32 → Nat → Int32 → Int32 → Int32 → Int32 → Int32 → Int32 → Int32 → Int32 → Int32 → Int32 → Int32 → (Nat → Int32) → (Nat → Int32) → (Nat → Int32) → (Nat → Int32) → (Nat → Int32) → Prop) (bW aG jG bQ dG : Int32) (jY : Nat) (m_length qG uW eY bU dN aR aE bJ aW bT gJ : Int32) (rD m_x jA pY rW oY pR pX rG uM rQ uQ uZ wE : Nat → Int32) : Prop := wp_X10_begin (fun zL yG aAj aAU yX => (yG ≤ 0 → ws_X10_day_38 post bW aG bU m_x jA pY rW oY pR pX rG rQ 0 0 0 bQ 0 zL yG aAj aAU yX dN aR aE bJ aW bT gJ rD uM uQ uZ wE) ∧ (¬ yG ≤ 0 → ws_X10_day_38 post bW aG bU m_x jA pY rW oY pR pX rG rQ 0 1 0 bQ 0 zL yG aAj aAU yX dN aR aE bJ aW bT gJ rD uM uQ uZ wE)) jG 60 jY m_length qG uW eY
set_option maxHeartbeats 4000000 in
set_option maxRecDepth 100000 in
theorem c_X10_day (l : Launch) (dC : Nat → ClassId) (dI : Nat → Nat → Nat) (cI cC cZ cB cJ : ClassId) (a_m oJ uD dY iJ lJ jQ jR jW jK pJ bM aY jO gR gY mK jZ iY bG mJ jB mQ lY eJ bY sz : Nat) (bW aG jG bQ dG : Int32) (jY : Nat) (m_length qG uW eY aJ aB bU dN aR aE bJ aW bT gJ dU bL bR bO mY pW : Int32) (rD m_x jA pY rW oY pR pX rG uM rQ uQ uZ wE : Nat → Int32) (post : Int32 → Int32 → Int32 → Int32 → Nat → Int32 → Int32 → Int32 → Int32 → Int32 → Int32 → Int32 → Int32 → Int32 → Int32 → Int32 → (Nat → Int32) → (Nat → Int32) → (Nat → Int32) → (Nat → Int32) → (Nat → Int32) → Prop) (hw : wp_X10_day post bW aG jG bQ dG jY m_length qG uW eY bU dN aR aE bJ aW bT gJ rD m_x jA pY rW oY pR pX rG uM rQ uQ uZ wE) : Met l yX10_day (gw yX10_day cX10_day 4 (some .int)) rm_X10_day (va_Pc [.ref a_m] (gPre (dC, dI) (tyl cI cC cZ cB cJ) (wd_X10_day cI cC cZ cB cJ a_m oJ uD dY iJ lJ jQ jR jW jK pJ bM aY jO gR gY mK jZ iY bG mJ jB mQ lY eJ bY bW aG jG bQ dG jY m_length qG uW eY aJ aB bU dN aR aE bJ aW bT gJ dU bL bR bO mY pW rD m_x jA pY rW oY pR pX rG uM rQ uQ uZ wE) sz)) (q_X10_day dC dI cI cC cZ cB cJ (va_A (wd_X10_day cI cC cZ cB cJ a_m oJ uD dY iJ lJ jQ jR jW jK pJ bM aY jO gR gY mK jZ iY bG mJ jB mQ lY eJ bY bW aG jG bQ dG jY m_length qG uW eY aJ aB bU dN aR aE bJ aW bT gJ dU bL bR bO mY pW rD m_x jA pY rW oY pR pX rG uM rQ uQ uZ wE) sz) a_m oJ uD dY iJ lJ jQ jR jW jK pJ bM aY jO gR gY mK jZ iY bG mJ jB mQ lY eJ bY bW aG aJ aB bU dU bL bR bO mY pW m_x jA pY rW oY pR pX rG rQ post) 0 0 (va_A (wd_X10_day cI cC cZ cB cJ a_m oJ uD dY iJ lJ jQ jR jW jK pJ bM aY jO gR gY mK jZ iY bG mJ jB mQ lY eJ bY bW aG jG bQ dG jY m_length qG uW eY aJ aB bU dN aR aE bJ aW bT gJ dU bL bR bO mY pW rD m_x jA pY rW oY pR pX rG uM rQ uQ uZ wE) sz) := by
  refine g_enter (own := RX10) (dC, dI) (tyl cI cC cZ cB cJ) (wd_X10_day cI cC cZ cB cJ a_m oJ uD dY iJ lJ jQ jR jW jK pJ bM aY jO gR gY mK jZ iY bG mJ jB mQ lY eJ bY bW aG jG bQ dG jY m_length qG uW eY aJ aB bU dN aR aE bJ aW bT gJ dU bL bR bO mY pW rD m_x jA pY rW oY pR pX rG uM rQ uQ uZ wE) sz [.ref a_m] (fun A => q_X10_day dC dI cI cC cZ cB cJ A a_m oJ uD dY iJ lJ jQ jR jW jK pJ bM aY jO gR gY mK jZ iY bG mJ jB mQ lY eJ bY bW aG aJ aB bU dU bL bR bO mY pW m_x jA pY rW oY pR pX rG rQ post) pn_RX10 rfl (Nat.le_of_ble_eq_true rfl) ?_
  intro p e s m args below meth c A H locs ls C0 hP hD hS hl
  have hl : lv_has ls 4 [(0, .ref a_m)] := hl
  obtain ⟨hx, hb, hr, hml, hown, hts, hlocks, hA, hK, hN, tL, tM, hZL, hTL, hZM, hTM, hZX⟩ := id C0
  have hp := hw
  unfold wp_X10_day at hp
  refine lv_aload_n hx hb eX10_day_0.1 rfl (lv_at hl 0 rfl) ?_
  refine lv_iconst (v := 0) hx hb eX10_day_0.2.1 ic_0 ?_
  refine va_put (D := (dC, dI)) (ci := 10) (v := .int 0) (ty := .int) (C := RX10) (T := TX10) (N := 51) hx hb hts i_X10 tyX10 tyX10_ok nmX10 hown hK hP hD hS 0 rfl rfl 14 (Nat.le_of_ble_eq_true rfl) (hts _ q_638) (fun _ h9 => h9) rfl (tyX10_ok 14 (Nat.le_of_ble_eq_true rfl)) rfl rfl (Nat.le_of_ble_eq_true rfl) eX10_day_0.2.2.1 (fun H locs hP hD hS => ?_)
  have hP : va_P (dC, dI) classes (wd_X10_day cI cC cZ cB cJ a_m oJ uD dY iJ lJ jQ jR jW jK pJ bM aY jO gR gY mK jZ iY bG mJ jB mQ lY eJ bY bW aG jG bQ 0 jY m_length qG uW eY aJ aB bU dN aR aE bJ aW bT gJ dU bL bR bO mY pW rD m_x jA pY rW oY pR pX rG uM rQ uQ uZ wE) H := hP
  have hD : va_D A (wd_X10_day cI cC cZ cB cJ a_m oJ uD dY iJ lJ jQ jR jW jK pJ bM aY jO gR gY mK jZ iY bG mJ jB mQ lY eJ bY bW aG jG bQ 0 jY m_length qG uW eY aJ aB bU dN aR aE bJ aW bT gJ dU bL bR bO mY pW rD m_x jA pY rW oY pR pX rG uM rQ uQ uZ wE) := hD
  refine lv_aload_n hx hb eX10_day_0.2.2.2.1 rfl (lv_at hl 0 rfl) ?_
  refine lv_aload_n hx hb eX10_day_0.2.2.2.2.1 rfl (lv_at hl 0 rfl) ?_
  refine va_get (D := (dC, dI)) (ci := 10) (v := .ref jK) (C := RX10) (T := TX10) (N := 51) hx hb hts i_X10 hown hK hP 0 rfl rfl 10 (Nat.le_of_ble_eq_true rfl) (hts _ q_640) (fun _ h9 => h9) rfl eX10_day_0.2.2.2.2.2.1 ?_
  refine lv_aload_n hx hb eX10_day_0.2.2.2.2.2.2.1 rfl (lv_at hl 0 rfl) ?_
  refine va_get (D := (dC, dI)) (ci := 10) (v := .int jG) (C := RX10) (T := TX10) (N := 51) hx hb hts i_X10 hown hK hP 0 rfl rfl 11 (Nat.le_of_ble_eq_true rfl) (hts _ q_639) (fun _ h9 => h9) rfl eX10_day_0.2.2.2.2.2.2.2.1 ?_
  refine lv_bipush (v := 60) hx hb eX10_day_0.2.2.2.2.2.2.2.2.1 bp_60 ?_
  have hm := mgk (wc := (wd_X10_begin cI cC cZ cB cJ a_m oJ uD dY iJ lJ jQ jR jW jK pJ bM aY jO gR gY mK jZ iY bG mJ jB mQ lY eJ bY bW aG jG bQ 0 jY m_length qG uW eY aJ aB bU dN aR aE bJ aW bT gJ dU bL bR bO mY pW)) hP mk_236 15 rfl rfl rfl
  refine g_callv hP hD hS hA (mixT mk_236) (mixF mk_236) hm.1 hm.2 (nd_F _) (dis_g _) (g_runV (As := [.ref jK, .int jG, .int 60]) (rest := []) C0 hP hD hS (mixT mk_236) hm.1 (nd_T _) 0 10 rfl rfl (c_X10_begin l dC dI cI cC cZ cB cJ a_m oJ uD dY iJ lJ jQ jR jW jK pJ bM aY jO gR gY mK jZ iY bG mJ jB mQ lY eJ bY H.size jG 60 bW aG jG bQ 0 jY m_length qG uW eY aJ aB bU dN aR aE bJ aW bT gJ dU bL bR bO mY pW _ hp) q_680 q_683 q_681 q_682 q_642 h_X10_begin rfl rfl ⟨Nat.le_of_ble_eq_true rfl, Nat.le_of_ble_eq_true rfl⟩ rfl rfl hl.1 rfl (lv_room (Nat.le_of_ble_eq_true rfl)) eX10_day_0.2.2.2.2.2.2.2.2.2.1 ⟨Nat.zero_le _, Nat.zero_le _⟩) (fun u H locs hp hP hD hS => ?_)
  obtain ⟨zL, yG, aAj, aAU, yX⟩ := u
  have hPD := PDm (ws' := (wd_X10_day cI cC cZ cB cJ a_m oJ uD dY iJ lJ jQ jR jW jK pJ bM aY jO gR gY mK jZ iY bG mJ jB mQ lY eJ bY bW aG jG bQ 0 zL yG aAj aAU yX aJ aB bU dN aR aE bJ aW bT gJ dU bL bR bO mY pW rD m_x jA pY rW oY pR pX rG uM rQ uQ uZ wE)) hP hD 15 rfl rfl rfl
  have hP := hPD.1
  have hD := hPD.2
  refine lv_aload_n hx hb eX10_day_0.2.2.2.2.2.2.2.2.2.2.1 rfl (lv_at hl 0 rfl) ?_
  refine lv_iconst (v := 0) hx hb eX10_day_0.2.2.2.2.2.2.2.2.2.2.2.1 ic_0 ?_
  refine va_put (D := (dC, dI)) (ci := 10) (v := .int 0) (ty := .int) (C := RX10) (T := TX10) (N := 51) hx hb hts i_X10 tyX10 tyX10_ok nmX10 hown hK hP hD hS 0 rfl rfl 11 (Nat.le_of_ble_eq_true rfl) (hts _ q_639) (fun _ h9 => h9) rfl (tyX10_ok 11 (Nat.le_of_ble_eq_true rfl)) rfl rfl (Nat.le_of_ble_eq_true rfl) eX10_day_0.2.2.2.2.2.2.2.2.2.2.2.2.1 (fun H locs hP hD hS => ?_)
  have hP : va_P (dC, dI) classes (wd_X10_day cI cC cZ cB cJ a_m oJ uD dY iJ lJ jQ jR jW jK pJ bM aY jO gR gY mK jZ iY bG mJ jB mQ lY eJ bY bW aG 0 bQ 0 zL yG aAj aAU yX aJ aB bU dN aR aE bJ aW bT gJ dU bL bR bO mY pW rD m_x jA pY rW oY pR pX rG uM rQ uQ uZ wE) H := hP
  have hD : va_D A (wd_X10_day cI cC cZ cB cJ a_m oJ uD dY iJ lJ jQ jR jW jK pJ bM aY jO gR gY mK jZ iY bG mJ jB mQ lY eJ bY bW aG 0 bQ 0 zL yG aAj aAU yX aJ aB bU dN aR aE bJ aW bT gJ dU bL bR bO mY pW rD m_x jA pY rW oY pR pX rG uM rQ uQ uZ wE) := hD
  refine lv_iconst (v := 0) hx hb eX10_day_0.2.2.2.2.2.2.2.2.2.2.2.2.2.1 ic_0 ?_
  refine lv_istore_n (lv' := [(1, .int 0), (0, .ref a_m)]) hx hb eX10_day_0.2.2.2.2.2.2.2.2.2.2.2.2.2.2.1 rfl hl (by decide) rfl (fun ls hl => ?_)
  refine lv_aload_n hx hb eX10_day_0.2.2.2.2.2.2.2.2.2.2.2.2.2.2.2 rfl (lv_at hl 1 rfl) ?_
  refine va_get (D := (dC, dI)) (ci := 10) (v := .int yG) (C := RX10) (T := TX10) (N := 51) hx hb hts i_X10 hown hK hP 0 rfl rfl 16 (Nat.le_of_ble_eq_true rfl) (hts _ q_646) (fun _ h9 => h9) rfl eX10_day_27.1 ?_
  refine lv_if_le (tgt := 37) hx hb eX10_day_27.2.1 (by decide) (fun hc => ?_) (fun hc => ?_)
  · have hp := hp.1 hc
    refine lv_iconst (v := 0) hx hb eX10_day_27.2.2.2.2.1 ic_0 ?_
    exact ks_X10_day_38 C0 0 0 0 bQ 0 zL yG aAj aAU yX dN aR aE bJ aW bT gJ rD uM uQ uZ wE H locs ls hp hP hD hS (lv_sub hl [1, 0] rfl)
  · have hp := hp.2 hc
    refine lv_iconst (v := 1) hx hb eX10_day_27.2.2.1 ic_1 ?_
    refine lv_goto (tgt := 38) hx hb eX10_day_27.2.2.2.1 (by decide) ?_
    exact ks_X10_day_38 C0 0 1 0 bQ 0 zL yG aAj aAU yX dN aR aE bJ aW bT gJ rD uM uQ uZ wE H locs ls hp hP hD hS (lv_sub hl [1, 0] rfl)
noncomputable abbrev wd_X10_undo (cI cC cZ cB cJ : ClassId) (a_m oJ uD dY iJ lJ jQ jR jW jK pJ bM aY jO gR gY mK jZ iY bG mJ jB mQ lY eJ bY : Nat) (bW aG jG bQ dG : Int32) (jY : Nat) (m_length qG uW eY aJ aB bU dN aR aE bJ aW bT gJ dU bL bR bO mY pW : Int32) (rD uQ : Nat → Int32) : va_W := [(a_m, .inr (10, [.ref oJ, .int bW, .ref uD, .ref dY, .ref iJ, .ref lJ, .int aG, .ref jQ, .ref jR, .ref jW, .ref jK, .int jG, .ref pJ, .int bQ, .int dG, rdv jK jO jY, .int m_length, .int qG, .int uW, .int eY, .ref bM, .ref aY, .int aJ, .int aB, .ref jO, .int bU, .int dN, .int aR, .int aE, .int bJ, .int aW, .ref gR, .int bT, .ref gY, .ref mK, .int gJ, .ref jZ, .int dU, .ref iY, .ref bG, .int bL, .int bR, .int bO, .ref mJ, .ref jB, .ref mQ, .int mY, .int pW, .ref lY, .ref eJ, .ref bY])), (oJ, .inl (cI, 21, .inl rD)), (gR, .inl (cI, 252, .inl uQ))]
noncomputable abbrev q_X10_undo (dC : Nat → ClassId) (dI : Nat → Nat → Nat) (cI cC cZ cB cJ : ClassId) (A : Nat → Prop) (a_m oJ uD dY iJ lJ jQ jR jW jK pJ bM aY jO gR gY mK jZ iY bG mJ jB mQ lY eJ bY : Nat) (bW aG jG bQ : Int32) (jY : Nat) (m_length qG uW eY aJ aB bU dN aR aE bJ aW gJ dU bL bR bO mY pW : Int32) (uQ : Nat → Int32) (post : Int32 → Int32 → Int32 → (Nat → Int32) → Prop) : Array Value → State → Outcome → State → Prop := va_Qi (fun (r : Int32) (u : Int32 × Int32 × (Nat → Int32)) => post r u.1 u.2.1 u.2.2) (fun u t => gB (dC, dI) (tyl cI cC cZ cB cJ) A (wd_X10_undo cI cC cZ cB cJ a_m oJ uD dY iJ lJ jQ jR jW jK pJ bM aY jO gR gY mK jZ iY bG mJ jB mQ lY eJ bY bW aG jG bQ u.1 jY m_length qG uW eY aJ aB bU dN aR aE bJ aW u.2.1 gJ dU bL bR bO mY pW u.2.2 uQ) t) A
noncomputable abbrev rm_X10_undo : Room := { frames := 0, cells := 0, slots := 0, locals := 0 }
section S_X10_undo
variable {p : Program} {l : Launch} {e : Env} {s : State} {m : MethodId} {args : Array Value} {below : List Frame} {meth : Method} {c : Code} {dC : Nat → ClassId} {dI : Nat → Nat → Nat} {cI cC cZ cB cJ : ClassId} {A : Nat → Prop} {a_m oJ uD dY iJ lJ jQ jR jW jK pJ bM aY jO gR gY mK jZ iY bG mJ jB mQ lY eJ bY : Nat} {bW aG jG bQ : Int32} {jY : Nat} {m_length qG uW eY aJ aB bU dN aR aE bJ aW gJ dU bL bR bO mY pW : Int32} {uQ : Nat → Int32} {post : Int32 → Int32 → Int32 → (Nat → Int32) → Prop}
noncomputable def ws_X10_undo_26 (post next : Int32 → Int32 → Int32 → (Nat → Int32) → Prop) (uQ : Nat → Int32) (x1 dG bT : Int32) (rD : Nat → Int32) : Prop := (21 ≤ x1 → post bT dG bT rD) ∧ (¬ 21 ≤ x1 → ∀ v_2 : Int32, v_2 = 21 * bT → ∀ v_3 : Int32, v_3 = v_2 + x1 → vp_in v_3 252 ∧ (∀ v_4 : Int32, v_4 = uQ v_3.toNatClampNeg → vp_in x1 21 ∧ (∀ v_5 : Int32, v_5 = x1 + 1 → next v_5 dG bT (upd rD x1.toNatClampNeg v_4))))
noncomputable def wb_X10_undo_26 (post : Int32 → Int32 → Int32 → (Nat → Int32) → Prop) (uQ : Nat → Int32) : Nat → Int32 → Int32 → Int32 → (Nat → Int32) → Prop := fun n => Nat.rec (motive := fun _ => Int32 → Int32 → Int32 → (Nat → Int32) → Prop) (fun _ _ _ _ => False) (fun _ ih => ws_X10_undo_26 post ih uQ) n
set_option maxHeartbeats 4000000 in
set_option maxRecDepth 100000 in
theorem ks_X10_undo_26 (C0 : gc cX10_undo (some .int) 2 RX10 (dC, dI) (tyl cI cC cZ cB cJ) A p s m args meth c) {next : Int32 → Int32 → Int32 → (Nat → Int32) → Prop} (hKn : ∀ (x1 : Int32) (dG : Int32) (bT : Int32) (rD : Nat → Int32) (H : Heap) (locs : List Loc) (ls : Array Slot), next x1 dG bT rD → va_P (dC, dI) classes (wd_X10_undo cI cC cZ cB cJ a_m oJ uD dY iJ lJ jQ jR jW jK pJ bM aY jO gR gY mK jZ iY bG mJ jB mQ lY eJ bY bW aG jG bQ dG jY m_length qG uW eY aJ aB bU dN aR aE bJ aW bT gJ dU bL bR bO mY pW rD uQ) H → va_D A (wd_X10_undo cI cC cZ cB cJ a_m oJ uD dY iJ lJ jQ jR jW jK pJ bM aY jO gR gY mK jZ iY bG mJ jB mQ lY eJ bY bW aG jG bQ dG jY m_length qG uW eY aJ aB bU dN aR aE bJ aW bT gJ dU bL bR bO mY pW rD uQ) → va_S A s.heap H locs → lv_has ls 2 [(0, .ref a_m), (1, .int x1)] → W p l e rm_X10_undo s m args below meth c H locs 0 0 (MQ below (q_X10_undo dC dI cI cC cZ cB cJ A a_m oJ uD dY iJ lJ jQ jR jW jK pJ bM aY jO gR gY mK jZ iY bG mJ jB mQ lY eJ bY bW aG jG bQ jY m_length qG uW eY aJ aB bU dN aR aE bJ aW gJ dU bL bR bO mY pW uQ post) args s 0 0 A) (F0 m 26 ls [])) : ∀ (x1 dG bT : Int32) (rD : Nat → Int32) (H : Heap) (locs : List Loc) (ls : Array Slot), (ws_X10_undo_26 post next uQ) x1 dG bT rD → va_P (dC, dI) classes (wd_X10_undo cI cC cZ cB cJ a_m oJ uD dY iJ lJ jQ jR jW jK pJ bM aY jO gR gY mK jZ iY bG mJ jB mQ lY eJ bY bW aG jG bQ dG jY m_length qG uW eY aJ aB bU dN aR aE bJ aW bT gJ dU bL bR bO mY pW rD uQ) H → va_D A (wd_X10_undo cI cC cZ cB cJ a_m oJ uD dY iJ lJ jQ jR jW jK pJ bM aY jO gR gY mK jZ iY bG mJ jB mQ lY eJ bY bW aG jG bQ dG jY m_length qG uW eY aJ aB bU dN aR aE bJ aW bT gJ dU bL bR bO mY pW rD uQ) → va_S A s.heap H locs → lv_has ls 2 [(0, .ref a_m), (1, .int x1)] → W p l e rm_X10_undo s m args below meth c H locs 0 0 (MQ below (q_X10_undo dC dI cI cC cZ cB cJ A a_m oJ uD dY iJ lJ jQ jR jW jK pJ bM aY jO gR gY mK jZ iY bG mJ jB mQ lY eJ bY bW aG jG bQ jY m_length qG uW eY aJ aB bU dN aR aE bJ aW gJ dU bL bR bO mY pW uQ post) args s 0 0 A) (F0 m 26 ls []) := by
  obtain ⟨hx, hb, hr, hml, hown, hts, hlocks, hA, hK, hN, tL, tM, hZL, hTL, hZM, hTM, hZX⟩ := id C0
  intro x1 dG bT rD H locs ls hp hP hD hS hl
  unfold ws_X10_undo_26 at hp
  refine lv_iload_n hx hb eX10_undo_26.1 rfl (lv_at hl 1 rfl) ?_
  refine lv_bipush (v := 21) hx hb eX10_undo_26.2.1 bp_21 ?_
  refine lv_icmp_ge (tgt := 58) hx hb eX10_undo_26.2.2.1 (by decide) (fun hc => ?_) (fun hc => ?_)
  · have hp := hp.1 hc
    refine lv_aload_n hx hb eX10_undo_52.2.2.1 rfl (lv_at hl 0 rfl) ?_
    refine va_get (D := (dC, dI)) (ci := 10) (v := .int bT) (C := RX10) (T := TX10) (N := 51) hx hb hts i_X10 hown hK hP 0 rfl rfl 32 (Nat.le_of_ble_eq_true rfl) (hts _ q_684) (fun _ h9 => h9) rfl eX10_undo_52.2.2.2.1 ?_
    exact W.iret (v := bT) hx hb hr (fun t ht hW => ⟨⟨bT, (dG, bT, rD), rfl, hp, by rw [ht]; exact hP, va_K.moved hW.alike hK, hD⟩, hS.F ht⟩) hS.2.2 eX10_undo_52.2.2.2.2
  · have hp := hp.2 hc
    refine lv_aload_n hx hb eX10_undo_26.2.2.2.1 rfl (lv_at hl 0 rfl) ?_
    refine va_get (D := (dC, dI)) (ci := 10) (v := .ref oJ) (C := RX10) (T := TX10) (N := 51) hx hb hts i_X10 hown hK hP 0 rfl rfl 0 (Nat.le_of_ble_eq_true rfl) (hts _ q_692) (fun _ h9 => h9) rfl eX10_undo_26.2.2.2.2.1 ?_
    refine lv_iload_n hx hb eX10_undo_26.2.2.2.2.2.1 rfl (lv_at hl 1 rfl) ?_
    refine lv_aload_n hx hb eX10_undo_26.2.2.2.2.2.2.1 rfl (lv_at hl 0 rfl) ?_
    refine va_get (D := (dC, dI)) (ci := 10) (v := .ref gR) (C := RX10) (T := TX10) (N := 51) hx hb hts i_X10 hown hK hP 0 rfl rfl 31 (Nat.le_of_ble_eq_true rfl) (hts _ q_767) (fun _ h9 => h9) rfl eX10_undo_26.2.2.2.2.2.2.2.1 ?_
    refine lv_bipush (v := 21) hx hb eX10_undo_26.2.2.2.2.2.2.2.2.1 bp_21 ?_
    refine lv_aload_n hx hb eX10_undo_26.2.2.2.2.2.2.2.2.2.1 rfl (lv_at hl 0 rfl) ?_
    refine va_get (D := (dC, dI)) (ci := 10) (v := .int bT) (C := RX10) (T := TX10) (N := 51) hx hb hts i_X10 hown hK hP 0 rfl rfl 32 (Nat.le_of_ble_eq_true rfl) (hts _ q_684) (fun _ h9 => h9) rfl eX10_undo_26.2.2.2.2.2.2.2.2.2.2.1 ?_
    refine lv_imul hx hb eX10_undo_26.2.2.2.2.2.2.2.2.2.2.2.1 ?_
    refine lv_topi (fun v_2 ev_2 => ?_)
    have hp := hp v_2 ev_2
    refine lv_iload_n hx hb eX10_undo_26.2.2.2.2.2.2.2.2.2.2.2.2.1 rfl (lv_at hl 1 rfl) ?_
    refine lv_iadd hx hb eX10_undo_26.2.2.2.2.2.2.2.2.2.2.2.2.2.1 ?_
    refine lv_topi (fun v_3 ev_3 => ?_)
    have hp := hp v_3 ev_3
    have hin := hp.1
    have hp := hp.2
    refine va_iald hx hb hK hP 2 0 rfl rfl hin eX10_undo_26.2.2.2.2.2.2.2.2.2.2.2.2.2.2.1 ?_
    refine lv_topi (fun v_4 ev_4 => ?_)
    have hp := hp v_4 ev_4
    have hin := hp.1
    have hp := hp.2
    refine va_iast hx hb hK hP hD hS 1 0 rfl rfl hin eX10_undo_26.2.2.2.2.2.2.2.2.2.2.2.2.2.2.2 (fun H locs hP hD hS => ?_)
    have hP : va_P (dC, dI) classes (wd_X10_undo cI cC cZ cB cJ a_m oJ uD dY iJ lJ jQ jR jW jK pJ bM aY jO gR gY mK jZ iY bG mJ jB mQ lY eJ bY bW aG jG bQ dG jY m_length qG uW eY aJ aB bU dN aR aE bJ aW bT gJ dU bL bR bO mY pW (upd rD x1.toNatClampNeg v_4) uQ) H := hP
    have hD : va_D A (wd_X10_undo cI cC cZ cB cJ a_m oJ uD dY iJ lJ jQ jR jW jK pJ bM aY jO gR gY mK jZ iY bG mJ jB mQ lY eJ bY bW aG jG bQ dG jY m_length qG uW eY aJ aB bU dN aR aE bJ aW bT gJ dU bL bR bO mY pW (upd rD x1.toNatClampNeg v_4) uQ) := hD
    obtain ⟨v_5, ev_5⟩ : ∃ y : Int32, y = x1 + 1 := ⟨_, rfl⟩
    refine lv_iinc (v := v_5) (lv' := [(1, .int v_5), (0, .ref a_m)]) hx hb eX10_undo_52.1 hl (k := 1) rfl (by rw [ev_5]; rfl) (by decide) rfl (fun ls hl => ?_)
    have hp := hp v_5 ev_5
    refine lv_goto (tgt := 26) hx hb eX10_undo_52.2.1 (by decide) ?_
    exact hKn v_5 dG bT (upd rD x1.toNatClampNeg v_4) H locs ls hp hP hD hS (lv_sub hl [1, 0] rfl)
set_option maxHeartbeats 4000000 in
set_option maxRecDepth 100000 in
theorem kb_X10_undo_26 (C0 : gc cX10_undo (some .int) 2 RX10 (dC, dI) (tyl cI cC cZ cB cJ) A p s m args meth c) : ∀ (n : Nat), ∀ (x1 dG bT : Int32) (rD : Nat → Int32) (H : Heap) (locs : List Loc) (ls : Array Slot), (wb_X10_undo_26 post uQ n) x1 dG bT rD → va_P (dC, dI) classes (wd_X10_undo cI cC cZ cB cJ a_m oJ uD dY iJ lJ jQ jR jW jK pJ bM aY jO gR gY mK jZ iY bG mJ jB mQ lY eJ bY bW aG jG bQ dG jY m_length qG uW eY aJ aB bU dN aR aE bJ aW bT gJ dU bL bR bO mY pW rD uQ) H → va_D A (wd_X10_undo cI cC cZ cB cJ a_m oJ uD dY iJ lJ jQ jR jW jK pJ bM aY jO gR gY mK jZ iY bG mJ jB mQ lY eJ bY bW aG jG bQ dG jY m_length qG uW eY aJ aB bU dN aR aE bJ aW bT gJ dU bL bR bO mY pW rD uQ) → va_S A s.heap H locs → lv_has ls 2 [(0, .ref a_m), (1, .int x1)] → W p l e rm_X10_undo s m args below meth c H locs 0 0 (MQ below (q_X10_undo dC dI cI cC cZ cB cJ A a_m oJ uD dY iJ lJ jQ jR jW jK pJ bM aY jO gR gY mK jZ iY bG mJ jB mQ lY eJ bY bW aG jG bQ jY m_length qG uW eY aJ aB bU dN aR aE bJ aW gJ dU bL bR bO mY pW uQ post) args s 0 0 A) (F0 m 26 ls []) := by
  intro n
  induction n with
  | zero =>
    intro x1 dG bT rD H locs ls hp
    exact False.elim hp
  | succ n ih =>
    intro x1 dG bT rD H locs ls hp
    exact ks_X10_undo_26 C0 ih x1 dG bT rD H locs ls hp
end S_X10_undo
noncomputable def wp_X10_undo (post : Int32 → Int32 → Int32 → (Nat → Int32) → Prop) (dG bT : Int32) (rD uQ : Nat → Int32) : Prop := (¬ bT = 0 → ∀ v_1 : Int32, v_1 = bT - 1 → ∃ n : Nat, wb_X10_undo_26 post uQ n 0 0 v_1 rD) ∧ (bT = 0 → post (-1) 0 bT rD)
set_option maxHeartbeats 4000000 in
set_option maxRecDepth 100000 in
theorem c_X10_undo (l : Launch) (dC : Nat → ClassId) (dI : Nat → Nat → Nat) (cI cC cZ cB cJ : ClassId) (a_m oJ uD dY iJ lJ jQ jR jW jK pJ bM aY jO gR gY mK jZ iY bG mJ jB mQ lY eJ bY sz : Nat) (bW aG jG bQ dG : Int32) (jY : Nat) (m_length qG uW eY aJ aB bU dN aR aE bJ aW bT gJ dU bL bR bO mY pW : Int32) (rD uQ : Nat → Int32) (post : Int32 → Int32 → Int32 → (Nat → Int32) → Prop) (hw : wp_X10_undo post dG bT rD uQ) : Met l yX10_undo (gw yX10_undo cX10_undo 2 (some .int)) rm_X10_undo (va_Pc [.ref a_m] (gPre (dC, dI) (tyl cI cC cZ cB cJ) (wd_X10_undo cI cC cZ cB cJ a_m oJ uD dY iJ lJ jQ jR jW jK pJ bM aY jO gR gY mK jZ iY bG mJ jB mQ lY eJ bY bW aG jG bQ dG jY m_length qG uW eY aJ aB bU dN aR aE bJ aW bT gJ dU bL bR bO mY pW rD uQ) sz)) (q_X10_undo dC dI cI cC cZ cB cJ (va_A (wd_X10_undo cI cC cZ cB cJ a_m oJ uD dY iJ lJ jQ jR jW jK pJ bM aY jO gR gY mK jZ iY bG mJ jB mQ lY eJ bY bW aG jG bQ dG jY m_length qG uW eY aJ aB bU dN aR aE bJ aW bT gJ dU bL bR bO mY pW rD uQ) sz) a_m oJ uD dY iJ lJ jQ jR jW jK pJ bM aY jO gR gY mK jZ iY bG mJ jB mQ lY eJ bY bW aG jG bQ jY m_length qG uW eY aJ aB bU dN aR aE bJ aW gJ dU bL bR bO mY pW uQ post) 0 0 (va_A (wd_X10_undo cI cC cZ cB cJ a_m oJ uD dY iJ lJ jQ jR jW jK pJ bM aY jO gR gY mK jZ iY bG mJ jB mQ lY eJ bY bW aG jG bQ dG jY m_length qG uW eY aJ aB bU dN aR aE bJ aW bT gJ dU bL bR bO mY pW rD uQ) sz) := by
  refine g_enter (own := RX10) (dC, dI) (tyl cI cC cZ cB cJ) (wd_X10_undo cI cC cZ cB cJ a_m oJ uD dY iJ lJ jQ jR jW jK pJ bM aY jO gR gY mK jZ iY bG mJ jB mQ lY eJ bY bW aG jG bQ dG jY m_length qG uW eY aJ aB bU dN aR aE bJ aW bT gJ dU bL bR bO mY pW rD uQ) sz [.ref a_m] (fun A => q_X10_undo dC dI cI cC cZ cB cJ A a_m oJ uD dY iJ lJ jQ jR jW jK pJ bM aY jO gR gY mK jZ iY bG mJ jB mQ lY eJ bY bW aG jG bQ jY m_length qG uW eY aJ aB bU dN aR aE bJ aW gJ dU bL bR bO mY pW uQ post) pn_RX10 rfl (Nat.le_of_ble_eq_true rfl) ?_
  intro p e s m args below meth c A H locs ls C0 hP hD hS hl
  have hl : lv_has ls 2 [(0, .ref a_m)] := hl
  obtain ⟨hx, hb, hr, hml, hown, hts, hlocks, hA, hK, hN, tL, tM, hZL, hTL, hZM, hTM, hZX⟩ := id C0
  have hp := hw
  unfold wp_X10_undo at hp
  refine lv_aload_n hx hb eX10_undo_0.1 rfl (lv_at hl 0 rfl) ?_
  refine lv_iconst (v := 0) hx hb eX10_undo_0.2.1 ic_0 ?_
  refine va_put (D := (dC, dI)) (ci := 10) (v := .int 0) (ty := .int) (C := RX10) (T := TX10) (N := 51) hx hb hts i_X10 tyX10 tyX10_ok nmX10 hown hK hP hD hS 0 rfl rfl 14 (Nat.le_of_ble_eq_true rfl) (hts _ q_638) (fun _ h9 => h9) rfl (tyX10_ok 14 (Nat.le_of_ble_eq_true rfl)) rfl rfl (Nat.le_of_ble_eq_true rfl) eX10_undo_0.2.2.1 (fun H locs hP hD hS => ?_)
  have hP : va_P (dC, dI) classes (wd_X10_undo cI cC cZ cB cJ a_m oJ uD dY iJ lJ jQ jR jW jK pJ bM aY jO gR gY mK jZ iY bG mJ jB mQ lY eJ bY bW aG jG bQ 0 jY m_length qG uW eY aJ aB bU dN aR aE bJ aW bT gJ dU bL bR bO mY pW rD uQ) H := hP
  have hD : va_D A (wd_X10_undo cI cC cZ cB cJ a_m oJ uD dY iJ lJ jQ jR jW jK pJ bM aY jO gR gY mK jZ iY bG mJ jB mQ lY eJ bY bW aG jG bQ 0 jY m_length qG uW eY aJ aB bU dN aR aE bJ aW bT gJ dU bL bR bO mY pW rD uQ) := hD
  refine lv_aload_n hx hb eX10_undo_0.2.2.2.1 rfl (lv_at hl 0 rfl) ?_
  refine va_get (D := (dC, dI)) (ci := 10) (v := .int bT) (C := RX10) (T := TX10) (N := 51) hx hb hts i_X10 hown hK hP 0 rfl rfl 32 (Nat.le_of_ble_eq_true rfl) (hts _ q_684) (fun _ h9 => h9) rfl eX10_undo_0.2.2.2.2.1 ?_
  refine lv_if_ne (tgt := 14) hx hb eX10_undo_0.2.2.2.2.2.1 (by decide) (fun hc => ?_) (fun hc => ?_)
  · have hp := hp.1 hc
    refine lv_aload_n hx hb eX10_undo_0.2.2.2.2.2.2.2.2.1 rfl (lv_at hl 0 rfl) ?_
    refine lv_dup hx hb eX10_undo_0.2.2.2.2.2.2.2.2.2.1 rfl ?_
    refine va_get (D := (dC, dI)) (ci := 10) (v := .int bT) (C := RX10) (T := TX10) (N := 51) hx hb hts i_X10 hown hK hP 0 rfl rfl 32 (Nat.le_of_ble_eq_true rfl) (hts _ q_684) (fun _ h9 => h9) rfl eX10_undo_0.2.2.2.2.2.2.2.2.2.2.1 ?_
    refine lv_iconst (v := 1) hx hb eX10_undo_0.2.2.2.2.2.2.2.2.2.2.2.1 ic_1 ?_
    refine lv_isub hx hb eX10_undo_0.2.2.2.2.2.2.2.2.2.2.2.2.1 ?_
    refine lv_topi (fun v_1 ev_1 => ?_)
    have hp := hp v_1 ev_1
    refine va_put (D := (dC, dI)) (ci := 10) (v := .int v_1) (ty := .int) (C := RX10) (T := TX10) (N := 51) hx hb hts i_X10 tyX10 tyX10_ok nmX10 hown hK hP hD hS 0 rfl rfl 32 (Nat.le_of_ble_eq_true rfl) (hts _ q_684) (fun _ h9 => h9) rfl (tyX10_ok 32 (Nat.le_of_ble_eq_true rfl)) rfl rfl (Nat.le_of_ble_eq_true rfl) eX10_undo_0.2.2.2.2.2.2.2.2.2.2.2.2.2.1 (fun H locs hP hD hS => ?_)
    have hP : va_P (dC, dI) classes (wd_X10_undo cI cC cZ cB cJ a_m oJ uD dY iJ lJ jQ jR jW jK pJ bM aY jO gR gY mK jZ iY bG mJ jB mQ lY eJ bY bW aG jG bQ 0 jY m_length qG uW eY aJ aB bU dN aR aE bJ aW v_1 gJ dU bL bR bO mY pW rD uQ) H := hP
    have hD : va_D A (wd_X10_undo cI cC cZ cB cJ a_m oJ uD dY iJ lJ jQ jR jW jK pJ bM aY jO gR gY mK jZ iY bG mJ jB mQ lY eJ bY bW aG jG bQ 0 jY m_length qG uW eY aJ aB bU dN aR aE bJ aW v_1 gJ dU bL bR bO mY pW rD uQ) := hD
    refine lv_iconst (v := 0) hx hb eX10_undo_0.2.2.2.2.2.2.2.2.2.2.2.2.2.2.1 ic_0 ?_
    refine lv_istore_n (lv' := [(1, .int 0), (0, .ref a_m)]) hx hb eX10_undo_0.2.2.2.2.2.2.2.2.2.2.2.2.2.2.2 rfl hl (by decide) rfl (fun ls hl => ?_)
    obtain ⟨n9, hp⟩ := hp
    exact kb_X10_undo_26 C0 n9 0 0 v_1 rD H locs ls hp hP hD hS (lv_sub hl [1, 0] rfl)
  · have hp := hp.2 hc
    refine lv_iconst (v := (-1)) hx hb eX10_undo_0.2.2.2.2.2.2.1 ic_m1 ?_
    exact W.iret (v := (-1)) hx hb hr (fun t ht hW => ⟨⟨(-1), (0, bT, rD), rfl, hp, by rw [ht]; exact hP, va_K.moved hW.alike hK, hD⟩, hS.F ht⟩) hS.2.2 eX10_undo_0.2.2.2.2.2.2.2.1
noncomputable abbrev wd_X10_reached (cI cC cZ cB cJ : ClassId) (a_m oJ uD dY iJ lJ jQ jR jW jK pJ bM aY jO gR gY mK jZ iY bG mJ jB mQ lY eJ bY : Nat) (bW aG jG bQ dG : Int32) (jY : Nat) (m_length qG uW eY aJ aB bU dN aR aE bJ aW bT gJ dU bL bR bO mY pW : Int32) (m_x jA oY pR pX uM : Nat → Int32) : va_W := [(a_m, .inr (10, [.ref oJ, .int bW, .ref uD, .ref dY, .ref iJ, .ref lJ, .int aG, .ref jQ, .ref jR, .ref jW, .ref jK, .int jG, .ref pJ, .int bQ, .int dG, rdv jK jO jY, .int m_length, .int qG, .int uW, .int eY, .ref bM, .ref aY, .int aJ, .int aB, .ref jO, .int bU, .int dN, .int aR, .int aE, .int bJ, .int aW, .ref gR, .int bT, .ref gY, .ref mK, .int gJ, .ref jZ, .int dU, .ref iY, .ref bG, .int bL, .int bR, .int bO, .ref mJ, .ref jB, .ref mQ, .int mY, .int pW, .ref lY, .ref eJ, .ref bY])), (uD, .inl (cI, 16, .inl m_x)), (dY, .inl (cI, 16, .inl jA)), (jQ, .inl (cI, 8, .inl oY)), (jR, .inl (cI, 8, .inl pR)), (jW, .inl (cI, 5, .inl pX)), (pJ, .inl (cI, 32, .inl uM))]
noncomputable abbrev q_X10_reached (dC : Nat → ClassId) (dI : Nat → Nat → Nat) (cI cC cZ cB cJ : ClassId) (A : Nat → Prop) (a_m oJ uD dY iJ lJ jQ jR jW jK pJ bM aY jO gR gY mK jZ iY bG mJ jB mQ lY eJ bY : Nat) (bW aG jG : Int32) (jY : Nat) (m_length qG uW eY aJ aB bU dN aR aE bJ aW bT gJ dU bL bR bO mY pW : Int32) (m_x jA oY pR pX : Nat → Int32) (post : Int32 → Int32 → Int32 → (Nat → Int32) → Prop) : Array Value → State → Outcome → State → Prop := va_Qi (fun (r : Int32) (u : Int32 × Int32 × (Nat → Int32)) => post r u.1 u.2.1 u.2.2) (fun u t => gB (dC, dI) (tyl cI cC cZ cB cJ) A (wd_X10_reached cI cC cZ cB cJ a_m oJ uD dY iJ lJ jQ jR jW jK pJ bM aY jO gR gY mK jZ iY bG mJ jB mQ lY eJ bY bW aG jG u.1 u.2.1 jY m_length qG uW eY aJ aB bU dN aR aE bJ aW bT gJ dU bL bR bO mY pW m_x jA oY pR pX u.2.2) t) A
noncomputable abbrev rm_X10_reached : Room := { frames := 4, cells := 0, slots := 0, locals := 91 }
noncomputable def wp_X10_reached (post : Int32 → Int32 → Int32 → (Nat → Int32) → Prop) (p0 bW aG bQ dG : Int32) (m_x jA oY pR pX uM : Nat → Int32) : Prop := wp_X10_isStanding (fun r_1 => (¬ r_1 = 0 → wp_X10_reachedFrom (fun r_2 => wp_X10_tell (fun aAs aEF => wp_X10_reachedFrom (fun r_5 => wp_X10_tell (fun aAV aIt => wp_X10_reachedFrom (fun r_8 => post r_8 aAV 0 aIt) p0 0 0 bW m_x jA oY pR pX) r_5 aAs aEF) p0 1 1 bW m_x jA oY pR pX) r_2 0 uM) p0 1 0 bW m_x jA oY pR pX) ∧ (r_1 = 0 → post (-1) bQ 0 uM)) p0 aG
set_option maxHeartbeats 4000000 in
set_option maxRecDepth 100000 in
theorem c_X10_reached (l : Launch) (dC : Nat → ClassId) (dI : Nat → Nat → Nat) (cI cC cZ cB cJ : ClassId) (a_m oJ uD dY iJ lJ jQ jR jW jK pJ bM aY jO gR gY mK jZ iY bG mJ jB mQ lY eJ bY sz : Nat) (p0 bW aG jG bQ dG : Int32) (jY : Nat) (m_length qG uW eY aJ aB bU dN aR aE bJ aW bT gJ dU bL bR bO mY pW : Int32) (m_x jA oY pR pX uM : Nat → Int32) (post : Int32 → Int32 → Int32 → (Nat → Int32) → Prop) (hw : wp_X10_reached post p0 bW aG bQ dG m_x jA oY pR pX uM) : Met l yX10_reached (gw yX10_reached cX10_reached 2 (some .int)) rm_X10_reached (va_Pc [.ref a_m, .int p0] (gPre (dC, dI) (tyl cI cC cZ cB cJ) (wd_X10_reached cI cC cZ cB cJ a_m oJ uD dY iJ lJ jQ jR jW jK pJ bM aY jO gR gY mK jZ iY bG mJ jB mQ lY eJ bY bW aG jG bQ dG jY m_length qG uW eY aJ aB bU dN aR aE bJ aW bT gJ dU bL bR bO mY pW m_x jA oY pR pX uM) sz)) (q_X10_reached dC dI cI cC cZ cB cJ (va_A (wd_X10_reached cI cC cZ cB cJ a_m oJ uD dY iJ lJ jQ jR jW jK pJ bM aY jO gR gY mK jZ iY bG mJ jB mQ lY eJ bY bW aG jG bQ dG jY m_length qG uW eY aJ aB bU dN aR aE bJ aW bT gJ dU bL bR bO mY pW m_x jA oY pR pX uM) sz) a_m oJ uD dY iJ lJ jQ jR jW jK pJ bM aY jO gR gY mK jZ iY bG mJ jB mQ lY eJ bY bW aG jG jY m_length qG uW eY aJ aB bU dN aR aE bJ aW bT gJ dU bL bR bO mY pW m_x jA oY pR pX post) 0 0 (va_A (wd_X10_reached cI cC cZ cB cJ a_m oJ uD dY iJ lJ jQ jR jW jK pJ bM aY jO gR gY mK jZ iY bG mJ jB mQ lY eJ bY bW aG jG bQ dG jY m_length qG uW eY aJ aB bU dN aR aE bJ aW bT gJ dU bL bR bO mY pW m_x jA oY pR pX uM) sz) := by
  refine g_enter (own := RX10) (dC, dI) (tyl cI cC cZ cB cJ) (wd_X10_reached cI cC cZ cB cJ a_m oJ uD dY iJ lJ jQ jR jW jK pJ bM aY jO gR gY mK jZ iY bG mJ jB mQ lY eJ bY bW aG jG bQ dG jY m_length qG uW eY aJ aB bU dN aR aE bJ aW bT gJ dU bL bR bO mY pW m_x jA oY pR pX uM) sz [.ref a_m, .int p0] (fun A => q_X10_reached dC dI cI cC cZ cB cJ A a_m oJ uD dY iJ lJ jQ jR jW jK pJ bM aY jO gR gY mK jZ iY bG mJ jB mQ lY eJ bY bW aG jG jY m_length qG uW eY aJ aB bU dN aR aE bJ aW bT gJ dU bL bR bO mY pW m_x jA oY pR pX post) pn_RX10 rfl (Nat.le_of_ble_eq_true rfl) ?_
  intro p e s m args below meth c A H locs ls C0 hP hD hS hl
  have hl : lv_has ls 2 [(0, .ref a_m), (1, .int p0)] := hl
  obtain ⟨hx, hb, hr, hml, hown, hts, hlocks, hA, hK, hN, tL, tM, hZL, hTL, hZM, hTM, hZX⟩ := id C0
  have hp := hw
  unfold wp_X10_reached at hp
  refine lv_aload_n hx hb eX10_reached_0.1 rfl (lv_at hl 0 rfl) ?_
  refine lv_iconst (v := 0) hx hb eX10_reached_0.2.1 ic_0 ?_
  refine va_put (D := (dC, dI)) (ci := 10) (v := .int 0) (ty := .int) (C := RX10) (T := TX10) (N := 51) hx hb hts i_X10 tyX10 tyX10_ok nmX10 hown hK hP hD hS 0 rfl rfl 14 (Nat.le_of_ble_eq_true rfl) (hts _ q_638) (fun _ h9 => h9) rfl (tyX10_ok 14 (Nat.le_of_ble_eq_true rfl)) rfl rfl (Nat.le_of_ble_eq_true rfl) eX10_reached_0.2.2.1 (fun H locs hP hD hS => ?_)
  have hP : va_P (dC, dI) classes (wd_X10_reached cI cC cZ cB cJ a_m oJ uD dY iJ lJ jQ jR jW jK pJ bM aY jO gR gY mK jZ iY bG mJ jB mQ lY eJ bY bW aG jG bQ 0 jY m_length qG uW eY aJ aB bU dN aR aE bJ aW bT gJ dU bL bR bO mY pW m_x jA oY pR pX uM) H := hP
  have hD : va_D A (wd_X10_reached cI cC cZ cB cJ a_m oJ uD dY iJ lJ jQ jR jW jK pJ bM aY jO gR gY mK jZ iY bG mJ jB mQ lY eJ bY bW aG jG bQ 0 jY m_length qG uW eY aJ aB bU dN aR aE bJ aW bT gJ dU bL bR bO mY pW m_x jA oY pR pX uM) := hD
  refine lv_aload_n hx hb eX10_reached_0.2.2.2.1 rfl (lv_at hl 0 rfl) ?_
  refine lv_iload_n hx hb eX10_reached_0.2.2.2.2.1 rfl (lv_at hl 1 rfl) ?_
  have hm := mgk (wc := (wd_X10_isStanding cI cC cZ cB cJ a_m oJ uD dY iJ lJ jQ jR jW jK pJ bM aY jO gR gY mK jZ iY bG mJ jB mQ lY eJ bY bW aG jG bQ 0 jY m_length qG uW eY aJ aB bU dN aR aE bJ aW bT gJ dU bL bR bO mY pW)) hP aCk 7 rfl rfl rfl
  refine g_calli hP hD hS hA (mixT aCk) (mixF aCk) hm.1 hm.2 (nd_F _) (dis_g _) (g_runV (As := [.int p0]) (rest := []) C0 hP hD hS (mixT aCk) hm.1 (nd_T _) 0 10 rfl rfl (c_X10_isStanding l dC dI cI cC cZ cB cJ a_m oJ uD dY iJ lJ jQ jR jW jK pJ bM aY jO gR gY mK jZ iY bG mJ jB mQ lY eJ bY H.size p0 bW aG jG bQ 0 jY m_length qG uW eY aJ aB bU dN aR aE bJ aW bT gJ dU bL bR bO mY pW _ hp) q_757 q_760 q_758 q_759 q_642 h_X10_isStanding rfl rfl ⟨Nat.le_of_ble_eq_true rfl, Nat.le_of_ble_eq_true rfl⟩ rfl rfl hl.1 rfl (lv_room (Nat.le_of_ble_eq_true rfl)) eX10_reached_0.2.2.2.2.2.1 ⟨Nat.zero_le _, Nat.zero_le _⟩) (fun r_1 u H locs hp hP hD hS => ?_)
  have hPD := PDm (ws' := (wd_X10_reached cI cC cZ cB cJ a_m oJ uD dY iJ lJ jQ jR jW jK pJ bM aY jO gR gY mK jZ iY bG mJ jB mQ lY eJ bY bW aG jG bQ 0 jY m_length qG uW eY aJ aB bU dN aR aE bJ aW bT gJ dU bL bR bO mY pW m_x jA oY pR pX uM)) hP hD 7 rfl rfl rfl
  have hP := hPD.1
  have hD := hPD.2
  refine lv_if_ne (tgt := 15) hx hb eX10_reached_0.2.2.2.2.2.2.1 (by decide) (fun hc => ?_) (fun hc => ?_)
  · have hp := hp.1 hc
    refine lv_aload_n hx hb eX10_reached_0.2.2.2.2.2.2.2.2.2.1 rfl (lv_at hl 0 rfl) ?_
    refine lv_iconst (v := 0) hx hb eX10_reached_0.2.2.2.2.2.2.2.2.2.2.1 ic_0 ?_
    refine va_put (D := (dC, dI)) (ci := 10) (v := .int 0) (ty := .int) (C := RX10) (T := TX10) (N := 51) hx hb hts i_X10 tyX10 tyX10_ok nmX10 hown hK hP hD hS 0 rfl rfl 13 (Nat.le_of_ble_eq_true rfl) (hts _ q_847) (fun _ h9 => h9) rfl (tyX10_ok 13 (Nat.le_of_ble_eq_true rfl)) rfl rfl (Nat.le_of_ble_eq_true rfl) eX10_reached_0.2.2.2.2.2.2.2.2.2.2.2.1 (fun H locs hP hD hS => ?_)
    have hP : va_P (dC, dI) classes (wd_X10_reached cI cC cZ cB cJ a_m oJ uD dY iJ lJ jQ jR jW jK pJ bM aY jO gR gY mK jZ iY bG mJ jB mQ lY eJ bY bW aG jG 0 0 jY m_length qG uW eY aJ aB bU dN aR aE bJ aW bT gJ dU bL bR bO mY pW m_x jA oY pR pX uM) H := hP
    have hD : va_D A (wd_X10_reached cI cC cZ cB cJ a_m oJ uD dY iJ lJ jQ jR jW jK pJ bM aY jO gR gY mK jZ iY bG mJ jB mQ lY eJ bY bW aG jG 0 0 jY m_length qG uW eY aJ aB bU dN aR aE bJ aW bT gJ dU bL bR bO mY pW m_x jA oY pR pX uM) := hD
    refine lv_aload_n hx hb eX10_reached_0.2.2.2.2.2.2.2.2.2.2.2.2.1 rfl (lv_at hl 0 rfl) ?_
    refine lv_aload_n hx hb eX10_reached_0.2.2.2.2.2.2.2.2.2.2.2.2.2.1 rfl (lv_at hl 0 rfl) ?_
    refine lv_iload_n hx hb eX10_reached_0.2.2.2.2.2.2.2.2.2.2.2.2.2.2.1 rfl (lv_at hl 1 rfl) ?_
    refine lv_iconst (v := 1) hx hb eX10_reached_0.2.2.2.2.2.2.2.2.2.2.2.2.2.2.2 ic_1 ?_
    refine lv_iconst (v := 0) hx hb eX10_reached_24.1 ic_0 ?_
    have hm := mgk (wc := (wd_X10_reachedFrom cI cC cZ cB cJ a_m oJ uD dY iJ lJ jQ jR jW jK pJ bM aY jO gR gY mK jZ iY bG mJ jB mQ lY eJ bY bW aG jG 0 0 jY m_length qG uW eY aJ aB bU dN aR aE bJ aW bT gJ dU bL bR bO mY pW m_x jA oY pR pX)) hP aEm 7 rfl rfl rfl
    refine g_calli hP hD hS hA (mixT aEm) (mixF aEm) hm.1 hm.2 (nd_F _) (dis_g _) (g_runV (As := [.int p0, .int 1, .int 0]) (rest := [.ref a_m]) C0 hP hD hS (mixT aEm) hm.1 (nd_T _) 0 10 rfl rfl (c_X10_reachedFrom l dC dI cI cC cZ cB cJ a_m oJ uD dY iJ lJ jQ jR jW jK pJ bM aY jO gR gY mK jZ iY bG mJ jB mQ lY eJ bY H.size p0 1 0 bW aG jG 0 0 jY m_length qG uW eY aJ aB bU dN aR aE bJ aW bT gJ dU bL bR bO mY pW m_x jA oY pR pX _ hp) q_824 q_827 q_825 q_826 q_642 h_X10_reachedFrom rfl rfl ⟨Nat.le_of_ble_eq_true rfl, Nat.le_of_ble_eq_true rfl⟩ rfl rfl hl.1 rfl (lv_room (Nat.le_of_ble_eq_true rfl)) eX10_reached_24.2.1 ⟨Nat.zero_le _, Nat.zero_le _⟩) (fun r_2 u H locs hp hP hD hS => ?_)
    have hPD := PDm (ws' := (wd_X10_reached cI cC cZ cB cJ a_m oJ uD dY iJ lJ jQ jR jW jK pJ bM aY jO gR gY mK jZ iY bG mJ jB mQ lY eJ bY bW aG jG 0 0 jY m_length qG uW eY aJ aB bU dN aR aE bJ aW bT gJ dU bL bR bO mY pW m_x jA oY pR pX uM)) hP hD 7 rfl rfl rfl
    have hP := hPD.1
    have hD := hPD.2
    have hm := mgk (wc := (wd_X10_tell cI cC cZ cB cJ a_m oJ uD dY iJ lJ jQ jR jW jK pJ bM aY jO gR gY mK jZ iY bG mJ jB mQ lY eJ bY bW aG jG 0 0 jY m_length qG uW eY aJ aB bU dN aR aE bJ aW bT gJ dU bL bR bO mY pW uM)) hP mk_242 7 rfl rfl rfl
    refine g_callv hP hD hS hA (mixT mk_242) (mixF mk_242) hm.1 hm.2 (nd_F _) (dis_g _) (g_runV (As := [.int r_2]) (rest := []) C0 hP hD hS (mixT mk_242) hm.1 (nd_T _) 0 10 rfl rfl (c_X10_tell l dC dI cI cC cZ cB cJ a_m oJ uD dY iJ lJ jQ jR jW jK pJ bM aY jO gR gY mK jZ iY bG mJ jB mQ lY eJ bY H.size r_2 bW aG jG 0 0 jY m_length qG uW eY aJ aB bU dN aR aE bJ aW bT gJ dU bL bR bO mY pW uM _ hp) q_849 q_852 q_850 q_851 q_642 h_X10_tell rfl rfl ⟨Nat.le_of_ble_eq_true rfl, Nat.le_of_ble_eq_true rfl⟩ rfl rfl hl.1 rfl (lv_room (Nat.le_of_ble_eq_true rfl)) eX10_reached_24.2.2.1 ⟨Nat.zero_le _, Nat.zero_le _⟩) (fun u H locs hp hP hD hS => ?_)
    obtain ⟨aAs, aEF⟩ := u
    have hPD := PDm (ws' := (wd_X10_reached cI cC cZ cB cJ a_m oJ uD dY iJ lJ jQ jR jW jK pJ bM aY jO gR gY mK jZ iY bG mJ jB mQ lY eJ bY bW aG jG aAs 0 jY m_length qG uW eY aJ aB bU dN aR aE bJ aW bT gJ dU bL bR bO mY pW m_x jA oY pR pX aEF)) hP hD 7 rfl rfl rfl
    have hP := hPD.1
    have hD := hPD.2
    refine lv_aload_n hx hb eX10_reached_24.2.2.2.1 rfl (lv_at hl 0 rfl) ?_
    refine lv_aload_n hx hb eX10_reached_24.2.2.2.2.1 rfl (lv_at hl 0 rfl) ?_
    refine lv_iload_n hx hb eX10_reached_24.2.2.2.2.2.1 rfl (lv_at hl 1 rfl) ?_
    refine lv_iconst (v := 1) hx hb eX10_reached_24.2.2.2.2.2.2.1 ic_1 ?_
    refine lv_iconst (v := 1) hx hb eX10_reached_24.2.2.2.2.2.2.2.1 ic_1 ?_
    have hm := mgk (wc := (wd_X10_reachedFrom cI cC cZ cB cJ a_m oJ uD dY iJ lJ jQ jR jW jK pJ bM aY jO gR gY mK jZ iY bG mJ jB mQ lY eJ bY bW aG jG aAs 0 jY m_length qG uW eY aJ aB bU dN aR aE bJ aW bT gJ dU bL bR bO mY pW m_x jA oY pR pX)) hP aEm 7 rfl rfl rfl
    refine g_calli hP hD hS hA (mixT aEm) (mixF aEm) hm.1 hm.2 (nd_F _) (dis_g _) (g_runV (As := [.int p0, .int 1, .int 1]) (rest := [.ref a_m]) C0 hP hD hS (mixT aEm) hm.1 (nd_T _) 0 10 rfl rfl (c_X10_reachedFrom l dC dI cI cC cZ cB cJ a_m oJ uD dY iJ lJ jQ jR jW jK pJ bM aY jO gR gY mK jZ iY bG mJ jB mQ lY eJ bY H.size p0 1 1 bW aG jG aAs 0 jY m_length qG uW eY aJ aB bU dN aR aE bJ aW bT gJ dU bL bR bO mY pW m_x jA oY pR pX _ hp) q_824 q_827 q_825 q_826 q_642 h_X10_reachedFrom rfl rfl ⟨Nat.le_of_ble_eq_true rfl, Nat.le_of_ble_eq_true rfl⟩ rfl rfl hl.1 rfl (lv_room (Nat.le_of_ble_eq_true rfl)) eX10_reached_24.2.2.2.2.2.2.2.2.1 ⟨Nat.zero_le _, Nat.zero_le _⟩) (fun r_5 u H locs hp hP hD hS => ?_)
    have hPD := PDm (ws' := (wd_X10_reached cI cC cZ cB cJ a_m oJ uD dY iJ lJ jQ jR jW jK pJ bM aY jO gR gY mK jZ iY bG mJ jB mQ lY eJ bY bW aG jG aAs 0 jY m_length qG uW eY aJ aB bU dN aR aE bJ aW bT gJ dU bL bR bO mY pW m_x jA oY pR pX aEF)) hP hD 7 rfl rfl rfl
    have hP := hPD.1
    have hD := hPD.2
    have hm := mgk (wc := (wd_X10_tell cI cC cZ cB cJ a_m oJ uD dY iJ lJ jQ jR jW jK pJ bM aY jO gR gY mK jZ iY bG mJ jB mQ lY eJ bY bW aG jG aAs 0 jY m_length qG uW eY aJ aB bU dN aR aE bJ aW bT gJ dU bL bR bO mY pW aEF)) hP mk_242 7 rfl rfl rfl
    refine g_callv hP hD hS hA (mixT mk_242) (mixF mk_242) hm.1 hm.2 (nd_F _) (dis_g _) (g_runV (As := [.int r_5]) (rest := []) C0 hP hD hS (mixT mk_242) hm.1 (nd_T _) 0 10 rfl rfl (c_X10_tell l dC dI cI cC cZ cB cJ a_m oJ uD dY iJ lJ jQ jR jW jK pJ bM aY jO gR gY mK jZ iY bG mJ jB mQ lY eJ bY H.size r_5 bW aG jG aAs 0 jY m_length qG uW eY aJ aB bU dN aR aE bJ aW bT gJ dU bL bR bO mY pW aEF _ hp) q_849 q_852 q_850 q_851 q_642 h_X10_tell rfl rfl ⟨Nat.le_of_ble_eq_true rfl, Nat.le_of_ble_eq_true rfl⟩ rfl rfl hl.1 rfl (lv_room (Nat.le_of_ble_eq_true rfl)) eX10_reached_24.2.2.2.2.2.2.2.2.2.1 ⟨Nat.zero_le _, Nat.zero_le _⟩) (fun u H locs hp hP hD hS => ?_)
    obtain ⟨aAV, aIt⟩ := u
    have hPD := PDm (ws' := (wd_X10_reached cI cC cZ cB cJ a_m oJ uD dY iJ lJ jQ jR jW jK pJ bM aY jO gR gY mK jZ iY bG mJ jB mQ lY eJ bY bW aG jG aAV 0 jY m_length qG uW eY aJ aB bU dN aR aE bJ aW bT gJ dU bL bR bO mY pW m_x jA oY pR pX aIt)) hP hD 7 rfl rfl rfl
    have hP := hPD.1
    have hD := hPD.2
    refine lv_aload_n hx hb eX10_reached_24.2.2.2.2.2.2.2.2.2.2.1 rfl (lv_at hl 0 rfl) ?_
    refine lv_iload_n hx hb eX10_reached_24.2.2.2.2.2.2.2.2.2.2.2.1 rfl (lv_at hl 1 rfl) ?_
    refine lv_iconst (v := 0) hx hb eX10_reached_24.2.2.2.2.2.2.2.2.2.2.2.2.1 ic_0 ?_
    refine lv_iconst (v := 0) hx hb eX10_reached_24.2.2.2.2.2.2.2.2.2.2.2.2.2.1 ic_0 ?_
    have hm := mgk (wc := (wd_X10_reachedFrom cI cC cZ cB cJ a_m oJ uD dY iJ lJ jQ jR jW jK pJ bM aY jO gR gY mK jZ iY bG mJ jB mQ lY eJ bY bW aG jG aAV 0 jY m_length qG uW eY aJ aB bU dN aR aE bJ aW bT gJ dU bL bR bO mY pW m_x jA oY pR pX)) hP aEm 7 rfl rfl rfl
    refine g_calli hP hD hS hA (mixT aEm) (mixF aEm) hm.1 hm.2 (nd_F _) (dis_g _) (g_runV (As := [.int p0, .int 0, .int 0]) (rest := []) C0 hP hD hS (mixT aEm) hm.1 (nd_T _) 0 10 rfl rfl (c_X10_reachedFrom l dC dI cI cC cZ cB cJ a_m oJ uD dY iJ lJ jQ jR jW jK pJ bM aY jO gR gY mK jZ iY bG mJ jB mQ lY eJ bY H.size p0 0 0 bW aG jG aAV 0 jY m_length qG uW eY aJ aB bU dN aR aE bJ aW bT gJ dU bL bR bO mY pW m_x jA oY pR pX _ hp) q_824 q_827 q_825 q_826 q_642 h_X10_reachedFrom rfl rfl ⟨Nat.le_of_ble_eq_true rfl, Nat.le_of_ble_eq_true rfl⟩ rfl rfl hl.1 rfl (lv_room (Nat.le_of_ble_eq_true rfl)) eX10_reached_24.2.2.2.2.2.2.2.2.2.2.2.2.2.2.1 ⟨Nat.zero_le _, Nat.zero_le _⟩) (fun r_8 u H locs hp hP hD hS => ?_)
    have hPD := PDm (ws' := (wd_X10_reached cI cC cZ cB cJ a_m oJ uD dY iJ lJ jQ jR jW jK pJ bM aY jO gR gY mK jZ iY bG mJ jB mQ lY eJ bY bW aG jG aAV 0 jY m_length qG uW eY aJ aB bU dN aR aE bJ aW bT gJ dU bL bR bO mY pW m_x jA oY pR pX aIt)) hP hD 7 rfl rfl rfl
    have hP := hPD.1
    have hD := hPD.2
    exact W.iret (v := r_8) hx hb hr (fun t ht hW => ⟨⟨r_8, (aAV, 0, aIt), rfl, hp, by rw [ht]; exact hP, va_K.moved hW.alike hK, hD⟩, hS.F ht⟩) hS.2.2 eX10_reached_24.2.2.2.2.2.2.2.2.2.2.2.2.2.2.2
  · have hp := hp.2 hc
    refine lv_iconst (v := (-1)) hx hb eX10_reached_0.2.2.2.2.2.2.2.1 ic_m1 ?_
    exact W.iret (v := (-1)) hx hb hr (fun t ht hW => ⟨⟨(-1), (bQ, 0, uM), rfl, hp, by rw [ht]; exact hP, va_K.moved hW.alike hK, hD⟩, hS.F ht⟩) hS.2.2 eX10_reached_0.2.2.2.2.2.2.2.2.1
noncomputable abbrev wd_X10_from (cI cC cZ cB cJ : ClassId) (a_m oJ uD dY iJ lJ jQ jR jW jK pJ bM aY jO gR gY mK jZ iY bG mJ jB mQ lY eJ bY : Nat) (bW aG jG bQ dG : Int32) (jY : Nat) (m_length qG uW eY aJ aB bU dN aR aE bJ aW bT gJ dU bL bR bO mY pW : Int32) (rD m_x jA oY pR pX : Nat → Int32) : va_W := [(a_m, .inr (10, [.ref oJ, .int bW, .ref uD, .ref dY, .ref iJ, .ref lJ, .int aG, .ref jQ, .ref jR, .ref jW, .ref jK, .int jG, .ref pJ, .int bQ, .int dG, rdv jK jO jY, .int m_length, .int qG, .int uW, .int eY, .ref bM, .ref aY, .int aJ, .int aB, .ref jO, .int bU, .int dN, .int aR, .int aE, .int bJ, .int aW, .ref gR, .int bT, .ref gY, .ref mK, .int gJ, .ref jZ, .int dU, .ref iY, .ref bG, .int bL, .int bR, .int bO, .ref mJ, .ref jB, .ref mQ, .int mY, .int pW, .ref lY, .ref eJ, .ref bY])), (oJ, .inl (cI, 21, .inl rD)), (uD, .inl (cI, 16, .inl m_x)), (dY, .inl (cI, 16, .inl jA)), (jQ, .inl (cI, 8, .inl oY)), (jR, .inl (cI, 8, .inl pR)), (jW, .inl (cI, 5, .inl pX))]
noncomputable abbrev q_X10_from (dC : Nat → ClassId) (dI : Nat → Nat → Nat) (cI cC cZ cB cJ : ClassId) (A : Nat → Prop) (a_m oJ uD dY iJ lJ jQ jR jW jK pJ bM aY jO gR gY mK jZ iY bG mJ jB mQ lY eJ bY : Nat) (bW aG jG bQ : Int32) (jY : Nat) (m_length qG uW eY aJ aB bU dN aR aE bJ aW bT gJ dU bL bR bO mY pW : Int32) (rD m_x jA oY pR pX : Nat → Int32) (post : Int32 → Int32 → Prop) : Array Value → State → Outcome → State → Prop := va_Qi (fun (r u : Int32) => post r u) (fun u t => gB (dC, dI) (tyl cI cC cZ cB cJ) A (wd_X10_from cI cC cZ cB cJ a_m oJ uD dY iJ lJ jQ jR jW jK pJ bM aY jO gR gY mK jZ iY bG mJ jB mQ lY eJ bY bW aG jG bQ u jY m_length qG uW eY aJ aB bU dN aR aE bJ aW bT gJ dU bL bR bO mY pW rD m_x jA oY pR pX) t) A
noncomputable abbrev rm_X10_from : Room := { frames := 3, cells := 0, slots := 0, locals := 66 }
section S_X10_from
variable {p : Program} {l : Launch} {e : Env} {s : State} {m : MethodId} {args : Array Value} {below : List Frame} {meth : Method} {c : Code} {dC : Nat → ClassId} {dI : Nat → Nat → Nat} {cI cC cZ cB cJ : ClassId} {A : Nat → Prop} {a_m oJ uD dY iJ lJ jQ jR jW jK pJ bM aY jO gR gY mK jZ iY bG mJ jB mQ lY eJ bY : Nat} {bW aG jG bQ : Int32} {jY : Nat} {m_length qG uW eY aJ aB bU dN aR aE bJ aW bT gJ dU bL bR bO mY pW : Int32} {rD m_x jA oY pR pX : Nat → Int32} {post : Int32 → Int32 → Prop}
noncomputable def ws_X10_from_69 (post : Int32 → Int32 → Prop) (K29 : Int32 → Int32 → Int32 → Int32 → Int32 → Prop) (bW aG : Int32) (rD m_x jA oY pR pX : Nat → Int32) (x1 x2 x4 k0 k1 dG : Int32) : Prop := ∀ v_6 : Int32, v_6 = k0 ||| k1 → ∀ v_7 : Int32, v_7 = x4 + 1 → K29 x1 x2 v_6 v_7 dG
set_option maxHeartbeats 4000000 in
set_option maxRecDepth 100000 in
theorem ks_X10_from_69 (C0 : gc cX10_from (some .int) 5 RX10 (dC, dI) (tyl cI cC cZ cB cJ) A p s m args meth c) {K29 : Int32 → Int32 → Int32 → Int32 → Int32 → Prop} (hK29 : ∀ (x1 : Int32) (x2 : Int32) (x3 : Int32) (x4 : Int32) (dG : Int32) (H : Heap) (locs : List Loc) (ls : Array Slot), K29 x1 x2 x3 x4 dG → va_P (dC, dI) classes (wd_X10_from cI cC cZ cB cJ a_m oJ uD dY iJ lJ jQ jR jW jK pJ bM aY jO gR gY mK jZ iY bG mJ jB mQ lY eJ bY bW aG jG bQ dG jY m_length qG uW eY aJ aB bU dN aR aE bJ aW bT gJ dU bL bR bO mY pW rD m_x jA oY pR pX) H → va_D A (wd_X10_from cI cC cZ cB cJ a_m oJ uD dY iJ lJ jQ jR jW jK pJ bM aY jO gR gY mK jZ iY bG mJ jB mQ lY eJ bY bW aG jG bQ dG jY m_length qG uW eY aJ aB bU dN aR aE bJ aW bT gJ dU bL bR bO mY pW rD m_x jA oY pR pX) → va_S A s.heap H locs → lv_has ls 5 [(0, .ref a_m), (1, .int x1), (2, .int x2), (3, .int x3), (4, .int x4)] → W p l e rm_X10_from s m args below meth c H locs 0 0 (MQ below (q_X10_from dC dI cI cC cZ cB cJ A a_m oJ uD dY iJ lJ jQ jR jW jK pJ bM aY jO gR gY mK jZ iY bG mJ jB mQ lY eJ bY bW aG jG bQ jY m_length qG uW eY aJ aB bU dN aR aE bJ aW bT gJ dU bL bR bO mY pW rD m_x jA oY pR pX post) args s 0 0 A) (F0 m 29 ls [])) : ∀ (x1 x2 x4 k0 k1 dG : Int32) (H : Heap) (locs : List Loc) (ls : Array Slot), (ws_X10_from_69 post K29 bW aG rD m_x jA oY pR pX) x1 x2 x4 k0 k1 dG → va_P (dC, dI) classes (wd_X10_from cI cC cZ cB cJ a_m oJ uD dY iJ lJ jQ jR jW jK pJ bM aY jO gR gY mK jZ iY bG mJ jB mQ lY eJ bY bW aG jG bQ dG jY m_length qG uW eY aJ aB bU dN aR aE bJ aW bT gJ dU bL bR bO mY pW rD m_x jA oY pR pX) H → va_D A (wd_X10_from cI cC cZ cB cJ a_m oJ uD dY iJ lJ jQ jR jW jK pJ bM aY jO gR gY mK jZ iY bG mJ jB mQ lY eJ bY bW aG jG bQ dG jY m_length qG uW eY aJ aB bU dN aR aE bJ aW bT gJ dU bL bR bO mY pW rD m_x jA oY pR pX) → va_S A s.heap H locs → lv_has ls 5 [(0, .ref a_m), (1, .int x1), (2, .int x2), (4, .int x4)] → W p l e rm_X10_from s m args below meth c H locs 0 0 (MQ below (q_X10_from dC dI cI cC cZ cB cJ A a_m oJ uD dY iJ lJ jQ jR jW jK pJ bM aY jO gR gY mK jZ iY bG mJ jB mQ lY eJ bY bW aG jG bQ jY m_length qG uW eY aJ aB bU dN aR aE bJ aW bT gJ dU bL bR bO mY pW rD m_x jA oY pR pX post) args s 0 0 A) (F0 m 69 ls [.int k1, .int k0]) := by
  obtain ⟨hx, hb, hr, hml, hown, hts, hlocks, hA, hK, hN, tL, tM, hZL, hTL, hZM, hTM, hZX⟩ := id C0
  intro x1 x2 x4 k0 k1 dG H locs ls hp hP hD hS hl
  unfold ws_X10_from_69 at hp
  refine lv_ior hx hb eX10_from_52.2.2.2.2.2.2.2.2.1 ?_
  refine lv_topi (fun v_6 ev_6 => ?_)
  have hp := hp v_6 ev_6
  refine lv_istore_n (lv' := [(3, .int v_6), (0, .ref a_m), (1, .int x1), (2, .int x2), (4, .int x4)]) hx hb eX10_from_52.2.2.2.2.2.2.2.2.2.1 rfl hl (by decide) rfl (fun ls hl => ?_)
  obtain ⟨v_7, ev_7⟩ : ∃ y : Int32, y = x4 + 1 := ⟨_, rfl⟩
  refine lv_iinc (v := v_7) (lv' := [(4, .int v_7), (3, .int v_6), (0, .ref a_m), (1, .int x1), (2, .int x2)]) hx hb eX10_from_52.2.2.2.2.2.2.2.2.2.2.1 hl (k := 4) rfl (by rw [ev_7]; rfl) (by decide) rfl (fun ls hl => ?_)
  have hp := hp v_7 ev_7
  refine lv_goto (tgt := 29) hx hb eX10_from_52.2.2.2.2.2.2.2.2.2.2.2.1 (by decide) ?_
  exact hK29 x1 x2 v_6 v_7 dG H locs ls hp hP hD hS (lv_sub hl [2, 3, 4, 1, 0] rfl)
noncomputable def ws_X10_from_29 (post : Int32 → Int32 → Prop) (next : Int32 → Int32 → Int32 → Int32 → Int32 → Prop) (bW aG : Int32) (rD m_x jA oY pR pX : Nat → Int32) (x1 x2 x3 x4 dG : Int32) : Prop := (aG ≤ x4 → post x3 dG) ∧ (¬ aG ≤ x4 → ∀ v_3 : Int32, v_3 = rD (18 : Int32).toNatClampNeg → wp_X10_reachBy (fun r_4 => wp_X10_isWithin (fun r_5 => (r_5 = 0 → ws_X10_from_69 post next bW aG rD m_x jA oY pR pX x1 x2 x4 x3 0 dG) ∧ (¬ r_5 = 0 → ∀ v_8 : Int32, v_8 = 1 <<< (x4 &&& 31) → ws_X10_from_69 post next bW aG rD m_x jA oY pR pX x1 x2 x4 x3 v_8 dG)) x1 x4 r_4 m_x jA oY pR) v_3 x2 pX)
noncomputable def wb_X10_from_29 (post : Int32 → Int32 → Prop) (bW aG : Int32) (rD m_x jA oY pR pX : Nat → Int32) : Nat → Int32 → Int32 → Int32 → Int32 → Int32 → Prop := fun n => Nat.rec (motive := fun _ => Int32 → Int32 → Int32 → Int32 → Int32 → Prop) (fun _ _ _ _ _ => False) (fun _ ih => ws_X10_from_29 post ih bW aG rD m_x jA oY pR pX) n
set_option maxHeartbeats 4000000 in
set_option maxRecDepth 100000 in
theorem ks_X10_from_29 (C0 : gc cX10_from (some .int) 5 RX10 (dC, dI) (tyl cI cC cZ cB cJ) A p s m args meth c) {next : Int32 → Int32 → Int32 → Int32 → Int32 → Prop} (hKn : ∀ (x1 : Int32) (x2 : Int32) (x3 : Int32) (x4 : Int32) (dG : Int32) (H : Heap) (locs : List Loc) (ls : Array Slot), next x1 x2 x3 x4 dG → va_P (dC, dI) classes (wd_X10_from cI cC cZ cB cJ a_m oJ uD dY iJ lJ jQ jR jW jK pJ bM aY jO gR gY mK jZ iY bG mJ jB mQ lY eJ bY bW aG jG bQ dG jY m_length qG uW eY aJ aB bU dN aR aE bJ aW bT gJ dU bL bR bO mY pW rD m_x jA oY pR pX) H → va_D A (wd_X10_from cI cC cZ cB cJ a_m oJ uD dY iJ lJ jQ jR jW jK pJ bM aY jO gR gY mK jZ iY bG mJ jB mQ lY eJ bY bW aG jG bQ dG jY m_length qG uW eY aJ aB bU dN aR aE bJ aW bT gJ dU bL bR bO mY pW rD m_x jA oY pR pX) → va_S A s.heap H locs → lv_has ls 5 [(0, .ref a_m), (1, .int x1), (2, .int x2), (3, .int x3), (4, .int x4)] → W p l e rm_X10_from s m args below meth c H locs 0 0 (MQ below (q_X10_from dC dI cI cC cZ cB cJ A a_m oJ uD dY iJ lJ jQ jR jW jK pJ bM aY jO gR gY mK jZ iY bG mJ jB mQ lY eJ bY bW aG jG bQ jY m_length qG uW eY aJ aB bU dN aR aE bJ aW bT gJ dU bL bR bO mY pW rD m_x jA oY pR pX post) args s 0 0 A) (F0 m 29 ls [])) : ∀ (x1 x2 x3 x4 dG : Int32) (H : Heap) (locs : List Loc) (ls : Array Slot), (ws_X10_from_29 post next bW aG rD m_x jA oY pR pX) x1 x2 x3 x4 dG → va_P (dC, dI) classes (wd_X10_from cI cC cZ cB cJ a_m oJ uD dY iJ lJ jQ jR jW jK pJ bM aY jO gR gY mK jZ iY bG mJ jB mQ lY eJ bY bW aG jG bQ dG jY m_length qG uW eY aJ aB bU dN aR aE bJ aW bT gJ dU bL bR bO mY pW rD m_x jA oY pR pX) H → va_D A (wd_X10_from cI cC cZ cB cJ a_m oJ uD dY iJ lJ jQ jR jW jK pJ bM aY jO gR gY mK jZ iY bG mJ jB mQ lY eJ bY bW aG jG bQ dG jY m_length qG uW eY aJ aB bU dN aR aE bJ aW bT gJ dU bL bR bO mY pW rD m_x jA oY pR pX) → va_S A s.heap H locs → lv_has ls 5 [(0, .ref a_m), (1, .int x1), (2, .int x2), (3, .int x3), (4, .int x4)] → W p l e rm_X10_from s m args below meth c H locs 0 0 (MQ below (q_X10_from dC dI cI cC cZ cB cJ A a_m oJ uD dY iJ lJ jQ jR jW jK pJ bM aY jO gR gY mK jZ iY bG mJ jB mQ lY eJ bY bW aG jG bQ jY m_length qG uW eY aJ aB bU dN aR aE bJ aW bT gJ dU bL bR bO mY pW rD m_x jA oY pR pX post) args s 0 0 A) (F0 m 29 ls []) := by
  obtain ⟨hx, hb, hr, hml, hown, hts, hlocks, hA, hK, hN, tL, tM, hZL, hTL, hZM, hTM, hZX⟩ := id C0
  intro x1 x2 x3 x4 dG H locs ls hp hP hD hS hl
  unfold ws_X10_from_29 at hp
  refine lv_iload hx hb eX10_from_26.2.2.1 (lv_at hl 4 rfl) ?_
  refine lv_aload_n hx hb eX10_from_26.2.2.2.1 rfl (lv_at hl 0 rfl) ?_
  refine va_get (D := (dC, dI)) (ci := 10) (v := .int aG) (C := RX10) (T := TX10) (N := 51) hx hb hts i_X10 hown hK hP 0 rfl rfl 6 (Nat.le_of_ble_eq_true rfl) (hts _ q_666) (fun _ h9 => h9) rfl eX10_from_26.2.2.2.2.1 ?_
  refine lv_icmp_ge (tgt := 77) hx hb eX10_from_26.2.2.2.2.2.1 (by decide) (fun hc => ?_) (fun hc => ?_)
  · have hp := hp.1 hc
    refine lv_iload_n hx hb eX10_from_52.2.2.2.2.2.2.2.2.2.2.2.2.1 rfl (lv_at hl 3 rfl) ?_
    exact W.iret (v := x3) hx hb hr (fun t ht hW => ⟨⟨x3, dG, rfl, hp, by rw [ht]; exact hP, va_K.moved hW.alike hK, hD⟩, hS.F ht⟩) hS.2.2 eX10_from_52.2.2.2.2.2.2.2.2.2.2.2.2.2
  · have hp := hp.2 hc
    refine lv_iload_n hx hb eX10_from_26.2.2.2.2.2.2.1 rfl (lv_at hl 3 rfl) ?_
    refine lv_aload_n hx hb eX10_from_26.2.2.2.2.2.2.2.1 rfl (lv_at hl 0 rfl) ?_
    refine lv_iload_n hx hb eX10_from_26.2.2.2.2.2.2.2.2.1 rfl (lv_at hl 1 rfl) ?_
    refine lv_iload hx hb eX10_from_26.2.2.2.2.2.2.2.2.2.1 (lv_at hl 4 rfl) ?_
    refine lv_aload_n hx hb eX10_from_26.2.2.2.2.2.2.2.2.2.2.1 rfl (lv_at hl 0 rfl) ?_
    refine lv_aload_n hx hb eX10_from_26.2.2.2.2.2.2.2.2.2.2.2.1 rfl (lv_at hl 0 rfl) ?_
    refine va_get (D := (dC, dI)) (ci := 10) (v := .ref oJ) (C := RX10) (T := TX10) (N := 51) hx hb hts i_X10 hown hK hP 0 rfl rfl 0 (Nat.le_of_ble_eq_true rfl) (hts _ q_692) (fun _ h9 => h9) rfl eX10_from_26.2.2.2.2.2.2.2.2.2.2.2.2.1 ?_
    refine lv_bipush (v := 18) hx hb eX10_from_26.2.2.2.2.2.2.2.2.2.2.2.2.2.1 bp_18 ?_
    refine va_iald hx hb hK hP 1 0 rfl rfl (g_in rfl) eX10_from_26.2.2.2.2.2.2.2.2.2.2.2.2.2.2.1 ?_
    refine lv_topi (fun v_3 ev_3 => ?_)
    have hp := hp v_3 ev_3
    refine lv_iload_n hx hb eX10_from_26.2.2.2.2.2.2.2.2.2.2.2.2.2.2.2 rfl (lv_at hl 2 rfl) ?_
    have hm := mgk (wc := (wd_X10_reachBy cI cC cZ cB cJ a_m oJ uD dY iJ lJ jQ jR jW jK pJ bM aY jO gR gY mK jZ iY bG mJ jB mQ lY eJ bY bW aG jG bQ dG jY m_length qG uW eY aJ aB bU dN aR aE bJ aW bT gJ dU bL bR bO mY pW pX)) hP mk_242 7 rfl rfl rfl
    refine g_calli hP hD hS hA (mixT mk_242) (mixF mk_242) hm.1 hm.2 (nd_F _) (dis_g _) (g_runV (As := [.int v_3, .int x2]) (rest := [.int x4, .int x1, .ref a_m, .int x3]) C0 hP hD hS (mixT mk_242) hm.1 (nd_T _) 0 10 rfl rfl (c_X10_reachBy l dC dI cI cC cZ cB cJ a_m oJ uD dY iJ lJ jQ jR jW jK pJ bM aY jO gR gY mK jZ iY bG mJ jB mQ lY eJ bY H.size v_3 x2 bW aG jG bQ dG jY m_length qG uW eY aJ aB bU dN aR aE bJ aW bT gJ dU bL bR bO mY pW pX _ hp) q_795 q_798 q_796 q_797 q_642 h_X10_reachBy rfl rfl ⟨Nat.le_of_ble_eq_true rfl, Nat.le_of_ble_eq_true rfl⟩ rfl rfl hl.1 rfl (lv_room (Nat.le_of_ble_eq_true rfl)) eX10_from_52.1 ⟨Nat.zero_le _, Nat.zero_le _⟩) (fun r_4 u H locs hp hP hD hS => ?_)
    have hPD := PDm (ws' := (wd_X10_from cI cC cZ cB cJ a_m oJ uD dY iJ lJ jQ jR jW jK pJ bM aY jO gR gY mK jZ iY bG mJ jB mQ lY eJ bY bW aG jG bQ dG jY m_length qG uW eY aJ aB bU dN aR aE bJ aW bT gJ dU bL bR bO mY pW rD m_x jA oY pR pX)) hP hD 7 rfl rfl rfl
    have hP := hPD.1
    have hD := hPD.2
    have hm := mgk (wc := (wd_X10_isWithin cI cC cZ cB cJ a_m oJ uD dY iJ lJ jQ jR jW jK pJ bM aY jO gR gY mK jZ iY bG mJ jB mQ lY eJ bY bW aG jG bQ dG jY m_length qG uW eY aJ aB bU dN aR aE bJ aW bT gJ dU bL bR bO mY pW m_x jA oY pR)) hP mk_243 7 rfl rfl rfl
    refine g_calli hP hD hS hA (mixT mk_243) (mixF mk_243) hm.1 hm.2 (nd_F _) (dis_g _) (g_runV (As := [.int x1, .int x4, .int r_4]) (rest := [.int x3]) C0 hP hD hS (mixT mk_243) hm.1 (nd_T _) 0 10 rfl rfl (c_X10_isWithin l dC dI cI cC cZ cB cJ a_m oJ uD dY iJ lJ jQ jR jW jK pJ bM aY jO gR gY mK jZ iY bG mJ jB mQ lY eJ bY H.size x1 x4 r_4 bW aG jG bQ dG jY m_length qG uW eY aJ aB bU dN aR aE bJ aW bT gJ dU bL bR bO mY pW m_x jA oY pR _ hp) q_799 q_802 q_800 q_801 q_642 h_X10_isWithin rfl rfl ⟨Nat.le_of_ble_eq_true rfl, Nat.le_of_ble_eq_true rfl⟩ rfl rfl hl.1 rfl (lv_room (Nat.le_of_ble_eq_true rfl)) eX10_from_52.2.1 ⟨Nat.zero_le _, Nat.zero_le _⟩) (fun r_5 u H locs hp hP hD hS => ?_)
    have hPD := PDm (ws' := (wd_X10_from cI cC cZ cB cJ a_m oJ uD dY iJ lJ jQ jR jW jK pJ bM aY jO gR gY mK jZ iY bG mJ jB mQ lY eJ bY bW aG jG bQ dG jY m_length qG uW eY aJ aB bU dN aR aE bJ aW bT gJ dU bL bR bO mY pW rD m_x jA oY pR pX)) hP hD 7 rfl rfl rfl
    have hP := hPD.1
    have hD := hPD.2
    refine lv_if_eq (tgt := 68) hx hb eX10_from_52.2.2.1 (by decide) (fun hc => ?_) (fun hc => ?_)
    · have hp := hp.1 hc
      refine lv_iconst (v := 0) hx hb eX10_from_52.2.2.2.2.2.2.2.1 ic_0 ?_
      exact ks_X10_from_69 C0 hKn x1 x2 x4 x3 0 dG H locs ls hp hP hD hS (lv_sub hl [0, 1, 2, 4] rfl)
    · have hp := hp.2 hc
      refine lv_iconst (v := 1) hx hb eX10_from_52.2.2.2.1 ic_1 ?_
      refine lv_iload hx hb eX10_from_52.2.2.2.2.1 (lv_at hl 4 rfl) ?_
      refine lv_ishl hx hb eX10_from_52.2.2.2.2.2.1 ?_
      refine lv_topi (fun v_8 ev_8 => ?_)
      have hp := hp v_8 ev_8
      refine lv_goto (tgt := 69) hx hb eX10_from_52.2.2.2.2.2.2.1 (by decide) ?_
      exact ks_X10_from_69 C0 hKn x1 x2 x4 x3 v_8 dG H locs ls hp hP hD hS (lv_sub hl [0, 1, 2, 4] rfl)
set_option maxHeartbeats 4000000 in
set_option maxRecDepth 100000 in
theorem kb_X10_from_29 (C0 : gc cX10_from (some .int) 5 RX10 (dC, dI) (tyl cI cC cZ cB cJ) A p s m args meth c) : ∀ (n : Nat), ∀ (x1 x2 x3 x4 dG : Int32) (H : Heap) (locs : List Loc) (ls : Array Slot), (wb_X10_from_29 post bW aG rD m_x jA oY pR pX n) x1 x2 x3 x4 dG → va_P (dC, dI) classes (wd_X10_from cI cC cZ cB cJ a_m oJ uD dY iJ lJ jQ jR jW jK pJ bM aY jO gR gY mK jZ iY bG mJ jB mQ lY eJ bY bW aG jG bQ dG jY m_length qG uW eY aJ aB bU dN aR aE bJ aW bT gJ dU bL bR bO mY pW rD m_x jA oY pR pX) H → va_D A (wd_X10_from cI cC cZ cB cJ a_m oJ uD dY iJ lJ jQ jR jW jK pJ bM aY jO gR gY mK jZ iY bG mJ jB mQ lY eJ bY bW aG jG bQ dG jY m_length qG uW eY aJ aB bU dN aR aE bJ aW bT gJ dU bL bR bO mY pW rD m_x jA oY pR pX) → va_S A s.heap H locs → lv_has ls 5 [(0, .ref a_m), (1, .int x1), (2, .int x2), (3, .int x3), (4, .int x4)] → W p l e rm_X10_from s m args below meth c H locs 0 0 (MQ below (q_X10_from dC dI cI cC cZ cB cJ A a_m oJ uD dY iJ lJ jQ jR jW jK pJ bM aY jO gR gY mK jZ iY bG mJ jB mQ lY eJ bY bW aG jG bQ jY m_length qG uW eY aJ aB bU dN aR aE bJ aW bT gJ dU bL bR bO mY pW rD m_x jA oY pR pX post) args s 0 0 A) (F0 m 29 ls []) := by
  intro n
  induction n with
  | zero =>
    intro x1 x2 x3 x4 dG H locs ls hp
    exact False.elim hp
  | succ n ih =>
    intro x1 x2 x3 x4 dG H locs ls hp
    exact ks_X10_from_29 C0 ih x1 x2 x3 x4 dG H locs ls hp
end S_X10_from
noncomputable def wp_X10_from (post : Int32 → Int32 → Prop) (p0 p1 bW aG dG : Int32) (rD m_x jA oY pR pX : Nat → Int32) : Prop := wp_X10_isFruit (fun r_1 => (r_1 = 0 → post (-1) 0) ∧ (¬ r_1 = 0 → wp_X10_in (fun r_2 => (¬ r_2 = 0 → ∃ n : Nat, wb_X10_from_29 post bW aG rD m_x jA oY pR pX n p0 p1 0 0 0) ∧ (r_2 = 0 → post (-1) 0)) p1 0 1)) p0 bW
set_option maxHeartbeats 4000000 in
set_option maxRecDepth 100000 in
theorem c_X10_from (l : Launch) (dC : Nat → ClassId) (dI : Nat → Nat → Nat) (cI cC cZ cB cJ : ClassId) (a_m oJ uD dY iJ lJ jQ jR jW jK pJ bM aY jO gR gY mK jZ iY bG mJ jB mQ lY eJ bY sz : Nat) (p0 p1 bW aG jG bQ dG : Int32) (jY : Nat) (m_length qG uW eY aJ aB bU dN aR aE bJ aW bT gJ dU bL bR bO mY pW : Int32) (rD m_x jA oY pR pX : Nat → Int32) (post : Int32 → Int32 → Prop) (hw : wp_X10_from post p0 p1 bW aG dG rD m_x jA oY pR pX) : Met l yX10_from (gw yX10_from cX10_from 5 (some .int)) rm_X10_from (va_Pc [.ref a_m, .int p0, .int p1] (gPre (dC, dI) (tyl cI cC cZ cB cJ) (wd_X10_from cI cC cZ cB cJ a_m oJ uD dY iJ lJ jQ jR jW jK pJ bM aY jO gR gY mK jZ iY bG mJ jB mQ lY eJ bY bW aG jG bQ dG jY m_length qG uW eY aJ aB bU dN aR aE bJ aW bT gJ dU bL bR bO mY pW rD m_x jA oY pR pX) sz)) (q_X10_from dC dI cI cC cZ cB cJ (va_A (wd_X10_from cI cC cZ cB cJ a_m oJ uD dY iJ lJ jQ jR jW jK pJ bM aY jO gR gY mK jZ iY bG mJ jB mQ lY eJ bY bW aG jG bQ dG jY m_length qG uW eY aJ aB bU dN aR aE bJ aW bT gJ dU bL bR bO mY pW rD m_x jA oY pR pX) sz) a_m oJ uD dY iJ lJ jQ jR jW jK pJ bM aY jO gR gY mK jZ iY bG mJ jB mQ lY eJ bY bW aG jG bQ jY m_length qG uW eY aJ aB bU dN aR aE bJ aW bT gJ dU bL bR bO mY pW rD m_x jA oY pR pX post) 0 0 (va_A (wd_X10_from cI cC cZ cB cJ a_m oJ uD dY iJ lJ jQ jR jW jK pJ bM aY jO gR gY mK jZ iY bG mJ jB mQ lY eJ bY bW aG jG bQ dG jY m_length qG uW eY aJ aB bU dN aR aE bJ aW bT gJ dU bL bR bO mY pW rD m_x jA oY pR pX) sz) := by
  refine g_enter (own := RX10) (dC, dI) (tyl cI cC cZ cB cJ) (wd_X10_from cI cC cZ cB cJ a_m oJ uD dY iJ lJ jQ jR jW jK pJ bM aY jO gR gY mK jZ iY bG mJ jB mQ lY eJ bY bW aG jG bQ dG jY m_length qG uW eY aJ aB bU dN aR aE bJ aW bT gJ dU bL bR bO mY pW rD m_x jA oY pR pX) sz [.ref a_m, .int p0, .int p1] (fun A => q_X10_from dC dI cI cC cZ cB cJ A a_m oJ uD dY iJ lJ jQ jR jW jK pJ bM aY jO gR gY mK jZ iY bG mJ jB mQ lY eJ bY bW aG jG bQ jY m_length qG uW eY aJ aB bU dN aR aE bJ aW bT gJ dU bL bR bO mY pW rD m_x jA oY pR pX post) pn_RX10 rfl (Nat.le_of_ble_eq_true rfl) ?_
  intro p e s m args below meth c A H locs ls C0 hP hD hS hl
  have hl : lv_has ls 5 [(0, .ref a_m), (1, .int p0), (2, .int p1)] := hl
  obtain ⟨hx, hb, hr, hml, hown, hts, hlocks, hA, hK, hN, tL, tM, hZL, hTL, hZM, hTM, hZX⟩ := id C0
  have hp := hw
  unfold wp_X10_from at hp
  refine lv_aload_n hx hb eX10_from_0.1 rfl (lv_at hl 0 rfl) ?_
  refine lv_iconst (v := 0) hx hb eX10_from_0.2.1 ic_0 ?_
  refine va_put (D := (dC, dI)) (ci := 10) (v := .int 0) (ty := .int) (C := RX10) (T := TX10) (N := 51) hx hb hts i_X10 tyX10 tyX10_ok nmX10 hown hK hP hD hS 0 rfl rfl 14 (Nat.le_of_ble_eq_true rfl) (hts _ q_638) (fun _ h9 => h9) rfl (tyX10_ok 14 (Nat.le_of_ble_eq_true rfl)) rfl rfl (Nat.le_of_ble_eq_true rfl) eX10_from_0.2.2.1 (fun H locs hP hD hS => ?_)
  have hP : va_P (dC, dI) classes (wd_X10_from cI cC cZ cB cJ a_m oJ uD dY iJ lJ jQ jR jW jK pJ bM aY jO gR gY mK jZ iY bG mJ jB mQ lY eJ bY bW aG jG bQ 0 jY m_length qG uW eY aJ aB bU dN aR aE bJ aW bT gJ dU bL bR bO mY pW rD m_x jA oY pR pX) H := hP
  have hD : va_D A (wd_X10_from cI cC cZ cB cJ a_m oJ uD dY iJ lJ jQ jR jW jK pJ bM aY jO gR gY mK jZ iY bG mJ jB mQ lY eJ bY bW aG jG bQ 0 jY m_length qG uW eY aJ aB bU dN aR aE bJ aW bT gJ dU bL bR bO mY pW rD m_x jA oY pR pX) := hD
  refine lv_aload_n hx hb eX10_from_0.2.2.2.1 rfl (lv_at hl 0 rfl) ?_
  refine lv_iload_n hx hb eX10_from_0.2.2.2.2.1 rfl (lv_at hl 1 rfl) ?_
  have hm := mgk (wc := (wd_X10_isFruit cI cC cZ cB cJ a_m oJ uD dY iJ lJ jQ jR jW jK pJ bM aY jO gR gY mK jZ iY bG mJ jB mQ lY eJ bY bW aG jG bQ 0 jY m_length qG uW eY aJ aB bU dN aR aE bJ aW bT gJ dU bL bR bO mY pW)) hP aCk 7 rfl rfl rfl
  refine g_calli hP hD hS hA (mixT aCk) (mixF aCk) hm.1 hm.2 (nd_F _) (dis_g _) (g_runV (As := [.int p0]) (rest := []) C0 hP hD hS (mixT aCk) hm.1 (nd_T _) 0 10 rfl rfl (c_X10_isFruit l dC dI cI cC cZ cB cJ a_m oJ uD dY iJ lJ jQ jR jW jK pJ bM aY jO gR gY mK jZ iY bG mJ jB mQ lY eJ bY H.size p0 bW aG jG bQ 0 jY m_length qG uW eY aJ aB bU dN aR aE bJ aW bT gJ dU bL bR bO mY pW _ hp) q_741 q_744 q_742 q_743 q_642 h_X10_isFruit rfl rfl ⟨Nat.le_of_ble_eq_true rfl, Nat.le_of_ble_eq_true rfl⟩ rfl rfl hl.1 rfl (lv_room (Nat.le_of_ble_eq_true rfl)) eX10_from_0.2.2.2.2.2.1 ⟨Nat.zero_le _, Nat.zero_le _⟩) (fun r_1 u H locs hp hP hD hS => ?_)
  have hPD := PDm (ws' := (wd_X10_from cI cC cZ cB cJ a_m oJ uD dY iJ lJ jQ jR jW jK pJ bM aY jO gR gY mK jZ iY bG mJ jB mQ lY eJ bY bW aG jG bQ 0 jY m_length qG uW eY aJ aB bU dN aR aE bJ aW bT gJ dU bL bR bO mY pW rD m_x jA oY pR pX)) hP hD 7 rfl rfl rfl
  have hP := hPD.1
  have hD := hPD.2
  refine lv_if_eq (tgt := 22) hx hb eX10_from_0.2.2.2.2.2.2.1 (by decide) (fun hc => ?_) (fun hc => ?_)
  · have hp := hp.1 hc
    refine lv_iconst (v := (-1)) hx hb eX10_from_0.2.2.2.2.2.2.2.2.2.2.2.2.1 ic_m1 ?_
    exact W.iret (v := (-1)) hx hb hr (fun t ht hW => ⟨⟨(-1), 0, rfl, hp, by rw [ht]; exact hP, va_K.moved hW.alike hK, hD⟩, hS.F ht⟩) hS.2.2 eX10_from_0.2.2.2.2.2.2.2.2.2.2.2.2.2.1
  · have hp := hp.2 hc
    refine lv_iload_n hx hb eX10_from_0.2.2.2.2.2.2.2.1 rfl (lv_at hl 2 rfl) ?_
    refine lv_iconst (v := 0) hx hb eX10_from_0.2.2.2.2.2.2.2.2.1 ic_0 ?_
    refine lv_iconst (v := 1) hx hb eX10_from_0.2.2.2.2.2.2.2.2.2.1 ic_1 ?_
    have hm := mgk (wc := (wd_X10_in cI cC cZ cB cJ)) hP mk_244 7 rfl rfl rfl
    refine g_calli hP hD hS hA (mixT mk_244) (mixF mk_244) hm.1 hm.2 (nd_F _) (dis_g _) (g_runS (As := [.int p1, .int 0, .int 1]) (rest := []) C0 hP hD hS (mixT mk_244) hm.1 (nd_T _) (c_X10_in l dC dI cI cC cZ cB cJ H.size p1 0 1 _ hp) q_641 q_644 q_643 q_642 h_X10_in rfl rfl ⟨Nat.le_of_ble_eq_true rfl, Nat.le_of_ble_eq_true rfl⟩ rfl rfl hl.1 rfl (lv_room (Nat.le_of_ble_eq_true rfl)) eX10_from_0.2.2.2.2.2.2.2.2.2.2.1 ⟨Nat.zero_le _, Nat.zero_le _⟩) (fun r_2 u H locs hp hP hD hS => ?_)
    have hPD := PDm (ws' := (wd_X10_from cI cC cZ cB cJ a_m oJ uD dY iJ lJ jQ jR jW jK pJ bM aY jO gR gY mK jZ iY bG mJ jB mQ lY eJ bY bW aG jG bQ 0 jY m_length qG uW eY aJ aB bU dN aR aE bJ aW bT gJ dU bL bR bO mY pW rD m_x jA oY pR pX)) hP hD 7 rfl rfl rfl
    have hP := hPD.1
    have hD := hPD.2
    refine lv_if_ne (tgt := 24) hx hb eX10_from_0.2.2.2.2.2.2.2.2.2.2.2.1 (by decide) (fun hc => ?_) (fun hc => ?_)
    · have hp := hp.1 hc
      refine lv_iconst (v := 0) hx hb eX10_from_0.2.2.2.2.2.2.2.2.2.2.2.2.2.2.1 ic_0 ?_
      refine lv_istore_n (lv' := [(3, .int 0), (0, .ref a_m), (1, .int p0), (2, .int p1)]) hx hb eX10_from_0.2.2.2.2.2.2.2.2.2.2.2.2.2.2.2 rfl hl (by decide) rfl (fun ls hl => ?_)
      refine lv_iconst (v := 0) hx hb eX10_from_26.1 ic_0 ?_
      refine lv_istore (lv' := [(4, .int 0), (3, .int 0), (0, .ref a_m), (1, .int p0), (2, .int p1)]) hx hb eX10_from_26.2.1 hl (by decide) rfl (fun ls hl => ?_)
      obtain ⟨n9, hp⟩ := hp
      exact kb_X10_from_29 C0 n9 p0 p1 0 0 0 H locs ls hp hP hD hS (lv_sub hl [2, 3, 4, 1, 0] rfl)
    · have hp := hp.2 hc
      refine lv_iconst (v := (-1)) hx hb eX10_from_0.2.2.2.2.2.2.2.2.2.2.2.2.1 ic_m1 ?_
      exact W.iret (v := (-1)) hx hb hr (fun t ht hW => ⟨⟨(-1), 0, rfl, hp, by rw [ht]; exact hP, va_K.moved hW.alike hK, hD⟩, hS.F ht⟩) hS.2.2 eX10_from_0.2.2.2.2.2.2.2.2.2.2.2.2.2.1
noncomputable abbrev wd_X10_worthOf (cI cC cZ cB cJ : ClassId) (a_m oJ uD dY iJ lJ jQ jR jW jK pJ bM aY jO gR gY mK jZ iY bG mJ jB mQ lY eJ bY : Nat) (bW aG jG bQ dG : Int32) (jY : Nat) (m_length qG uW eY aJ aB bU dN aR aE bJ aW bT gJ dU bL bR bO mY pW : Int32) (pY : Nat → Int32) : va_W := [(a_m, .inr (10, [.ref oJ, .int bW, .ref uD, .ref dY, .ref iJ, .ref lJ, .int aG, .ref jQ, .ref jR, .ref jW, .ref jK, .int jG, .ref pJ, .int bQ, .int dG, rdv jK jO jY, .int m_length, .int qG, .int uW, .int eY, .ref bM, .ref aY, .int aJ, .int aB, .ref jO, .int bU, .int dN, .int aR, .int aE, .int bJ, .int aW, .ref gR, .int bT, .ref gY, .ref mK, .int gJ, .ref jZ, .int dU, .ref iY, .ref bG, .int bL, .int bR, .int bO, .ref mJ, .ref jB, .ref mQ, .int mY, .int pW, .ref lY, .ref eJ, .ref bY])), (iJ, .inl (cI, 16, .inl pY))]
noncomputable abbrev q_X10_worthOf (dC : Nat → ClassId) (dI : Nat → Nat → Nat) (cI cC cZ cB cJ : ClassId) (A : Nat → Prop) (a_m oJ uD dY iJ lJ jQ jR jW jK pJ bM aY jO gR gY mK jZ iY bG mJ jB mQ lY eJ bY : Nat) (bW aG jG bQ dG : Int32) (jY : Nat) (m_length qG uW eY aJ aB bU dN aR aE bJ aW bT gJ dU bL bR bO mY pW : Int32) (pY : Nat → Int32) (post : Int32 → Prop) : Array Value → State → Outcome → State → Prop := va_Qi (fun (r : Int32) (u : Unit) => post r) (fun u t => gB (dC, dI) (tyl cI cC cZ cB cJ) A (wd_X10_worthOf cI cC cZ cB cJ a_m oJ uD dY iJ lJ jQ jR jW jK pJ bM aY jO gR gY mK jZ iY bG mJ jB mQ lY eJ bY bW aG jG bQ dG jY m_length qG uW eY aJ aB bU dN aR aE bJ aW bT gJ dU bL bR bO mY pW pY) t) A
noncomputable abbrev rm_X10_worthOf : Room := { frames := 1, cells := 0, slots := 0, locals := 21 }
noncomputable def wp_X10_worthOf (post : Int32 → Prop) (p0 p1 : Int32) (pY : Nat → Int32) : Prop := wp_X10_has (fun r_1 => (r_1 = 0 → vp_in p0 16 ∧ (post (pY p0.toNatClampNeg))) ∧ (¬ r_1 = 0 → vp_in p0 16 ∧ (∀ v_2 : Int32, v_2 = pY p0.toNatClampNeg → ∀ v_3 : Int32, v_3 = v_2 / 2 → post v_3))) p1 p0
set_option maxHeartbeats 4000000 in
set_option maxRecDepth 100000 in
theorem c_X10_worthOf (l : Launch) (dC : Nat → ClassId) (dI : Nat → Nat → Nat) (cI cC cZ cB cJ : ClassId) (a_m oJ uD dY iJ lJ jQ jR jW jK pJ bM aY jO gR gY mK jZ iY bG mJ jB mQ lY eJ bY sz : Nat) (p0 p1 bW aG jG bQ dG : Int32) (jY : Nat) (m_length qG uW eY aJ aB bU dN aR aE bJ aW bT gJ dU bL bR bO mY pW : Int32) (pY : Nat → Int32) (post : Int32 → Prop) (hw : wp_X10_worthOf post p0 p1 pY) : Met l yX10_worthOf (gw yX10_worthOf cX10_worthOf 3 (some .int)) rm_X10_worthOf (va_Pc [.ref a_m, .int p0, .int p1] (gPre (dC, dI) (tyl cI cC cZ cB cJ) (wd_X10_worthOf cI cC cZ cB cJ a_m oJ uD dY iJ lJ jQ jR jW jK pJ bM aY jO gR gY mK jZ iY bG mJ jB mQ lY eJ bY bW aG jG bQ dG jY m_length qG uW eY aJ aB bU dN aR aE bJ aW bT gJ dU bL bR bO mY pW pY) sz)) (q_X10_worthOf dC dI cI cC cZ cB cJ (va_A (wd_X10_worthOf cI cC cZ cB cJ a_m oJ uD dY iJ lJ jQ jR jW jK pJ bM aY jO gR gY mK jZ iY bG mJ jB mQ lY eJ bY bW aG jG bQ dG jY m_length qG uW eY aJ aB bU dN aR aE bJ aW bT gJ dU bL bR bO mY pW pY) sz) a_m oJ uD dY iJ lJ jQ jR jW jK pJ bM aY jO gR gY mK jZ iY bG mJ jB mQ lY eJ bY bW aG jG bQ dG jY m_length qG uW eY aJ aB bU dN aR aE bJ aW bT gJ dU bL bR bO mY pW pY post) 0 0 (va_A (wd_X10_worthOf cI cC cZ cB cJ a_m oJ uD dY iJ lJ jQ jR jW jK pJ bM aY jO gR gY mK jZ iY bG mJ jB mQ lY eJ bY bW aG jG bQ dG jY m_length qG uW eY aJ aB bU dN aR aE bJ aW bT gJ dU bL bR bO mY pW pY) sz) := by
  refine g_enter (own := RX10) (dC, dI) (tyl cI cC cZ cB cJ) (wd_X10_worthOf cI cC cZ cB cJ a_m oJ uD dY iJ lJ jQ jR jW jK pJ bM aY jO gR gY mK jZ iY bG mJ jB mQ lY eJ bY bW aG jG bQ dG jY m_length qG uW eY aJ aB bU dN aR aE bJ aW bT gJ dU bL bR bO mY pW pY) sz [.ref a_m, .int p0, .int p1] (fun A => q_X10_worthOf dC dI cI cC cZ cB cJ A a_m oJ uD dY iJ lJ jQ jR jW jK pJ bM aY jO gR gY mK jZ iY bG mJ jB mQ lY eJ bY bW aG jG bQ dG jY m_length qG uW eY aJ aB bU dN aR aE bJ aW bT gJ dU bL bR bO mY pW pY post) pn_RX10 rfl (Nat.le_of_ble_eq_true rfl) ?_
  intro p e s m args below meth c A H locs ls C0 hP hD hS hl
  have hl : lv_has ls 3 [(0, .ref a_m), (1, .int p0), (2, .int p1)] := hl
  obtain ⟨hx, hb, hr, hml, hown, hts, hlocks, hA, hK, hN, tL, tM, hZL, hTL, hZM, hTM, hZX⟩ := id C0
  have hp := hw
  unfold wp_X10_worthOf at hp
  refine lv_iload_n hx hb eX10_worthOf_0.1 rfl (lv_at hl 2 rfl) ?_
  refine lv_iload_n hx hb eX10_worthOf_0.2.1 rfl (lv_at hl 1 rfl) ?_
  refine g_calli (wc := (wd_X10_has cI cC cZ cB cJ)) hP hD hS hA [] [0, 1] rfl rfl rfl rfl (g_runS (As := [.int p1, .int p0]) (rest := []) C0 hP hD hS [] rfl rfl (c_X10_has l dC dI cI cC cZ cB cJ H.size p1 p0 _ hp) q_734 q_736 q_735 q_642 h_X10_has rfl rfl ⟨Nat.le_of_ble_eq_true rfl, Nat.le_of_ble_eq_true rfl⟩ rfl rfl hl.1 rfl (lv_room (Nat.le_of_ble_eq_true rfl)) eX10_worthOf_0.2.2.1 ⟨Nat.zero_le _, Nat.zero_le _⟩) (fun r_1 u H locs hp hP hD hS => ?_)
  have hPD := PDs (ws' := (wd_X10_worthOf cI cC cZ cB cJ a_m oJ uD dY iJ lJ jQ jR jW jK pJ bM aY jO gR gY mK jZ iY bG mJ jB mQ lY eJ bY bW aG jG bQ dG jY m_length qG uW eY aJ aB bU dN aR aE bJ aW bT gJ dU bL bR bO mY pW pY)) hP hD [0, 1] (by decide) rfl
  have hP := hPD.1
  have hD := hPD.2
  refine lv_if_eq (tgt := 19) hx hb eX10_worthOf_0.2.2.2.1 (by decide) (fun hc => ?_) (fun hc => ?_)
  · have hp := hp.1 hc
    refine lv_aload_n hx hb eX10_worthOf_0.2.2.2.2.2.2.2.2.2.2.2.1 rfl (lv_at hl 0 rfl) ?_
    refine va_get (D := (dC, dI)) (ci := 10) (v := .ref iJ) (C := RX10) (T := TX10) (N := 51) hx hb hts i_X10 hown hK hP 0 rfl rfl 4 (Nat.le_of_ble_eq_true rfl) (hts _ q_690) (fun _ h9 => h9) rfl eX10_worthOf_0.2.2.2.2.2.2.2.2.2.2.2.2.1 ?_
    refine lv_iload_n hx hb eX10_worthOf_0.2.2.2.2.2.2.2.2.2.2.2.2.2.1 rfl (lv_at hl 1 rfl) ?_
    have hin := hp.1
    have hp := hp.2
    refine va_iald hx hb hK hP 1 0 rfl rfl hin eX10_worthOf_0.2.2.2.2.2.2.2.2.2.2.2.2.2.2.1 ?_
    exact W.iret (v := pY p0.toNatClampNeg) hx hb hr (fun t ht hW => ⟨⟨pY p0.toNatClampNeg, (), rfl, hp, by rw [ht]; exact hP, va_K.moved hW.alike hK, hD⟩, hS.F ht⟩) hS.2.2 eX10_worthOf_0.2.2.2.2.2.2.2.2.2.2.2.2.2.2.2
  · have hp := hp.2 hc
    refine lv_aload_n hx hb eX10_worthOf_0.2.2.2.2.1 rfl (lv_at hl 0 rfl) ?_
    refine va_get (D := (dC, dI)) (ci := 10) (v := .ref iJ) (C := RX10) (T := TX10) (N := 51) hx hb hts i_X10 hown hK hP 0 rfl rfl 4 (Nat.le_of_ble_eq_true rfl) (hts _ q_690) (fun _ h9 => h9) rfl eX10_worthOf_0.2.2.2.2.2.1 ?_
    refine lv_iload_n hx hb eX10_worthOf_0.2.2.2.2.2.2.1 rfl (lv_at hl 1 rfl) ?_
    have hin := hp.1
    have hp := hp.2
    refine va_iald hx hb hK hP 1 0 rfl rfl hin eX10_worthOf_0.2.2.2.2.2.2.2.1 ?_
    refine lv_topi (fun v_2 ev_2 => ?_)
    have hp := hp v_2 ev_2
    refine lv_iconst (v := 2) hx hb eX10_worthOf_0.2.2.2.2.2.2.2.2.1 ic_2 ?_
    refine lv_idiv hx hb eX10_worthOf_0.2.2.2.2.2.2.2.2.2.1 (by decide) ?_
    refine lv_topi (fun v_3 ev_3 => ?_)
    have hp := hp v_3 ev_3
    refine lv_goto (tgt := 25) hx hb eX10_worthOf_0.2.2.2.2.2.2.2.2.2.2.1 (by decide) ?_
    exact W.iret (v := v_3) hx hb hr (fun t ht hW => ⟨⟨v_3, (), rfl, hp, by rw [ht]; exact hP, va_K.moved hW.alike hK, hD⟩, hS.F ht⟩) hS.2.2 eX10_worthOf_0.2.2.2.2.2.2.2.2.2.2.2.2.2.2.2
noncomputable abbrev wd_X10_worthOfAll (cI cC cZ cB cJ : ClassId) (a_m oJ uD dY iJ lJ jQ jR jW jK pJ bM aY jO gR gY mK jZ iY bG mJ jB mQ lY eJ bY : Nat) (bW aG jG bQ dG : Int32) (jY : Nat) (m_length qG uW eY aJ aB bU dN aR aE bJ aW bT gJ dU bL bR bO mY pW : Int32) (pY : Nat → Int32) : va_W := [(a_m, .inr (10, [.ref oJ, .int bW, .ref uD, .ref dY, .ref iJ, .ref lJ, .int aG, .ref jQ, .ref jR, .ref jW, .ref jK, .int jG, .ref pJ, .int bQ, .int dG, rdv jK jO jY, .int m_length, .int qG, .int uW, .int eY, .ref bM, .ref aY, .int aJ, .int aB, .ref jO, .int bU, .int dN, .int aR, .int aE, .int bJ, .int aW, .ref gR, .int bT, .ref gY, .ref mK, .int gJ, .ref jZ, .int dU, .ref iY, .ref bG, .int bL, .int bR, .int bO, .ref mJ, .ref jB, .ref mQ, .int mY, .int pW, .ref lY, .ref eJ, .ref bY])), (iJ, .inl (cI, 16, .inl pY))]
noncomputable abbrev q_X10_worthOfAll (dC : Nat → ClassId) (dI : Nat → Nat → Nat) (cI cC cZ cB cJ : ClassId) (A : Nat → Prop) (a_m oJ uD dY iJ lJ jQ jR jW jK pJ bM aY jO gR gY mK jZ iY bG mJ jB mQ lY eJ bY : Nat) (bW aG jG bQ dG : Int32) (jY : Nat) (m_length qG uW eY aJ aB bU dN aR aE bJ aW bT gJ dU bL bR bO mY pW : Int32) (pY : Nat → Int32) (post : Int32 → Prop) : Array Value → State → Outcome → State → Prop := va_Qi (fun (r : Int32) (u : Unit) => post r) (fun u t => gB (dC, dI) (tyl cI cC cZ cB cJ) A (wd_X10_worthOfAll cI cC cZ cB cJ a_m oJ uD dY iJ lJ jQ jR jW jK pJ bM aY jO gR gY mK jZ iY bG mJ jB mQ lY eJ bY bW aG jG bQ dG jY m_length qG uW eY aJ aB bU dN aR aE bJ aW bT gJ dU bL bR bO mY pW pY) t) A
noncomputable abbrev rm_X10_worthOfAll : Room := { frames := 2, cells := 0, slots := 0, locals := 43 }
section S_X10_worthOfAll
variable {p : Program} {l : Launch} {e : Env} {s : State} {m : MethodId} {args : Array Value} {below : List Frame} {meth : Method} {c : Code} {dC : Nat → ClassId} {dI : Nat → Nat → Nat} {cI cC cZ cB cJ : ClassId} {A : Nat → Prop} {a_m oJ uD dY iJ lJ jQ jR jW jK pJ bM aY jO gR gY mK jZ iY bG mJ jB mQ lY eJ bY : Nat} {bW aG jG bQ dG : Int32} {jY : Nat} {m_length qG uW eY aJ aB bU dN aR aE bJ aW bT gJ dU bL bR bO mY pW : Int32} {pY : Nat → Int32} {post : Int32 → Prop}
noncomputable def ws_X10_worthOfAll_35 (post : Int32 → Prop) (K5 : Int32 → Int32 → Int32 → Int32 → Prop) (bW : Int32) (pY : Nat → Int32) (x1 x2 x4 k0 k1 : Int32) : Prop := ∀ v_2 : Int32, v_2 = k0 + k1 → ∀ v_3 : Int32, v_3 = x4 + 1 → K5 x1 x2 v_2 v_3
set_option maxHeartbeats 4000000 in
set_option maxRecDepth 100000 in
theorem ks_X10_worthOfAll_35 (C0 : gc cX10_worthOfAll (some .int) 5 RX10 (dC, dI) (tyl cI cC cZ cB cJ) A p s m args meth c) {K5 : Int32 → Int32 → Int32 → Int32 → Prop} (hK5 : ∀ (x1 : Int32) (x2 : Int32) (x3 : Int32) (x4 : Int32) (H : Heap) (locs : List Loc) (ls : Array Slot), K5 x1 x2 x3 x4 → va_P (dC, dI) classes (wd_X10_worthOfAll cI cC cZ cB cJ a_m oJ uD dY iJ lJ jQ jR jW jK pJ bM aY jO gR gY mK jZ iY bG mJ jB mQ lY eJ bY bW aG jG bQ dG jY m_length qG uW eY aJ aB bU dN aR aE bJ aW bT gJ dU bL bR bO mY pW pY) H → va_D A (wd_X10_worthOfAll cI cC cZ cB cJ a_m oJ uD dY iJ lJ jQ jR jW jK pJ bM aY jO gR gY mK jZ iY bG mJ jB mQ lY eJ bY bW aG jG bQ dG jY m_length qG uW eY aJ aB bU dN aR aE bJ aW bT gJ dU bL bR bO mY pW pY) → va_S A s.heap H locs → lv_has ls 5 [(0, .ref a_m), (1, .int x1), (2, .int x2), (3, .int x3), (4, .int x4)] → W p l e rm_X10_worthOfAll s m args below meth c H locs 0 0 (MQ below (q_X10_worthOfAll dC dI cI cC cZ cB cJ A a_m oJ uD dY iJ lJ jQ jR jW jK pJ bM aY jO gR gY mK jZ iY bG mJ jB mQ lY eJ bY bW aG jG bQ dG jY m_length qG uW eY aJ aB bU dN aR aE bJ aW bT gJ dU bL bR bO mY pW pY post) args s 0 0 A) (F0 m 5 ls [])) : ∀ (x1 x2 x4 k0 k1 : Int32) (H : Heap) (locs : List Loc) (ls : Array Slot), (ws_X10_worthOfAll_35 post K5 bW pY) x1 x2 x4 k0 k1 → va_P (dC, dI) classes (wd_X10_worthOfAll cI cC cZ cB cJ a_m oJ uD dY iJ lJ jQ jR jW jK pJ bM aY jO gR gY mK jZ iY bG mJ jB mQ lY eJ bY bW aG jG bQ dG jY m_length qG uW eY aJ aB bU dN aR aE bJ aW bT gJ dU bL bR bO mY pW pY) H → va_D A (wd_X10_worthOfAll cI cC cZ cB cJ a_m oJ uD dY iJ lJ jQ jR jW jK pJ bM aY jO gR gY mK jZ iY bG mJ jB mQ lY eJ bY bW aG jG bQ dG jY m_length qG uW eY aJ aB bU dN aR aE bJ aW bT gJ dU bL bR bO mY pW pY) → va_S A s.heap H locs → lv_has ls 5 [(0, .ref a_m), (1, .int x1), (2, .int x2), (4, .int x4)] → W p l e rm_X10_worthOfAll s m args below meth c H locs 0 0 (MQ below (q_X10_worthOfAll dC dI cI cC cZ cB cJ A a_m oJ uD dY iJ lJ jQ jR jW jK pJ bM aY jO gR gY mK jZ iY bG mJ jB mQ lY eJ bY bW aG jG bQ dG jY m_length qG uW eY aJ aB bU dN aR aE bJ aW bT gJ dU bL bR bO mY pW pY post) args s 0 0 A) (F0 m 35 ls [.int k1, .int k0]) := by
  obtain ⟨hx, hb, hr, hml, hown, hts, hlocks, hA, hK, hN, tL, tM, hZL, hTL, hZM, hTM, hZX⟩ := id C0
  intro x1 x2 x4 k0 k1 H locs ls hp hP hD hS hl
  unfold ws_X10_worthOfAll_35 at hp
  refine lv_iadd hx hb eX10_worthOfAll_28.2.2.2.1 ?_
  refine lv_topi (fun v_2 ev_2 => ?_)
  have hp := hp v_2 ev_2
  refine lv_istore_n (lv' := [(3, .int v_2), (0, .ref a_m), (1, .int x1), (2, .int x2), (4, .int x4)]) hx hb eX10_worthOfAll_28.2.2.2.2.1 rfl hl (by decide) rfl (fun ls hl => ?_)
  obtain ⟨v_3, ev_3⟩ : ∃ y : Int32, y = x4 + 1 := ⟨_, rfl⟩
  refine lv_iinc (v := v_3) (lv' := [(4, .int v_3), (3, .int v_2), (0, .ref a_m), (1, .int x1), (2, .int x2)]) hx hb eX10_worthOfAll_28.2.2.2.2.2.1 hl (k := 4) rfl (by rw [ev_3]; rfl) (by decide) rfl (fun ls hl => ?_)
  have hp := hp v_3 ev_3
  refine lv_goto (tgt := 5) hx hb eX10_worthOfAll_28.2.2.2.2.2.2.1 (by decide) ?_
  exact hK5 x1 x2 v_2 v_3 H locs ls hp hP hD hS (lv_sub hl [2, 3, 4, 1, 0] rfl)
noncomputable def ws_X10_worthOfAll_5 (post : Int32 → Prop) (next : Int32 → Int32 → Int32 → Int32 → Prop) (bW : Int32) (pY : Nat → Int32) (x1 x2 x3 x4 : Int32) : Prop := (bW ≤ x4 → post x3) ∧ (¬ bW ≤ x4 → wp_X10_has (fun r_1 => (r_1 = 0 → ws_X10_worthOfAll_35 post next bW pY x1 x2 x4 x3 0) ∧ (¬ r_1 = 0 → wp_X10_worthOf (fun r_4 => ws_X10_worthOfAll_35 post next bW pY x1 x2 x4 x3 r_4) x4 x2 pY)) x1 x4)
noncomputable def wb_X10_worthOfAll_5 (post : Int32 → Prop) (bW : Int32) (pY : Nat → Int32) : Nat → Int32 → Int32 → Int32 → Int32 → Prop := fun n => Nat.rec (motive := fun _ => Int32 → Int32 → Int32 → Int32 → Prop) (fun _ _ _ _ => False) (fun _ ih => ws_X10_worthOfAll_5 post ih bW pY) n
set_option maxHeartbeats 4000000 in
set_option maxRecDepth 100000 in
theorem ks_X10_worthOfAll_5 (C0 : gc cX10_worthOfAll (some .int) 5 RX10 (dC, dI) (tyl cI cC cZ cB cJ) A p s m args meth c) {next : Int32 → Int32 → Int32 → Int32 → Prop} (hKn : ∀ (x1 : Int32) (x2 : Int32) (x3 : Int32) (x4 : Int32) (H : Heap) (locs : List Loc) (ls : Array Slot), next x1 x2 x3 x4 → va_P (dC, dI) classes (wd_X10_worthOfAll cI cC cZ cB cJ a_m oJ uD dY iJ lJ jQ jR jW jK pJ bM aY jO gR gY mK jZ iY bG mJ jB mQ lY eJ bY bW aG jG bQ dG jY m_length qG uW eY aJ aB bU dN aR aE bJ aW bT gJ dU bL bR bO mY pW pY) H → va_D A (wd_X10_worthOfAll cI cC cZ cB cJ a_m oJ uD dY iJ lJ jQ jR jW jK pJ bM aY jO gR gY mK jZ iY bG mJ jB mQ lY eJ bY bW aG jG bQ dG jY m_length qG uW eY aJ aB bU dN aR aE bJ aW bT gJ dU bL bR bO mY pW pY) → va_S A s.heap H locs → lv_has ls 5 [(0, .ref a_m), (1, .int x1), (2, .int x2), (3, .int x3), (4, .int x4)] → W p l e rm_X10_worthOfAll s m args below meth c H locs 0 0 (MQ below (q_X10_worthOfAll dC dI cI cC cZ cB cJ A a_m oJ uD dY iJ lJ jQ jR jW jK pJ bM aY jO gR gY mK jZ iY bG mJ jB mQ lY eJ bY bW aG jG bQ dG jY m_length qG uW eY aJ aB bU dN aR aE bJ aW bT gJ dU bL bR bO mY pW pY post) args s 0 0 A) (F0 m 5 ls [])) : ∀ (x1 x2 x3 x4 : Int32) (H : Heap) (locs : List Loc) (ls : Array Slot), (ws_X10_worthOfAll_5 post next bW pY) x1 x2 x3 x4 → va_P (dC, dI) classes (wd_X10_worthOfAll cI cC cZ cB cJ a_m oJ uD dY iJ lJ jQ jR jW jK pJ bM aY jO gR gY mK jZ iY bG mJ jB mQ lY eJ bY bW aG jG bQ dG jY m_length qG uW eY aJ aB bU dN aR aE bJ aW bT gJ dU bL bR bO mY pW pY) H → va_D A (wd_X10_worthOfAll cI cC cZ cB cJ a_m oJ uD dY iJ lJ jQ jR jW jK pJ bM aY jO gR gY mK jZ iY bG mJ jB mQ lY eJ bY bW aG jG bQ dG jY m_length qG uW eY aJ aB bU dN aR aE bJ aW bT gJ dU bL bR bO mY pW pY) → va_S A s.heap H locs → lv_has ls 5 [(0, .ref a_m), (1, .int x1), (2, .int x2), (3, .int x3), (4, .int x4)] → W p l e rm_X10_worthOfAll s m args below meth c H locs 0 0 (MQ below (q_X10_worthOfAll dC dI cI cC cZ cB cJ A a_m oJ uD dY iJ lJ jQ jR jW jK pJ bM aY jO gR gY mK jZ iY bG mJ jB mQ lY eJ bY bW aG jG bQ dG jY m_length qG uW eY aJ aB bU dN aR aE bJ aW bT gJ dU bL bR bO mY pW pY post) args s 0 0 A) (F0 m 5 ls []) := by
  obtain ⟨hx, hb, hr, hml, hown, hts, hlocks, hA, hK, hN, tL, tM, hZL, hTL, hZM, hTM, hZX⟩ := id C0
  intro x1 x2 x3 x4 H locs ls hp hP hD hS hl
  unfold ws_X10_worthOfAll_5 at hp
  refine lv_iload hx hb eX10_worthOfAll_0.2.2.2.2.1 (lv_at hl 4 rfl) ?_
  refine lv_aload_n hx hb eX10_worthOfAll_0.2.2.2.2.2.1 rfl (lv_at hl 0 rfl) ?_
  refine va_get (D := (dC, dI)) (ci := 10) (v := .int bW) (C := RX10) (T := TX10) (N := 51) hx hb hts i_X10 hown hK hP 0 rfl rfl 1 (Nat.le_of_ble_eq_true rfl) (hts _ q_677) (fun _ h9 => h9) rfl eX10_worthOfAll_0.2.2.2.2.2.2.1 ?_
  refine lv_icmp_ge (tgt := 43) hx hb eX10_worthOfAll_0.2.2.2.2.2.2.2.1 (by decide) (fun hc => ?_) (fun hc => ?_)
  · have hp := hp.1 hc
    refine lv_iload_n hx hb eX10_worthOfAll_28.2.2.2.2.2.2.2.1 rfl (lv_at hl 3 rfl) ?_
    exact W.iret (v := x3) hx hb hr (fun t ht hW => ⟨⟨x3, (), rfl, hp, by rw [ht]; exact hP, va_K.moved hW.alike hK, hD⟩, hS.F ht⟩) hS.2.2 eX10_worthOfAll_28.2.2.2.2.2.2.2.2
  · have hp := hp.2 hc
    refine lv_iload_n hx hb eX10_worthOfAll_0.2.2.2.2.2.2.2.2.1 rfl (lv_at hl 3 rfl) ?_
    refine lv_iload_n hx hb eX10_worthOfAll_0.2.2.2.2.2.2.2.2.2.1 rfl (lv_at hl 1 rfl) ?_
    refine lv_iload hx hb eX10_worthOfAll_0.2.2.2.2.2.2.2.2.2.2.1 (lv_at hl 4 rfl) ?_
    refine g_calli (wc := (wd_X10_has cI cC cZ cB cJ)) hP hD hS hA [] [0, 1] rfl rfl rfl rfl (g_runS (As := [.int x1, .int x4]) (rest := [.int x3]) C0 hP hD hS [] rfl rfl (c_X10_has l dC dI cI cC cZ cB cJ H.size x1 x4 _ hp) q_734 q_736 q_735 q_642 h_X10_has rfl rfl ⟨Nat.le_of_ble_eq_true rfl, Nat.le_of_ble_eq_true rfl⟩ rfl rfl hl.1 rfl (lv_room (Nat.le_of_ble_eq_true rfl)) eX10_worthOfAll_0.2.2.2.2.2.2.2.2.2.2.2.1 ⟨Nat.zero_le _, Nat.zero_le _⟩) (fun r_1 u H locs hp hP hD hS => ?_)
    have hPD := PDs (ws' := (wd_X10_worthOfAll cI cC cZ cB cJ a_m oJ uD dY iJ lJ jQ jR jW jK pJ bM aY jO gR gY mK jZ iY bG mJ jB mQ lY eJ bY bW aG jG bQ dG jY m_length qG uW eY aJ aB bU dN aR aE bJ aW bT gJ dU bL bR bO mY pW pY)) hP hD [0, 1] (by decide) rfl
    have hP := hPD.1
    have hD := hPD.2
    refine lv_if_eq (tgt := 34) hx hb eX10_worthOfAll_0.2.2.2.2.2.2.2.2.2.2.2.2.1 (by decide) (fun hc => ?_) (fun hc => ?_)
    · have hp := hp.1 hc
      refine lv_iconst (v := 0) hx hb eX10_worthOfAll_28.2.2.1 ic_0 ?_
      exact ks_X10_worthOfAll_35 C0 hKn x1 x2 x4 x3 0 H locs ls hp hP hD hS (lv_sub hl [0, 1, 2, 4] rfl)
    · have hp := hp.2 hc
      refine lv_aload_n hx hb eX10_worthOfAll_0.2.2.2.2.2.2.2.2.2.2.2.2.2.1 rfl (lv_at hl 0 rfl) ?_
      refine lv_iload hx hb eX10_worthOfAll_0.2.2.2.2.2.2.2.2.2.2.2.2.2.2.1 (lv_at hl 4 rfl) ?_
      refine lv_iload_n hx hb eX10_worthOfAll_0.2.2.2.2.2.2.2.2.2.2.2.2.2.2.2 rfl (lv_at hl 2 rfl) ?_
      refine g_calli (wc := (wd_X10_worthOf cI cC cZ cB cJ a_m oJ uD dY iJ lJ jQ jR jW jK pJ bM aY jO gR gY mK jZ iY bG mJ jB mQ lY eJ bY bW aG jG bQ dG jY m_length qG uW eY aJ aB bU dN aR aE bJ aW bT gJ dU bL bR bO mY pW pY)) hP hD hS hA [0, 1] [] rfl rfl rfl rfl (g_runV (As := [.int x4, .int x2]) (rest := [.int x3]) C0 hP hD hS [0, 1] rfl rfl 0 10 rfl rfl (c_X10_worthOf l dC dI cI cC cZ cB cJ a_m oJ uD dY iJ lJ jQ jR jW jK pJ bM aY jO gR gY mK jZ iY bG mJ jB mQ lY eJ bY H.size x4 x2 bW aG jG bQ dG jY m_length qG uW eY aJ aB bU dN aR aE bJ aW bT gJ dU bL bR bO mY pW pY _ hp) q_861 q_864 q_862 q_863 q_642 h_X10_worthOf rfl rfl ⟨Nat.le_of_ble_eq_true rfl, Nat.le_of_ble_eq_true rfl⟩ rfl rfl hl.1 rfl (lv_room (Nat.le_of_ble_eq_true rfl)) eX10_worthOfAll_28.1 ⟨Nat.zero_le _, Nat.zero_le _⟩) (fun r_4 u H locs hp hP hD hS => ?_)
      have hPD := PDs (ws' := (wd_X10_worthOfAll cI cC cZ cB cJ a_m oJ uD dY iJ lJ jQ jR jW jK pJ bM aY jO gR gY mK jZ iY bG mJ jB mQ lY eJ bY bW aG jG bQ dG jY m_length qG uW eY aJ aB bU dN aR aE bJ aW bT gJ dU bL bR bO mY pW pY)) hP hD [0, 1] (by decide) rfl
      have hP := hPD.1
      have hD := hPD.2
      refine lv_goto (tgt := 35) hx hb eX10_worthOfAll_28.2.1 (by decide) ?_
      exact ks_X10_worthOfAll_35 C0 hKn x1 x2 x4 x3 r_4 H locs ls hp hP hD hS (lv_sub hl [0, 1, 2, 4] rfl)
set_option maxHeartbeats 4000000 in
set_option maxRecDepth 100000 in
theorem kb_X10_worthOfAll_5 (C0 : gc cX10_worthOfAll (some .int) 5 RX10 (dC, dI) (tyl cI cC cZ cB cJ) A p s m args meth c) : ∀ (n : Nat), ∀ (x1 x2 x3 x4 : Int32) (H : Heap) (locs : List Loc) (ls : Array Slot), (wb_X10_worthOfAll_5 post bW pY n) x1 x2 x3 x4 → va_P (dC, dI) classes (wd_X10_worthOfAll cI cC cZ cB cJ a_m oJ uD dY iJ lJ jQ jR jW jK pJ bM aY jO gR gY mK jZ iY bG mJ jB mQ lY eJ bY bW aG jG bQ dG jY m_length qG uW eY aJ aB bU dN aR aE bJ aW bT gJ dU bL bR bO mY pW pY) H → va_D A (wd_X10_worthOfAll cI cC cZ cB cJ a_m oJ uD dY iJ lJ jQ jR jW jK pJ bM aY jO gR gY mK jZ iY bG mJ jB mQ lY eJ bY bW aG jG bQ dG jY m_length qG uW eY aJ aB bU dN aR aE bJ aW bT gJ dU bL bR bO mY pW pY) → va_S A s.heap H locs → lv_has ls 5 [(0, .ref a_m), (1, .int x1), (2, .int x2), (3, .int x3), (4, .int x4)] → W p l e rm_X10_worthOfAll s m args below meth c H locs 0 0 (MQ below (q_X10_worthOfAll dC dI cI cC cZ cB cJ A a_m oJ uD dY iJ lJ jQ jR jW jK pJ bM aY jO gR gY mK jZ iY bG mJ jB mQ lY eJ bY bW aG jG bQ dG jY m_length qG uW eY aJ aB bU dN aR aE bJ aW bT gJ dU bL bR bO mY pW pY post) args s 0 0 A) (F0 m 5 ls []) := by
  intro n
  induction n with
  | zero =>
    intro x1 x2 x3 x4 H locs ls hp
    exact False.elim hp
  | succ n ih =>
    intro x1 x2 x3 x4 H locs ls hp
    exact ks_X10_worthOfAll_5 C0 ih x1 x2 x3 x4 H locs ls hp
end S_X10_worthOfAll
noncomputable def wp_X10_worthOfAll (post : Int32 → Prop) (p0 p1 bW : Int32) (pY : Nat → Int32) : Prop := ∃ n : Nat, wb_X10_worthOfAll_5 post bW pY n p0 p1 0 0
set_option maxHeartbeats 4000000 in
set_option maxRecDepth 100000 in
theorem c_X10_worthOfAll (l : Launch) (dC : Nat → ClassId) (dI : Nat → Nat → Nat) (cI cC cZ cB cJ : ClassId) (a_m oJ uD dY iJ lJ jQ jR jW jK pJ bM aY jO gR gY mK jZ iY bG mJ jB mQ lY eJ bY sz : Nat) (p0 p1 bW aG jG bQ dG : Int32) (jY : Nat) (m_length qG uW eY aJ aB bU dN aR aE bJ aW bT gJ dU bL bR bO mY pW : Int32) (pY : Nat → Int32) (post : Int32 → Prop) (hw : wp_X10_worthOfAll post p0 p1 bW pY) : Met l yX10_worthOfAll (gw yX10_worthOfAll cX10_worthOfAll 5 (some .int)) rm_X10_worthOfAll (va_Pc [.ref a_m, .int p0, .int p1] (gPre (dC, dI) (tyl cI cC cZ cB cJ) (wd_X10_worthOfAll cI cC cZ cB cJ a_m oJ uD dY iJ lJ jQ jR jW jK pJ bM aY jO gR gY mK jZ iY bG mJ jB mQ lY eJ bY bW aG jG bQ dG jY m_length qG uW eY aJ aB bU dN aR aE bJ aW bT gJ dU bL bR bO mY pW pY) sz)) (q_X10_worthOfAll dC dI cI cC cZ cB cJ (va_A (wd_X10_worthOfAll cI cC cZ cB cJ a_m oJ uD dY iJ lJ jQ jR jW jK pJ bM aY jO gR gY mK jZ iY bG mJ jB mQ lY eJ bY bW aG jG bQ dG jY m_length qG uW eY aJ aB bU dN aR aE bJ aW bT gJ dU bL bR bO mY pW pY) sz) a_m oJ uD dY iJ lJ jQ jR jW jK pJ bM aY jO gR gY mK jZ iY bG mJ jB mQ lY eJ bY bW aG jG bQ dG jY m_length qG uW eY aJ aB bU dN aR aE bJ aW bT gJ dU bL bR bO mY pW pY post) 0 0 (va_A (wd_X10_worthOfAll cI cC cZ cB cJ a_m oJ uD dY iJ lJ jQ jR jW jK pJ bM aY jO gR gY mK jZ iY bG mJ jB mQ lY eJ bY bW aG jG bQ dG jY m_length qG uW eY aJ aB bU dN aR aE bJ aW bT gJ dU bL bR bO mY pW pY) sz) := by
  refine g_enter (own := RX10) (dC, dI) (tyl cI cC cZ cB cJ) (wd_X10_worthOfAll cI cC cZ cB cJ a_m oJ uD dY iJ lJ jQ jR jW jK pJ bM aY jO gR gY mK jZ iY bG mJ jB mQ lY eJ bY bW aG jG bQ dG jY m_length qG uW eY aJ aB bU dN aR aE bJ aW bT gJ dU bL bR bO mY pW pY) sz [.ref a_m, .int p0, .int p1] (fun A => q_X10_worthOfAll dC dI cI cC cZ cB cJ A a_m oJ uD dY iJ lJ jQ jR jW jK pJ bM aY jO gR gY mK jZ iY bG mJ jB mQ lY eJ bY bW aG jG bQ dG jY m_length qG uW eY aJ aB bU dN aR aE bJ aW bT gJ dU bL bR bO mY pW pY post) pn_RX10 rfl (Nat.le_of_ble_eq_true rfl) ?_
  intro p e s m args below meth c A H locs ls C0 hP hD hS hl
  have hl : lv_has ls 5 [(0, .ref a_m), (1, .int p0), (2, .int p1)] := hl
  obtain ⟨hx, hb, hr, hml, hown, hts, hlocks, hA, hK, hN, tL, tM, hZL, hTL, hZM, hTM, hZX⟩ := id C0
  have hp := hw
  unfold wp_X10_worthOfAll at hp
  refine lv_iconst (v := 0) hx hb eX10_worthOfAll_0.1 ic_0 ?_
  refine lv_istore_n (lv' := [(3, .int 0), (0, .ref a_m), (1, .int p0), (2, .int p1)]) hx hb eX10_worthOfAll_0.2.1 rfl hl (by decide) rfl (fun ls hl => ?_)
  refine lv_iconst (v := 0) hx hb eX10_worthOfAll_0.2.2.1 ic_0 ?_
  refine lv_istore (lv' := [(4, .int 0), (3, .int 0), (0, .ref a_m), (1, .int p0), (2, .int p1)]) hx hb eX10_worthOfAll_0.2.2.2.1 hl (by decide) rfl (fun ls hl => ?_)
  obtain ⟨n9, hp⟩ := hp
  exact kb_X10_worthOfAll_5 C0 n9 p0 p1 0 0 H locs ls hp hP hD hS (lv_sub hl [2, 3, 4, 1, 0] rfl)
