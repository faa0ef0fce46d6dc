noncomputable abbrev wd_X10_need (cI cC cZ cB cJ : ClassId) (a_m oJ uD dY iJ lJ jQ jR jW jK pJ bM aY jO gR gY mK jZ iY bG mJ jB mQ lY eJ bY : Nat) (bW aG jG bQ dG : Int32) (jY : Nat) (m_length qG uW eY aJ aB bU dN aR aE bJ aW bT gJ dU bL bR bO mY pW : Int32) (rG rQ : Nat → Int32) : va_W := [(a_m, .inr (10, [.ref oJ, .int bW, .ref uD, .ref dY, .ref iJ, .ref lJ, .int aG, .ref jQ, .ref jR, .ref jW, .ref jK, .int jG, .ref pJ, .int bQ, .int dG, rdv jK jO jY, .int m_length, .int qG, .int uW, .int eY, .ref bM, .ref aY, .int aJ, .int aB, .ref jO, .int bU, .int dN, .int aR, .int aE, .int bJ, .int aW, .ref gR, .int bT, .ref gY, .ref mK, .int gJ, .ref jZ, .int dU, .ref iY, .ref bG, .int bL, .int bR, .int bO, .ref mJ, .ref jB, .ref mQ, .int mY, .int pW, .ref lY, .ref eJ, .ref bY])), (jK, .inl (cB, 80, .inl rG)), (jO, .inl (cB, 40, .inl rQ))]
noncomputable abbrev q_X10_need (dC : Nat → ClassId) (dI : Nat → Nat → Nat) (cI cC cZ cB cJ : ClassId) (A : Nat → Prop) (a_m oJ uD dY iJ lJ jQ jR jW jK pJ bM aY jO gR gY mK jZ iY bG mJ jB mQ lY eJ bY : Nat) (bW aG jG bQ dG : Int32) (jY : Nat) (m_length qG aJ aB bU dN aR aE bJ aW bT gJ dU bL bR bO mY pW : Int32) (rG rQ : Nat → Int32) (post : Int32 → Int32 → Prop) : Array Value → State → Outcome → State → Prop := va_Qv (fun (u : Int32 × Int32) => post u.1 u.2) (fun u t => gB (dC, dI) (tyl cI cC cZ cB cJ) A (wd_X10_need cI cC cZ cB cJ a_m oJ uD dY iJ lJ jQ jR jW jK pJ bM aY jO gR gY mK jZ iY bG mJ jB mQ lY eJ bY bW aG jG bQ dG jY m_length qG u.1 u.2 aJ aB bU dN aR aE bJ aW bT gJ dU bL bR bO mY pW rG rQ) t) A
noncomputable abbrev rm_X10_need : Room := { frames := 2, cells := 0, slots := 0, locals := 41 }
noncomputable def wp_X10_need (post : Int32 → Int32 → Prop) (p0 : Int32) (jY : Nat) (m_length qG uW eY : Int32) (rG rQ : Nat → Int32) : Prop := wp_X10_passes (fun r_1 aAT => (¬ r_1 = 0 → post aAT eY) ∧ (r_1 = 0 → wp_X10_fault (fun zF => post aAT zF) aAT eY)) p0 jY m_length qG uW eY rG rQ
set_option maxHeartbeats 4000000 in
set_option maxRecDepth 100000 in
theorem c_X10_need (l : Launch) (dC : Nat → ClassId) (dI : Nat → Nat → Nat) (cI cC cZ cB cJ : ClassId) (a_m oJ uD dY iJ lJ jQ jR jW jK pJ bM aY jO gR gY mK jZ iY bG mJ jB mQ lY eJ bY sz : Nat) (p0 bW aG jG bQ dG : Int32) (jY : Nat) (m_length qG uW eY aJ aB bU dN aR aE bJ aW bT gJ dU bL bR bO mY pW : Int32) (rG rQ : Nat → Int32) (post : Int32 → Int32 → Prop) (hw : wp_X10_need post p0 jY m_length qG uW eY rG rQ) : Met l yX10_need (gw yX10_need cX10_need 2 none) rm_X10_need (va_Pc [.ref a_m, .int p0] (gPre (dC, dI) (tyl cI cC cZ cB cJ) (wd_X10_need cI cC cZ cB cJ a_m oJ uD dY iJ lJ jQ jR jW jK pJ bM aY jO gR gY mK jZ iY bG mJ jB mQ lY eJ bY bW aG jG bQ dG jY m_length qG uW eY aJ aB bU dN aR aE bJ aW bT gJ dU bL bR bO mY pW rG rQ) sz)) (q_X10_need dC dI cI cC cZ cB cJ (va_A (wd_X10_need cI cC cZ cB cJ a_m oJ uD dY iJ lJ jQ jR jW jK pJ bM aY jO gR gY mK jZ iY bG mJ jB mQ lY eJ bY bW aG jG bQ dG jY m_length qG uW eY aJ aB bU dN aR aE bJ aW bT gJ dU bL bR bO mY pW rG rQ) sz) a_m oJ uD dY iJ lJ jQ jR jW jK pJ bM aY jO gR gY mK jZ iY bG mJ jB mQ lY eJ bY bW aG jG bQ dG jY m_length qG aJ aB bU dN aR aE bJ aW bT gJ dU bL bR bO mY pW rG rQ post) 0 0 (va_A (wd_X10_need cI cC cZ cB cJ a_m oJ uD dY iJ lJ jQ jR jW jK pJ bM aY jO gR gY mK jZ iY bG mJ jB mQ lY eJ bY bW aG jG bQ dG jY m_length qG uW eY aJ aB bU dN aR aE bJ aW bT gJ dU bL bR bO mY pW rG rQ) sz) := by
  refine g_enter (own := RX10) (dC, dI) (tyl cI cC cZ cB cJ) (wd_X10_need cI cC cZ cB cJ a_m oJ uD dY iJ lJ jQ jR jW jK pJ bM aY jO gR gY mK jZ iY bG mJ jB mQ lY eJ bY bW aG jG bQ dG jY m_length qG uW eY aJ aB bU dN aR aE bJ aW bT gJ dU bL bR bO mY pW rG rQ) sz [.ref a_m, .int p0] (fun A => q_X10_need dC dI cI cC cZ cB cJ A a_m oJ uD dY iJ lJ jQ jR jW jK pJ bM aY jO gR gY mK jZ iY bG mJ jB mQ lY eJ bY bW aG jG bQ dG jY m_length qG aJ aB bU dN aR aE bJ aW bT gJ dU bL bR bO mY pW rG rQ post) pn_RX10 rfl (Nat.le_of_ble_eq_true rfl) ?_
  intro p e s m args below meth c A H locs ls C0 hP hD hS hl
  have hl : lv_has ls 2 [(0, .ref a_m), (1, .int p0)] := hl
  obtain ⟨hx, hb, hr, hml, hown, hts, hlocks, hA, hK, hN, tL, tM, hZL, hTL, hZM, hTM, hZX⟩ := id C0
  have hp := hw
  unfold wp_X10_need at hp
  refine lv_aload_n hx hb eX10_need_0.1 rfl (lv_at hl 0 rfl) ?_
  refine lv_iload_n hx hb eX10_need_0.2.1 rfl (lv_at hl 1 rfl) ?_
  have hm := mgk (wc := (wd_X10_passes cI cC cZ cB cJ a_m oJ uD dY iJ lJ jQ jR jW jK pJ bM aY jO gR gY mK jZ iY bG mJ jB mQ lY eJ bY bW aG jG bQ dG jY m_length qG uW eY aJ aB bU dN aR aE bJ aW bT gJ dU bL bR bO mY pW rG rQ)) hP aBD 3 rfl rfl rfl
  refine g_calli hP hD hS hA (mixT aBD) (mixF aBD) hm.1 hm.2 (nd_F _) (dis_g _) (g_runV (As := [.int p0]) (rest := []) C0 hP hD hS (mixT aBD) hm.1 (nd_T _) 0 10 rfl rfl (c_X10_passes l dC dI cI cC cZ cB cJ a_m oJ uD dY iJ lJ jQ jR jW jK pJ bM aY jO gR gY mK jZ iY bG mJ jB mQ lY eJ bY H.size p0 bW aG jG bQ dG jY m_length qG uW eY aJ aB bU dN aR aE bJ aW bT gJ dU bL bR bO mY pW rG rQ _ hp) q_662 q_665 q_663 q_664 q_642 h_X10_passes rfl rfl ⟨Nat.le_of_ble_eq_true rfl, Nat.le_of_ble_eq_true rfl⟩ rfl rfl hl.1 rfl (lv_room (Nat.le_of_ble_eq_true rfl)) eX10_need_0.2.2.1 ⟨Nat.zero_le _, Nat.zero_le _⟩) (fun r_1 u H locs hp hP hD hS => ?_)
  obtain ⟨aAT, rfl⟩ : ∃ z, z = u := ⟨_, rfl⟩
  have hPD := PDm (ws' := (wd_X10_need cI cC cZ cB cJ a_m oJ uD dY iJ lJ jQ jR jW jK pJ bM aY jO gR gY mK jZ iY bG mJ jB mQ lY eJ bY bW aG jG bQ dG jY m_length qG aAT eY aJ aB bU dN aR aE bJ aW bT gJ dU bL bR bO mY pW rG rQ)) hP hD 3 rfl rfl rfl
  have hP := hPD.1
  have hD := hPD.2
  refine lv_if_ne (tgt := 16) hx hb eX10_need_0.2.2.2.1 (by decide) (fun hc => ?_) (fun hc => ?_)
  · have hp := hp.1 hc
    exact W.vret hx hb hr (fun t ht hW => ⟨⟨(aAT, eY), rfl, hp, by rw [ht]; exact hP, va_K.moved hW.alike hK, hD⟩, hS.F ht⟩) hS.2.2 eX10_need_0.2.2.2.2.2.2.2.2
  · have hp := hp.2 hc
    refine lv_aload_n hx hb eX10_need_0.2.2.2.2.1 rfl (lv_at hl 0 rfl) ?_
    refine lv_aload_n hx hb eX10_need_0.2.2.2.2.2.1 rfl (lv_at hl 0 rfl) ?_
    refine va_get (D := (dC, dI)) (ci := 10) (v := .int aAT) (C := RX10) (T := TX10) (N := 51) hx hb hts i_X10 hown hK hP 0 rfl rfl 18 (Nat.le_of_ble_eq_true rfl) (hts _ q_648) (fun _ h9 => h9) rfl eX10_need_0.2.2.2.2.2.2.1 ?_
    have hm := mgk (wc := (wd_X10_fault cI cC cZ cB cJ a_m oJ uD dY iJ lJ jQ jR jW jK pJ bM aY jO gR gY mK jZ iY bG mJ jB mQ lY eJ bY bW aG jG bQ dG jY m_length qG aAT eY aJ aB bU dN aR aE bJ aW bT gJ dU bL bR bO mY pW)) hP aGm 3 rfl rfl rfl
    refine g_callv hP hD hS hA (mixT aGm) (mixF aGm) hm.1 hm.2 (nd_F _) (dis_g _) (g_runV (As := [.int aAT]) (rest := []) C0 hP hD hS (mixT aGm) hm.1 (nd_T _) 0 10 rfl rfl (c_X10_fault l dC dI cI cC cZ cB cJ a_m oJ uD dY iJ lJ jQ jR jW jK pJ bM aY jO gR gY mK jZ iY bG mJ jB mQ lY eJ bY H.size aAT bW aG jG bQ dG jY m_length qG aAT eY aJ aB bU dN aR aE bJ aW bT gJ dU bL bR bO mY pW _ hp) q_654 q_657 q_655 q_656 q_642 h_X10_fault rfl rfl ⟨Nat.le_of_ble_eq_true rfl, Nat.le_of_ble_eq_true rfl⟩ rfl rfl hl.1 rfl (lv_room (Nat.le_of_ble_eq_true rfl)) eX10_need_0.2.2.2.2.2.2.2.1 ⟨Nat.zero_le _, Nat.zero_le _⟩) (fun u H locs hp hP hD hS => ?_)
    obtain ⟨zF, rfl⟩ : ∃ z, z = u := ⟨_, rfl⟩
    have hPD := PDm (ws' := (wd_X10_need cI cC cZ cB cJ a_m oJ uD dY iJ lJ jQ jR jW jK pJ bM aY jO gR gY mK jZ iY bG mJ jB mQ lY eJ bY bW aG jG bQ dG jY m_length qG aAT zF aJ aB bU dN aR aE bJ aW bT gJ dU bL bR bO mY pW rG rQ)) hP hD 3 rfl rfl rfl
    have hP := hPD.1
    have hD := hPD.2
    exact W.vret hx hb hr (fun t ht hW => ⟨⟨(aAT, zF), rfl, hp, by rw [ht]; exact hP, va_K.moved hW.alike hK, hD⟩, hS.F ht⟩) hS.2.2 eX10_need_0.2.2.2.2.2.2.2.2
noncomputable abbrev wd_X10_readLine (cI cC cZ cB cJ : ClassId) (a_m oJ uD dY iJ lJ jQ jR jW jK pJ bM aY jO gR gY mK jZ iY bG mJ jB mQ lY eJ bY : Nat) (bW aG jG bQ dG : Int32) (jY : Nat) (m_length qG uW eY aJ aB bU dN aR aE bJ aW bT gJ dU bL bR bO mY pW : Int32) (rG qL pL rQ : Nat → Int32) : va_W := [(a_m, .inr (10, [.ref oJ, .int bW, .ref uD, .ref dY, .ref iJ, .ref lJ, .int aG, .ref jQ, .ref jR, .ref jW, .ref jK, .int jG, .ref pJ, .int bQ, .int dG, rdv jK jO jY, .int m_length, .int qG, .int uW, .int eY, .ref bM, .ref aY, .int aJ, .int aB, .ref jO, .int bU, .int dN, .int aR, .int aE, .int bJ, .int aW, .ref gR, .int bT, .ref gY, .ref mK, .int gJ, .ref jZ, .int dU, .ref iY, .ref bG, .int bL, .int bR, .int bO, .ref mJ, .ref jB, .ref mQ, .int mY, .int pW, .ref lY, .ref eJ, .ref bY])), (jK, .inl (cB, 80, .inl rG)), (bM, .inl (cI, 64, .inl qL)), (aY, .inl (cI, 16, .inl pL)), (jO, .inl (cB, 40, .inl rQ))]
noncomputable abbrev q_X10_readLine (dC : Nat → ClassId) (dI : Nat → Nat → Nat) (cI cC cZ cB cJ : ClassId) (A : Nat → Prop) (a_m oJ uD dY iJ lJ jQ jR jW jK pJ bM aY jO gR gY mK jZ iY bG mJ jB mQ lY eJ bY : Nat) (bW aG jG bQ dG : Int32) (jY : Nat) (m_length qG bU dN aR aE bJ aW bT gJ dU bL bR bO mY pW : Int32) (rG rQ : Nat → Int32) (post : Int32 → Int32 → Int32 → Int32 → (Nat → Int32) → (Nat → Int32) → Prop) : Array Value → State → Outcome → State → Prop := va_Qv (fun (u : Int32 × Int32 × Int32 × Int32 × (Nat → Int32) × (Nat → Int32)) => post u.1 u.2.1 u.2.2.1 u.2.2.2.1 u.2.2.2.2.1 u.2.2.2.2.2) (fun u t => gB (dC, dI) (tyl cI cC cZ cB cJ) A (wd_X10_readLine cI cC cZ cB cJ a_m oJ uD dY iJ lJ jQ jR jW jK pJ bM aY jO gR gY mK jZ iY bG mJ jB mQ lY eJ bY bW aG jG bQ dG jY m_length qG u.1 u.2.1 u.2.2.1 u.2.2.2.1 bU dN aR aE bJ aW bT gJ dU bL bR bO mY pW rG u.2.2.2.2.1 u.2.2.2.2.2 rQ) t) A
noncomputable abbrev rm_X10_readLine : Room := { frames := 3, cells := 0, slots := 0, locals := 64 }
section S_X10_readLine
variable {p : Program} {l : Launch} {e : Env} {s : State} {m : MethodId} {args : Array Value} {below : List Frame} {meth : Method} {c : Code} {dC : Nat → ClassId} {dI : Nat → Nat → Nat} {cI cC cZ cB cJ : ClassId} {A : Nat → Prop} {a_m oJ uD dY iJ lJ jQ jR jW jK pJ bM aY jO gR gY mK jZ iY bG mJ jB mQ lY eJ bY : Nat} {bW aG jG bQ dG : Int32} {jY : Nat} {m_length qG bU dN aR aE bJ aW bT gJ dU bL bR bO mY pW : Int32} {rG rQ : Nat → Int32} {post : Int32 → Int32 → Int32 → Int32 → (Nat → Int32) → (Nat → Int32) → Prop}
noncomputable def ws_X10_readLine_218 (post : Int32 → Int32 → Int32 → Int32 → (Nat → Int32) → (Nat → Int32) → Prop) (bW aG : Int32) (jY : Nat) (m_length qG : Int32) (rG rQ : Nat → Int32) (uW eY aJ aB : Int32) (qL pL : Nat → Int32) : Prop := wp_X10_fault (fun zF => post uW zF aJ aB qL pL) uW eY
set_option maxHeartbeats 4000000 in
set_option maxRecDepth 100000 in
theorem ks_X10_readLine_218 (C0 : gc cX10_readLine none 2 RX10 (dC, dI) (tyl cI cC cZ cB cJ) A p s m args meth c) : ∀ (uW eY aJ aB : Int32) (qL pL : Nat → Int32) (H : Heap) (locs : List Loc) (ls : Array Slot), (ws_X10_readLine_218 post bW aG jY m_length qG rG rQ) uW eY aJ aB qL pL → va_P (dC, dI) classes (wd_X10_readLine cI cC cZ cB cJ a_m oJ uD dY iJ lJ jQ jR jW jK pJ bM aY jO gR gY mK jZ iY bG mJ jB mQ lY eJ bY bW aG jG bQ dG jY m_length qG uW eY aJ aB bU dN aR aE bJ aW bT gJ dU bL bR bO mY pW rG qL pL rQ) H → va_D A (wd_X10_readLine cI cC cZ cB cJ a_m oJ uD dY iJ lJ jQ jR jW jK pJ bM aY jO gR gY mK jZ iY bG mJ jB mQ lY eJ bY bW aG jG bQ dG jY m_length qG uW eY aJ aB bU dN aR aE bJ aW bT gJ dU bL bR bO mY pW rG qL pL rQ) → va_S A s.heap H locs → lv_has ls 2 [(0, .ref a_m)] → W p l e rm_X10_readLine s m args below meth c H locs 0 0 (MQ below (q_X10_readLine dC dI cI cC cZ cB cJ A a_m oJ uD dY iJ lJ jQ jR jW jK pJ bM aY jO gR gY mK jZ iY bG mJ jB mQ lY eJ bY bW aG jG bQ dG jY m_length qG bU dN aR aE bJ aW bT gJ dU bL bR bO mY pW rG rQ post) args s 0 0 A) (F0 m 218 ls []) := by
  obtain ⟨hx, hb, hr, hml, hown, hts, hlocks, hA, hK, hN, tL, tM, hZL, hTL, hZM, hTM, hZX⟩ := id C0
  intro uW eY aJ aB qL pL H locs ls hp hP hD hS hl
  unfold ws_X10_readLine_218 at hp
  refine lv_aload_n hx hb eX10_readLine_196.2.2.2.2.2.2.2.2.2.2.2.2.2.2.1 rfl (lv_at hl 0 rfl) ?_
  refine lv_aload_n hx hb eX10_readLine_196.2.2.2.2.2.2.2.2.2.2.2.2.2.2.2 rfl (lv_at hl 0 rfl) ?_
  refine va_get (D := (dC, dI)) (ci := 10) (v := .int uW) (C := RX10) (T := TX10) (N := 51) hx hb hts i_X10 hown hK hP 0 rfl rfl 18 (Nat.le_of_ble_eq_true rfl) (hts _ q_648) (fun _ h9 => h9) rfl eX10_readLine_220.1 ?_
  have hm := mgk (wc := (wd_X10_fault cI cC cZ cB cJ a_m oJ uD dY iJ lJ jQ jR jW jK pJ bM aY jO gR gY mK jZ iY bG mJ jB mQ lY eJ bY bW aG jG bQ dG jY m_length qG uW eY aJ aB bU dN aR aE bJ aW bT gJ dU bL bR bO mY pW)) hP mk_16 5 rfl rfl rfl
  refine g_callv hP hD hS hA (mixT mk_16) (mixF mk_16) hm.1 hm.2 (nd_F _) (dis_g _) (g_runV (As := [.int uW]) (rest := []) C0 hP hD hS (mixT mk_16) hm.1 (nd_T _) 0 10 rfl rfl (c_X10_fault l dC dI cI cC cZ cB cJ a_m oJ uD dY iJ lJ jQ jR jW jK pJ bM aY jO gR gY mK jZ iY bG mJ jB mQ lY eJ bY H.size uW bW aG jG bQ dG jY m_length qG uW eY aJ aB bU dN aR aE bJ aW bT gJ dU bL bR bO mY pW _ hp) q_654 q_657 q_655 q_656 q_642 h_X10_fault rfl rfl ⟨Nat.le_of_ble_eq_true rfl, Nat.le_of_ble_eq_true rfl⟩ rfl rfl hl.1 rfl (lv_room (Nat.le_of_ble_eq_true rfl)) eX10_readLine_220.2.1 ⟨Nat.zero_le _, Nat.zero_le _⟩) (fun u H locs hp hP hD hS => ?_)
  obtain ⟨zF, rfl⟩ : ∃ z, z = u := ⟨_, rfl⟩
  have hPD := PDm (ws' := (wd_X10_readLine cI cC cZ cB cJ a_m oJ uD dY iJ lJ jQ jR jW jK pJ bM aY jO gR gY mK jZ iY bG mJ jB mQ lY eJ bY bW aG jG bQ dG jY m_length qG uW zF aJ aB bU dN aR aE bJ aW bT gJ dU bL bR bO mY pW rG qL pL rQ)) hP hD 5 rfl rfl rfl
  have hP := hPD.1
  have hD := hPD.2
  exact W.vret hx hb hr (fun t ht hW => ⟨⟨(uW, zF, aJ, aB, qL, pL), rfl, hp, by rw [ht]; exact hP, va_K.moved hW.alike hK, hD⟩, hS.F ht⟩) hS.2.2 eX10_readLine_220.2.2
noncomputable def ws_X10_readLine_135 (post : Int32 → Int32 → Int32 → Int32 → (Nat → Int32) → (Nat → Int32) → Prop) (bW aG : Int32) (jY : Nat) (m_length qG : Int32) (rG rQ : Nat → Int32) (uW eY aJ aB : Int32) (qL pL : Nat → Int32) : Prop := wp_X10_here (fun r_2 => (¬ r_2 = 115 → ws_X10_readLine_218 post bW aG jY m_length qG rG rQ uW eY aJ aB qL pL) ∧ (r_2 = 115 → ∀ v_4 : Int32, v_4 = aG + aB → (8 ≤ v_4 → ws_X10_readLine_218 post bW aG jY m_length qG rG rQ uW eY aJ aB qL pL) ∧ (¬ 8 ≤ v_4 → ∀ v_5 : Int32, v_5 = 2 * aB → ∀ v_6 : Int32, v_6 = uW + 1 → wp_X10_number (fun r_7 aBm zO => vp_in v_5 16 ∧ (wp_X10_need (fun aB2 zZ => ∀ v_12 : Int32, v_12 = v_5 + 1 → wp_X10_number (fun r_13 aIA aBJ => vp_in v_12 16 ∧ (∀ v_16 : Int32, v_16 = aB + 1 → post aIA aBJ aJ v_16 qL (upd (upd pL v_5.toNatClampNeg r_7) v_12.toNatClampNeg r_13))) 2 jY m_length qG aB2 zZ rG rQ) 44 jY m_length qG aBm zO rG rQ)) 2 jY m_length qG v_6 eY rG rQ))) jY m_length qG uW rG rQ
set_option maxHeartbeats 4000000 in
set_option maxRecDepth 100000 in
theorem ks_X10_readLine_135 (C0 : gc cX10_readLine none 2 RX10 (dC, dI) (tyl cI cC cZ cB cJ) A p s m args meth c) : ∀ (uW eY aJ aB : Int32) (qL pL : Nat → Int32) (H : Heap) (locs : List Loc) (ls : Array Slot), (ws_X10_readLine_135 post bW aG jY m_length qG rG rQ) uW eY aJ aB qL pL → va_P (dC, dI) classes (wd_X10_readLine cI cC cZ cB cJ a_m oJ uD dY iJ lJ jQ jR jW jK pJ bM aY jO gR gY mK jZ iY bG mJ jB mQ lY eJ bY bW aG jG bQ dG jY m_length qG uW eY aJ aB bU dN aR aE bJ aW bT gJ dU bL bR bO mY pW rG qL pL rQ) H → va_D A (wd_X10_readLine cI cC cZ cB cJ a_m oJ uD dY iJ lJ jQ jR jW jK pJ bM aY jO gR gY mK jZ iY bG mJ jB mQ lY eJ bY bW aG jG bQ dG jY m_length qG uW eY aJ aB bU dN aR aE bJ aW bT gJ dU bL bR bO mY pW rG qL pL rQ) → va_S A s.heap H locs → lv_has ls 2 [(0, .ref a_m)] → W p l e rm_X10_readLine s m args below meth c H locs 0 0 (MQ below (q_X10_readLine dC dI cI cC cZ cB cJ A a_m oJ uD dY iJ lJ jQ jR jW jK pJ bM aY jO gR gY mK jZ iY bG mJ jB mQ lY eJ bY bW aG jG bQ dG jY m_length qG bU dN aR aE bJ aW bT gJ dU bL bR bO mY pW rG rQ post) args s 0 0 A) (F0 m 135 ls []) := by
  obtain ⟨hx, hb, hr, hml, hown, hts, hlocks, hA, hK, hN, tL, tM, hZL, hTL, hZM, hTM, hZX⟩ := id C0
  intro uW eY aJ aB qL pL H locs ls hp hP hD hS hl
  unfold ws_X10_readLine_135 at hp
  refine lv_aload_n hx hb eX10_readLine_109.2.2.2.2.2.2.2.2.2.2.2.2.2.2.1 rfl (lv_at hl 0 rfl) ?_
  have hm := mgk (wc := (wd_X10_here cI cC cZ cB cJ a_m oJ uD dY iJ lJ jQ jR jW jK pJ bM aY jO gR gY mK jZ iY bG mJ jB mQ lY eJ bY bW aG jG bQ dG jY m_length qG uW eY aJ aB bU dN aR aE bJ aW bT gJ dU bL bR bO mY pW rG rQ)) hP aAX 5 rfl rfl rfl
  refine g_calli hP hD hS hA (mixT aAX) (mixF aAX) hm.1 hm.2 (nd_F _) (dis_g _) (g_runV (As := []) (rest := []) C0 hP hD hS (mixT aAX) hm.1 (nd_T _) 0 10 rfl rfl (c_X10_here l dC dI cI cC cZ cB cJ a_m oJ uD dY iJ lJ jQ jR jW jK pJ bM aY jO gR gY mK jZ iY bG mJ jB mQ lY eJ bY H.size bW aG jG bQ dG jY m_length qG uW eY aJ aB bU dN aR aE bJ aW bT gJ dU bL bR bO mY pW rG rQ _ hp) q_658 q_661 q_659 q_660 q_642 h_X10_here rfl rfl ⟨Nat.le_of_ble_eq_true rfl, Nat.le_of_ble_eq_true rfl⟩ rfl rfl hl.1 rfl (lv_room (Nat.le_of_ble_eq_true rfl)) eX10_readLine_109.2.2.2.2.2.2.2.2.2.2.2.2.2.2.2 ⟨Nat.zero_le _, Nat.zero_le _⟩) (fun r_2 u H locs hp hP hD hS => ?_)
  have hPD := PDm (ws' := (wd_X10_readLine cI cC cZ cB cJ a_m oJ uD dY iJ lJ jQ jR jW jK pJ bM aY jO gR gY mK jZ iY bG mJ jB mQ lY eJ bY bW aG jG bQ dG jY m_length qG uW eY aJ aB bU dN aR aE bJ aW bT gJ dU bL bR bO mY pW rG qL pL rQ)) hP hD 5 rfl rfl rfl
  have hP := hPD.1
  have hD := hPD.2
  refine lv_bipush (v := 115) hx hb eX10_readLine_139.1 bp_115 ?_
  refine lv_icmp_ne (tgt := 218) hx hb eX10_readLine_139.2.1 (by decide) (fun hc => ?_) (fun hc => ?_)
  · have hp := hp.1 hc
    exact ks_X10_readLine_218 C0 uW eY aJ aB qL pL H locs ls hp hP hD hS (lv_sub hl [0] rfl)
  · have hp := hp.2 hc
    refine lv_aload_n hx hb eX10_readLine_139.2.2.1 rfl (lv_at hl 0 rfl) ?_
    refine va_get (D := (dC, dI)) (ci := 10) (v := .int aG) (C := RX10) (T := TX10) (N := 51) hx hb hts i_X10 hown hK hP 0 rfl rfl 6 (Nat.le_of_ble_eq_true rfl) (hts _ q_666) (fun _ h9 => h9) rfl eX10_readLine_139.2.2.2.1 ?_
    refine lv_aload_n hx hb eX10_readLine_139.2.2.2.2.1 rfl (lv_at hl 0 rfl) ?_
    refine va_get (D := (dC, dI)) (ci := 10) (v := .int aB) (C := RX10) (T := TX10) (N := 51) hx hb hts i_X10 hown hK hP 0 rfl rfl 23 (Nat.le_of_ble_eq_true rfl) (hts _ q_667) (fun _ h9 => h9) rfl eX10_readLine_139.2.2.2.2.2.1 ?_
    refine lv_iadd hx hb eX10_readLine_139.2.2.2.2.2.2.1 ?_
    refine lv_topi (fun v_4 ev_4 => ?_)
    have hp := hp v_4 ev_4
    refine lv_bipush (v := 8) hx hb eX10_readLine_139.2.2.2.2.2.2.2.1 bp_8 ?_
    refine lv_icmp_ge (tgt := 218) hx hb eX10_readLine_139.2.2.2.2.2.2.2.2.1 (by decide) (fun hc => ?_) (fun hc => ?_)
    · have hp := hp.1 hc
      exact ks_X10_readLine_218 C0 uW eY aJ aB qL pL H locs ls hp hP hD hS (lv_sub hl [0] rfl)
    · have hp := hp.2 hc
      refine lv_iconst (v := 2) hx hb eX10_readLine_139.2.2.2.2.2.2.2.2.2.1 ic_2 ?_
      refine lv_aload_n hx hb eX10_readLine_139.2.2.2.2.2.2.2.2.2.2.1 rfl (lv_at hl 0 rfl) ?_
      refine va_get (D := (dC, dI)) (ci := 10) (v := .int aB) (C := RX10) (T := TX10) (N := 51) hx hb hts i_X10 hown hK hP 0 rfl rfl 23 (Nat.le_of_ble_eq_true rfl) (hts _ q_667) (fun _ h9 => h9) rfl eX10_readLine_139.2.2.2.2.2.2.2.2.2.2.2.1 ?_
      refine lv_imul hx hb eX10_readLine_139.2.2.2.2.2.2.2.2.2.2.2.2.1 ?_
      refine lv_topi (fun v_5 ev_5 => ?_)
      have hp := hp v_5 ev_5
      refine lv_istore_n (lv' := [(1, .int v_5), (0, .ref a_m)]) hx hb eX10_readLine_139.2.2.2.2.2.2.2.2.2.2.2.2.2.1 rfl hl (by decide) rfl (fun ls hl => ?_)
      refine lv_aload_n hx hb eX10_readLine_139.2.2.2.2.2.2.2.2.2.2.2.2.2.2.1 rfl (lv_at hl 1 rfl) ?_
      refine lv_dup hx hb eX10_readLine_139.2.2.2.2.2.2.2.2.2.2.2.2.2.2.2 rfl ?_
      refine va_get (D := (dC, dI)) (ci := 10) (v := .int uW) (C := RX10) (T := TX10) (N := 51) hx hb hts i_X10 hown hK hP 0 rfl rfl 18 (Nat.le_of_ble_eq_true rfl) (hts _ q_648) (fun _ h9 => h9) rfl eX10_readLine_167.1 ?_
      refine lv_iconst (v := 1) hx hb eX10_readLine_167.2.1 ic_1 ?_
      refine lv_iadd hx hb eX10_readLine_167.2.2.1 ?_
      refine lv_topi (fun v_6 ev_6 => ?_)
      have hp := hp v_6 ev_6
      refine va_put (D := (dC, dI)) (ci := 10) (v := .int v_6) (ty := .int) (C := RX10) (T := TX10) (N := 51) hx hb hts i_X10 tyX10 tyX10_ok nmX10 hown hK hP hD hS 0 rfl rfl 18 (Nat.le_of_ble_eq_true rfl) (hts _ q_648) (fun _ h9 => h9) rfl (tyX10_ok 18 (Nat.le_of_ble_eq_true rfl)) rfl rfl (Nat.le_of_ble_eq_true rfl) eX10_readLine_167.2.2.2.1 (fun H locs hP hD hS => ?_)
      have hP : va_P (dC, dI) classes (wd_X10_readLine cI cC cZ cB cJ a_m oJ uD dY iJ lJ jQ jR jW jK pJ bM aY jO gR gY mK jZ iY bG mJ jB mQ lY eJ bY bW aG jG bQ dG jY m_length qG v_6 eY aJ aB bU dN aR aE bJ aW bT gJ dU bL bR bO mY pW rG qL pL rQ) H := hP
      have hD : va_D A (wd_X10_readLine cI cC cZ cB cJ a_m oJ uD dY iJ lJ jQ jR jW jK pJ bM aY jO gR gY mK jZ iY bG mJ jB mQ lY eJ bY bW aG jG bQ dG jY m_length qG v_6 eY aJ aB bU dN aR aE bJ aW bT gJ dU bL bR bO mY pW rG qL pL rQ) := hD
      refine lv_aload_n hx hb eX10_readLine_167.2.2.2.2.1 rfl (lv_at hl 1 rfl) ?_
      refine va_get (D := (dC, dI)) (ci := 10) (v := .ref aY) (C := RX10) (T := TX10) (N := 51) hx hb hts i_X10 hown hK hP 0 rfl rfl 21 (Nat.le_of_ble_eq_true rfl) (hts _ q_668) (fun _ h9 => h9) rfl eX10_readLine_167.2.2.2.2.2.1 ?_
      refine lv_iload_n hx hb eX10_readLine_167.2.2.2.2.2.2.1 rfl (lv_at hl 0 rfl) ?_
      refine lv_aload_n hx hb eX10_readLine_167.2.2.2.2.2.2.2.1 rfl (lv_at hl 1 rfl) ?_
      refine lv_iconst (v := 2) hx hb eX10_readLine_167.2.2.2.2.2.2.2.2.1 ic_2 ?_
      have hm := mgk (wc := (wd_X10_number cI cC cZ cB cJ a_m oJ uD dY iJ lJ jQ jR jW jK pJ bM aY jO gR gY mK jZ iY bG mJ jB mQ lY eJ bY bW aG jG bQ dG jY m_length qG v_6 eY aJ aB bU dN aR aE bJ aW bT gJ dU bL bR bO mY pW rG rQ)) hP aAX 5 rfl rfl rfl
      refine g_calli hP hD hS hA (mixT aAX) (mixF aAX) hm.1 hm.2 (nd_F _) (dis_g _) (g_runV (As := [.int 2]) (rest := [.int v_5, .ref aY]) C0 hP hD hS (mixT aAX) hm.1 (nd_T _) 0 10 rfl rfl (c_X10_number l dC dI cI cC cZ cB cJ a_m oJ uD dY iJ lJ jQ jR jW jK pJ bM aY jO gR gY mK jZ iY bG mJ jB mQ lY eJ bY H.size 2 bW aG jG bQ dG jY m_length qG v_6 eY aJ aB bU dN aR aE bJ aW bT gJ dU bL bR bO mY pW rG rQ _ hp) q_669 q_672 q_670 q_671 q_642 h_X10_number rfl rfl ⟨Nat.le_of_ble_eq_true rfl, Nat.le_of_ble_eq_true rfl⟩ rfl rfl hl.1 rfl (lv_room (Nat.le_of_ble_eq_true rfl)) eX10_readLine_167.2.2.2.2.2.2.2.2.2.1 ⟨Nat.zero_le _, Nat.zero_le _⟩) (fun r_7 u H locs hp hP hD hS => ?_)
      obtain ⟨aBm, zO⟩ := u
      have hPD := PDm (ws' := (wd_X10_readLine cI cC cZ cB cJ a_m oJ uD dY iJ lJ jQ jR jW jK pJ bM aY jO gR gY mK jZ iY bG mJ jB mQ lY eJ bY bW aG jG bQ dG jY m_length qG aBm zO aJ aB bU dN aR aE bJ aW bT gJ dU bL bR bO mY pW rG qL pL rQ)) hP hD 5 rfl rfl rfl
      have hP := hPD.1
      have hD := hPD.2
      have hin := hp.1
      have hp := hp.2
      refine va_iast hx hb hK hP hD hS 3 0 rfl rfl hin eX10_readLine_167.2.2.2.2.2.2.2.2.2.2.1 (fun H locs hP hD hS => ?_)
      have hP : va_P (dC, dI) classes (wd_X10_readLine cI cC cZ cB cJ a_m oJ uD dY iJ lJ jQ jR jW jK pJ bM aY jO gR gY mK jZ iY bG mJ jB mQ lY eJ bY bW aG jG bQ dG jY m_length qG aBm zO aJ aB bU dN aR aE bJ aW bT gJ dU bL bR bO mY pW rG qL (upd pL v_5.toNatClampNeg r_7) rQ) H := hP
      have hD : va_D A (wd_X10_readLine cI cC cZ cB cJ a_m oJ uD dY iJ lJ jQ jR jW jK pJ bM aY jO gR gY mK jZ iY bG mJ jB mQ lY eJ bY bW aG jG bQ dG jY m_length qG aBm zO aJ aB bU dN aR aE bJ aW bT gJ dU bL bR bO mY pW rG qL (upd pL v_5.toNatClampNeg r_7) rQ) := hD
      refine lv_aload_n hx hb eX10_readLine_167.2.2.2.2.2.2.2.2.2.2.2.1 rfl (lv_at hl 1 rfl) ?_
      refine lv_bipush (v := 44) hx hb eX10_readLine_167.2.2.2.2.2.2.2.2.2.2.2.2.1 bp_44 ?_
      have hm := mgk (wc := (wd_X10_need cI cC cZ cB cJ a_m oJ uD dY iJ lJ jQ jR jW jK pJ bM aY jO gR gY mK jZ iY bG mJ jB mQ lY eJ bY bW aG jG bQ dG jY m_length qG aBm zO aJ aB bU dN aR aE bJ aW bT gJ dU bL bR bO mY pW rG rQ)) hP aAX 5 rfl rfl rfl
      refine g_callv hP hD hS hA (mixT aAX) (mixF aAX) hm.1 hm.2 (nd_F _) (dis_g _) (g_runV (As := [.int 44]) (rest := []) C0 hP hD hS (mixT aAX) hm.1 (nd_T _) 0 10 rfl rfl (c_X10_need l dC dI cI cC cZ cB cJ a_m oJ uD dY iJ lJ jQ jR jW jK pJ bM aY jO gR gY mK jZ iY bG mJ jB mQ lY eJ bY H.size 44 bW aG jG bQ dG jY m_length qG aBm zO aJ aB bU dN aR aE bJ aW bT gJ dU bL bR bO mY pW rG rQ _ hp) q_673 q_676 q_674 q_675 q_642 h_X10_need rfl rfl ⟨Nat.le_of_ble_eq_true rfl, Nat.le_of_ble_eq_true rfl⟩ rfl rfl hl.1 rfl (lv_room (Nat.le_of_ble_eq_true rfl)) eX10_readLine_167.2.2.2.2.2.2.2.2.2.2.2.2.2.1 ⟨Nat.zero_le _, Nat.zero_le _⟩) (fun u H locs hp hP hD hS => ?_)
      obtain ⟨aB2, zZ⟩ := u
      have hPD := PDm (ws' := (wd_X10_readLine cI cC cZ cB cJ a_m oJ uD dY iJ lJ jQ jR jW jK pJ bM aY jO gR gY mK jZ iY bG mJ jB mQ lY eJ bY bW aG jG bQ dG jY m_length qG aB2 zZ aJ aB bU dN aR aE bJ aW bT gJ dU bL bR bO mY pW rG qL (upd pL v_5.toNatClampNeg r_7) rQ)) hP hD 5 rfl rfl rfl
      have hP := hPD.1
      have hD := hPD.2
      refine lv_aload_n hx hb eX10_readLine_167.2.2.2.2.2.2.2.2.2.2.2.2.2.2.1 rfl (lv_at hl 1 rfl) ?_
      refine va_get (D := (dC, dI)) (ci := 10) (v := .ref aY) (C := RX10) (T := TX10) (N := 51) hx hb hts i_X10 hown hK hP 0 rfl rfl 21 (Nat.le_of_ble_eq_true rfl) (hts _ q_668) (fun _ h9 => h9) rfl eX10_readLine_167.2.2.2.2.2.2.2.2.2.2.2.2.2.2.2 ?_
      refine lv_iload_n hx hb eX10_readLine_196.1 rfl (lv_at hl 0 rfl) ?_
      refine lv_iconst (v := 1) hx hb eX10_readLine_196.2.1 ic_1 ?_
      refine lv_iadd hx hb eX10_readLine_196.2.2.1 ?_
      refine lv_topi (fun v_12 ev_12 => ?_)
      have hp := hp v_12 ev_12
      refine lv_aload_n hx hb eX10_readLine_196.2.2.2.1 rfl (lv_at hl 1 rfl) ?_
      refine lv_iconst (v := 2) hx hb eX10_readLine_196.2.2.2.2.1 ic_2 ?_
      have hm := mgk (wc := (wd_X10_number cI cC cZ cB cJ a_m oJ uD dY iJ lJ jQ jR jW jK pJ bM aY jO gR gY mK jZ iY bG mJ jB mQ lY eJ bY bW aG jG bQ dG jY m_length qG aB2 zZ aJ aB bU dN aR aE bJ aW bT gJ dU bL bR bO mY pW rG rQ)) hP aAX 5 rfl rfl rfl
      refine g_calli hP hD hS hA (mixT aAX) (mixF aAX) hm.1 hm.2 (nd_F _) (dis_g _) (g_runV (As := [.int 2]) (rest := [.int v_12, .ref aY]) C0 hP hD hS (mixT aAX) hm.1 (nd_T _) 0 10 rfl rfl (c_X10_number l dC dI cI cC cZ cB cJ a_m oJ uD dY iJ lJ jQ jR jW jK pJ bM aY jO gR gY mK jZ iY bG mJ jB mQ lY eJ bY H.size 2 bW aG jG bQ dG jY m_length qG aB2 zZ aJ aB bU dN aR aE bJ aW bT gJ dU bL bR bO mY pW rG rQ _ hp) q_669 q_672 q_670 q_671 q_642 h_X10_number rfl rfl ⟨Nat.le_of_ble_eq_true rfl, Nat.le_of_ble_eq_true rfl⟩ rfl rfl hl.1 rfl (lv_room (Nat.le_of_ble_eq_true rfl)) eX10_readLine_196.2.2.2.2.2.1 ⟨Nat.zero_le _, Nat.zero_le _⟩) (fun r_13 u H locs hp hP hD hS => ?_)
      obtain ⟨aIA, aBJ⟩ := u
      have hPD := PDm (ws' := (wd_X10_readLine cI cC cZ cB cJ a_m oJ uD dY iJ lJ jQ jR jW jK pJ bM aY jO gR gY mK jZ iY bG mJ jB mQ lY eJ bY bW aG jG bQ dG jY m_length qG aIA aBJ aJ aB bU dN aR aE bJ aW bT gJ dU bL bR bO mY pW rG qL (upd pL v_5.toNatClampNeg r_7) rQ)) hP hD 5 rfl rfl rfl
      have hP := hPD.1
      have hD := hPD.2
      have hin := hp.1
      have hp := hp.2
      refine va_iast hx hb hK hP hD hS 3 0 rfl rfl hin eX10_readLine_196.2.2.2.2.2.2.1 (fun H locs hP hD hS => ?_)
      have hP : va_P (dC, dI) classes (wd_X10_readLine cI cC cZ cB cJ a_m oJ uD dY iJ lJ jQ jR jW jK pJ bM aY jO gR gY mK jZ iY bG mJ jB mQ lY eJ bY bW aG jG bQ dG jY m_length qG aIA aBJ aJ aB bU dN aR aE bJ aW bT gJ dU bL bR bO mY pW rG qL (upd (upd pL v_5.toNatClampNeg r_7) v_12.toNatClampNeg r_13) rQ) H := hP
      have hD : va_D A (wd_X10_readLine cI cC cZ cB cJ a_m oJ uD dY iJ lJ jQ jR jW jK pJ bM aY jO gR gY mK jZ iY bG mJ jB mQ lY eJ bY bW aG jG bQ dG jY m_length qG aIA aBJ aJ aB bU dN aR aE bJ aW bT gJ dU bL bR bO mY pW rG qL (upd (upd pL v_5.toNatClampNeg r_7) v_12.toNatClampNeg r_13) rQ) := hD
      refine lv_aload_n hx hb eX10_readLine_196.2.2.2.2.2.2.2.1 rfl (lv_at hl 1 rfl) ?_
      refine lv_dup hx hb eX10_readLine_196.2.2.2.2.2.2.2.2.1 rfl ?_
      refine va_get (D := (dC, dI)) (ci := 10) (v := .int aB) (C := RX10) (T := TX10) (N := 51) hx hb hts i_X10 hown hK hP 0 rfl rfl 23 (Nat.le_of_ble_eq_true rfl) (hts _ q_667) (fun _ h9 => h9) rfl eX10_readLine_196.2.2.2.2.2.2.2.2.2.1 ?_
      refine lv_iconst (v := 1) hx hb eX10_readLine_196.2.2.2.2.2.2.2.2.2.2.1 ic_1 ?_
      refine lv_iadd hx hb eX10_readLine_196.2.2.2.2.2.2.2.2.2.2.2.1 ?_
      refine lv_topi (fun v_16 ev_16 => ?_)
      have hp := hp v_16 ev_16
      refine va_put (D := (dC, dI)) (ci := 10) (v := .int v_16) (ty := .int) (C := RX10) (T := TX10) (N := 51) hx hb hts i_X10 tyX10 tyX10_ok nmX10 hown hK hP hD hS 0 rfl rfl 23 (Nat.le_of_ble_eq_true rfl) (hts _ q_667) (fun _ h9 => h9) rfl (tyX10_ok 23 (Nat.le_of_ble_eq_true rfl)) rfl rfl (Nat.le_of_ble_eq_true rfl) eX10_readLine_196.2.2.2.2.2.2.2.2.2.2.2.2.1 (fun H locs hP hD hS => ?_)
      have hP : va_P (dC, dI) classes (wd_X10_readLine cI cC cZ cB cJ a_m oJ uD dY iJ lJ jQ jR jW jK pJ bM aY jO gR gY mK jZ iY bG mJ jB mQ lY eJ bY bW aG jG bQ dG jY m_length qG aIA aBJ aJ v_16 bU dN aR aE bJ aW bT gJ dU bL bR bO mY pW rG qL (upd (upd pL v_5.toNatClampNeg r_7) v_12.toNatClampNeg r_13) rQ) H := hP
      have hD : va_D A (wd_X10_readLine cI cC cZ cB cJ a_m oJ uD dY iJ lJ jQ jR jW jK pJ bM aY jO gR gY mK jZ iY bG mJ jB mQ lY eJ bY bW aG jG bQ dG jY m_length qG aIA aBJ aJ v_16 bU dN aR aE bJ aW bT gJ dU bL bR bO mY pW rG qL (upd (upd pL v_5.toNatClampNeg r_7) v_12.toNatClampNeg r_13) rQ) := hD
      refine lv_goto (tgt := 226) hx hb eX10_readLine_196.2.2.2.2.2.2.2.2.2.2.2.2.2.1 (by decide) ?_
      exact W.vret hx hb hr (fun t ht hW => ⟨⟨(aIA, aBJ, aJ, v_16, qL, (upd (upd pL v_5.toNatClampNeg r_7) v_12.toNatClampNeg r_13)), rfl, hp, by rw [ht]; exact hP, va_K.moved hW.alike hK, hD⟩, hS.F ht⟩) hS.2.2 eX10_readLine_220.2.2
noncomputable def ws_X10_readLine_121 (post : Int32 → Int32 → Int32 → Int32 → (Nat → Int32) → (Nat → Int32) → Prop) (bW aG : Int32) (jY : Nat) (m_length qG : Int32) (rG rQ : Nat → Int32) (k1 k2 uW eY aJ aB : Int32) (qL pL : Nat → Int32) : Prop := vp_in k1 64 ∧ (∀ v_35 : Int32, v_35 = aJ + 1 → post uW eY v_35 aB (upd qL k1.toNatClampNeg k2) pL)
set_option maxHeartbeats 4000000 in
set_option maxRecDepth 100000 in
theorem ks_X10_readLine_121 (C0 : gc cX10_readLine none 2 RX10 (dC, dI) (tyl cI cC cZ cB cJ) A p s m args meth c) : ∀ (k1 k2 uW eY aJ aB : Int32) (qL pL : Nat → Int32) (H : Heap) (locs : List Loc) (ls : Array Slot), (ws_X10_readLine_121 post bW aG jY m_length qG rG rQ) k1 k2 uW eY aJ aB qL pL → va_P (dC, dI) classes (wd_X10_readLine cI cC cZ cB cJ a_m oJ uD dY iJ lJ jQ jR jW jK pJ bM aY jO gR gY mK jZ iY bG mJ jB mQ lY eJ bY bW aG jG bQ dG jY m_length qG uW eY aJ aB bU dN aR aE bJ aW bT gJ dU bL bR bO mY pW rG qL pL rQ) H → va_D A (wd_X10_readLine cI cC cZ cB cJ a_m oJ uD dY iJ lJ jQ jR jW jK pJ bM aY jO gR gY mK jZ iY bG mJ jB mQ lY eJ bY bW aG jG bQ dG jY m_length qG uW eY aJ aB bU dN aR aE bJ aW bT gJ dU bL bR bO mY pW rG qL pL rQ) → va_S A s.heap H locs → lv_has ls 2 [(0, .ref a_m)] → W p l e rm_X10_readLine s m args below meth c H locs 0 0 (MQ below (q_X10_readLine dC dI cI cC cZ cB cJ A a_m oJ uD dY iJ lJ jQ jR jW jK pJ bM aY jO gR gY mK jZ iY bG mJ jB mQ lY eJ bY bW aG jG bQ dG jY m_length qG bU dN aR aE bJ aW bT gJ dU bL bR bO mY pW rG rQ post) args s 0 0 A) (F0 m 121 ls [.int k2, .int k1, .ref bM]) := by
  obtain ⟨hx, hb, hr, hml, hown, hts, hlocks, hA, hK, hN, tL, tM, hZL, hTL, hZM, hTM, hZX⟩ := id C0
  intro k1 k2 uW eY aJ aB qL pL H locs ls hp hP hD hS hl
  unfold ws_X10_readLine_121 at hp
  have hin := hp.1
  have hp := hp.2
  refine va_iast hx hb hK hP hD hS 2 0 rfl rfl hin eX10_readLine_109.2.2.2.2.2.2.1 (fun H locs hP hD hS => ?_)
  have hP : va_P (dC, dI) classes (wd_X10_readLine cI cC cZ cB cJ a_m oJ uD dY iJ lJ jQ jR jW jK pJ bM aY jO gR gY mK jZ iY bG mJ jB mQ lY eJ bY bW aG jG bQ dG jY m_length qG uW eY aJ aB bU dN aR aE bJ aW bT gJ dU bL bR bO mY pW rG (upd qL k1.toNatClampNeg k2) pL rQ) H := hP
  have hD : va_D A (wd_X10_readLine cI cC cZ cB cJ a_m oJ uD dY iJ lJ jQ jR jW jK pJ bM aY jO gR gY mK jZ iY bG mJ jB mQ lY eJ bY bW aG jG bQ dG jY m_length qG uW eY aJ aB bU dN aR aE bJ aW bT gJ dU bL bR bO mY pW rG (upd qL k1.toNatClampNeg k2) pL rQ) := hD
  refine lv_aload_n hx hb eX10_readLine_109.2.2.2.2.2.2.2.1 rfl (lv_at hl 0 rfl) ?_
  refine lv_dup hx hb eX10_readLine_109.2.2.2.2.2.2.2.2.1 rfl ?_
  refine va_get (D := (dC, dI)) (ci := 10) (v := .int aJ) (C := RX10) (T := TX10) (N := 51) hx hb hts i_X10 hown hK hP 0 rfl rfl 22 (Nat.le_of_ble_eq_true rfl) (hts _ q_678) (fun _ h9 => h9) rfl eX10_readLine_109.2.2.2.2.2.2.2.2.2.1 ?_
  refine lv_iconst (v := 1) hx hb eX10_readLine_109.2.2.2.2.2.2.2.2.2.2.1 ic_1 ?_
  refine lv_iadd hx hb eX10_readLine_109.2.2.2.2.2.2.2.2.2.2.2.1 ?_
  refine lv_topi (fun v_35 ev_35 => ?_)
  have hp := hp v_35 ev_35
  refine va_put (D := (dC, dI)) (ci := 10) (v := .int v_35) (ty := .int) (C := RX10) (T := TX10) (N := 51) hx hb hts i_X10 tyX10 tyX10_ok nmX10 hown hK hP hD hS 0 rfl rfl 22 (Nat.le_of_ble_eq_true rfl) (hts _ q_678) (fun _ h9 => h9) rfl (tyX10_ok 22 (Nat.le_of_ble_eq_true rfl)) rfl rfl (Nat.le_of_ble_eq_true rfl) eX10_readLine_109.2.2.2.2.2.2.2.2.2.2.2.2.1 (fun H locs hP hD hS => ?_)
  have hP : va_P (dC, dI) classes (wd_X10_readLine cI cC cZ cB cJ a_m oJ uD dY iJ lJ jQ jR jW jK pJ bM aY jO gR gY mK jZ iY bG mJ jB mQ lY eJ bY bW aG jG bQ dG jY m_length qG uW eY v_35 aB bU dN aR aE bJ aW bT gJ dU bL bR bO mY pW rG (upd qL k1.toNatClampNeg k2) pL rQ) H := hP
  have hD : va_D A (wd_X10_readLine cI cC cZ cB cJ a_m oJ uD dY iJ lJ jQ jR jW jK pJ bM aY jO gR gY mK jZ iY bG mJ jB mQ lY eJ bY bW aG jG bQ dG jY m_length qG uW eY v_35 aB bU dN aR aE bJ aW bT gJ dU bL bR bO mY pW rG (upd qL k1.toNatClampNeg k2) pL rQ) := hD
  refine lv_goto (tgt := 226) hx hb eX10_readLine_109.2.2.2.2.2.2.2.2.2.2.2.2.2.1 (by decide) ?_
  exact W.vret hx hb hr (fun t ht hW => ⟨⟨(uW, eY, v_35, aB, (upd qL k1.toNatClampNeg k2), pL), rfl, hp, by rw [ht]; exact hP, va_K.moved hW.alike hK, hD⟩, hS.F ht⟩) hS.2.2 eX10_readLine_220.2.2
noncomputable def ws_X10_readLine_95 (post : Int32 → Int32 → Int32 → Int32 → (Nat → Int32) → (Nat → Int32) → Prop) (bW aG : Int32) (jY : Nat) (m_length qG : Int32) (rG rQ : Nat → Int32) (x1 k1 k2 uW eY aJ aB : Int32) (qL pL : Nat → Int32) : Prop := vp_in k1 64 ∧ (∀ v_32 : Int32, v_32 = x1 + 3 → wp_X10_passes (fun r_33 aLg => (r_33 = 0 → ws_X10_readLine_121 post bW aG jY m_length qG rG rQ v_32 0 aLg eY aJ aB (upd qL k1.toNatClampNeg k2) pL) ∧ (¬ r_33 = 0 → wp_X10_number (fun r_36 m_at_37 m_wrong_38 => ws_X10_readLine_121 post bW aG jY m_length qG rG rQ v_32 r_36 m_at_37 m_wrong_38 aJ aB (upd qL k1.toNatClampNeg k2) pL) 1 jY m_length qG aLg eY rG rQ)) 64 jY m_length qG uW eY rG rQ)
set_option maxHeartbeats 4000000 in
set_option maxRecDepth 100000 in
theorem ks_X10_readLine_95 (C0 : gc cX10_readLine none 2 RX10 (dC, dI) (tyl cI cC cZ cB cJ) A p s m args meth c) : ∀ (x1 k1 k2 uW eY aJ aB : Int32) (qL pL : Nat → Int32) (H : Heap) (locs : List Loc) (ls : Array Slot), (ws_X10_readLine_95 post bW aG jY m_length qG rG rQ) x1 k1 k2 uW eY aJ aB qL pL → va_P (dC, dI) classes (wd_X10_readLine cI cC cZ cB cJ a_m oJ uD dY iJ lJ jQ jR jW jK pJ bM aY jO gR gY mK jZ iY bG mJ jB mQ lY eJ bY bW aG jG bQ dG jY m_length qG uW eY aJ aB bU dN aR aE bJ aW bT gJ dU bL bR bO mY pW rG qL pL rQ) H → va_D A (wd_X10_readLine cI cC cZ cB cJ a_m oJ uD dY iJ lJ jQ jR jW jK pJ bM aY jO gR gY mK jZ iY bG mJ jB mQ lY eJ bY bW aG jG bQ dG jY m_length qG uW eY aJ aB bU dN aR aE bJ aW bT gJ dU bL bR bO mY pW rG qL pL rQ) → va_S A s.heap H locs → lv_has ls 2 [(0, .ref a_m), (1, .int x1)] → W p l e rm_X10_readLine s m args below meth c H locs 0 0 (MQ below (q_X10_readLine dC dI cI cC cZ cB cJ A a_m oJ uD dY iJ lJ jQ jR jW jK pJ bM aY jO gR gY mK jZ iY bG mJ jB mQ lY eJ bY bW aG jG bQ dG jY m_length qG bU dN aR aE bJ aW bT gJ dU bL bR bO mY pW rG rQ post) args s 0 0 A) (F0 m 95 ls [.int k2, .int k1, .ref bM]) := by
  obtain ⟨hx, hb, hr, hml, hown, hts, hlocks, hA, hK, hN, tL, tM, hZL, hTL, hZM, hTM, hZX⟩ := id C0
  intro x1 k1 k2 uW eY aJ aB qL pL H locs ls hp hP hD hS hl
  unfold ws_X10_readLine_95 at hp
  have hin := hp.1
  have hp := hp.2
  refine va_iast hx hb hK hP hD hS 2 0 rfl rfl hin eX10_readLine_80.2.2.2.2.2.2.2.1 (fun H locs hP hD hS => ?_)
  have hP : va_P (dC, dI) classes (wd_X10_readLine cI cC cZ cB cJ a_m oJ uD dY iJ lJ jQ jR jW jK pJ bM aY jO gR gY mK jZ iY bG mJ jB mQ lY eJ bY bW aG jG bQ dG jY m_length qG uW eY aJ aB bU dN aR aE bJ aW bT gJ dU bL bR bO mY pW rG (upd qL k1.toNatClampNeg k2) pL rQ) H := hP
  have hD : va_D A (wd_X10_readLine cI cC cZ cB cJ a_m oJ uD dY iJ lJ jQ jR jW jK pJ bM aY jO gR gY mK jZ iY bG mJ jB mQ lY eJ bY bW aG jG bQ dG jY m_length qG uW eY aJ aB bU dN aR aE bJ aW bT gJ dU bL bR bO mY pW rG (upd qL k1.toNatClampNeg k2) pL rQ) := hD
  refine lv_aload_n hx hb eX10_readLine_80.2.2.2.2.2.2.2.2.1 rfl (lv_at hl 0 rfl) ?_
  refine va_get (D := (dC, dI)) (ci := 10) (v := .ref bM) (C := RX10) (T := TX10) (N := 51) hx hb hts i_X10 hown hK hP 0 rfl rfl 20 (Nat.le_of_ble_eq_true rfl) (hts _ q_679) (fun _ h9 => h9) rfl eX10_readLine_80.2.2.2.2.2.2.2.2.2.1 ?_
  refine lv_iload_n hx hb eX10_readLine_80.2.2.2.2.2.2.2.2.2.2.1 rfl (lv_at hl 1 rfl) ?_
  refine lv_iconst (v := 3) hx hb eX10_readLine_80.2.2.2.2.2.2.2.2.2.2.2.1 ic_3 ?_
  refine lv_iadd hx hb eX10_readLine_80.2.2.2.2.2.2.2.2.2.2.2.2.1 ?_
  refine lv_topi (fun v_32 ev_32 => ?_)
  have hp := hp v_32 ev_32
  refine lv_aload_n hx hb eX10_readLine_80.2.2.2.2.2.2.2.2.2.2.2.2.2.1 rfl (lv_at hl 0 rfl) ?_
  refine lv_bipush (v := 64) hx hb eX10_readLine_80.2.2.2.2.2.2.2.2.2.2.2.2.2.2.1 bp_64 ?_
  have hm := mgk (wc := (wd_X10_passes cI cC cZ cB cJ a_m oJ uD dY iJ lJ jQ jR jW jK pJ bM aY jO gR gY mK jZ iY bG mJ jB mQ lY eJ bY bW aG jG bQ dG jY m_length qG uW eY aJ aB bU dN aR aE bJ aW bT gJ dU bL bR bO mY pW rG rQ)) hP aAX 5 rfl rfl rfl
  refine g_calli hP hD hS hA (mixT aAX) (mixF aAX) hm.1 hm.2 (nd_F _) (dis_g _) (g_runV (As := [.int 64]) (rest := [.int v_32, .ref bM]) C0 hP hD hS (mixT aAX) hm.1 (nd_T _) 0 10 rfl rfl (c_X10_passes l dC dI cI cC cZ cB cJ a_m oJ uD dY iJ lJ jQ jR jW jK pJ bM aY jO gR gY mK jZ iY bG mJ jB mQ lY eJ bY H.size 64 bW aG jG bQ dG jY m_length qG uW eY aJ aB bU dN aR aE bJ aW bT gJ dU bL bR bO mY pW rG rQ _ hp) q_662 q_665 q_663 q_664 q_642 h_X10_passes rfl rfl ⟨Nat.le_of_ble_eq_true rfl, Nat.le_of_ble_eq_true rfl⟩ rfl rfl hl.1 rfl (lv_room (Nat.le_of_ble_eq_true rfl)) eX10_readLine_80.2.2.2.2.2.2.2.2.2.2.2.2.2.2.2 ⟨Nat.zero_le _, Nat.zero_le _⟩) (fun r_33 u H locs hp hP hD hS => ?_)
  obtain ⟨aLg, rfl⟩ : ∃ z, z = u := ⟨_, rfl⟩
  have hPD := PDm (ws' := (wd_X10_readLine cI cC cZ cB cJ a_m oJ uD dY iJ lJ jQ jR jW jK pJ bM aY jO gR gY mK jZ iY bG mJ jB mQ lY eJ bY bW aG jG bQ dG jY m_length qG aLg eY aJ aB bU dN aR aE bJ aW bT gJ dU bL bR bO mY pW rG (upd qL k1.toNatClampNeg k2) pL rQ)) hP hD 5 rfl rfl rfl
  have hP := hPD.1
  have hD := hPD.2
  refine lv_if_eq (tgt := 120) hx hb eX10_readLine_109.1 (by decide) (fun hc => ?_) (fun hc => ?_)
  · have hp := hp.1 hc
    refine lv_iconst (v := 0) hx hb eX10_readLine_109.2.2.2.2.2.1 ic_0 ?_
    exact ks_X10_readLine_121 C0 v_32 0 aLg eY aJ aB (upd qL k1.toNatClampNeg k2) pL H locs ls hp hP hD hS (lv_sub hl [0] rfl)
  · have hp := hp.2 hc
    refine lv_aload_n hx hb eX10_readLine_109.2.1 rfl (lv_at hl 0 rfl) ?_
    refine lv_iconst (v := 1) hx hb eX10_readLine_109.2.2.1 ic_1 ?_
    have hm := mgk (wc := (wd_X10_number cI cC cZ cB cJ a_m oJ uD dY iJ lJ jQ jR jW jK pJ bM aY jO gR gY mK jZ iY bG mJ jB mQ lY eJ bY bW aG jG bQ dG jY m_length qG aLg eY aJ aB bU dN aR aE bJ aW bT gJ dU bL bR bO mY pW rG rQ)) hP aAX 5 rfl rfl rfl
    refine g_calli hP hD hS hA (mixT aAX) (mixF aAX) hm.1 hm.2 (nd_F _) (dis_g _) (g_runV (As := [.int 1]) (rest := [.int v_32, .ref bM]) C0 hP hD hS (mixT aAX) hm.1 (nd_T _) 0 10 rfl rfl (c_X10_number l dC dI cI cC cZ cB cJ a_m oJ uD dY iJ lJ jQ jR jW jK pJ bM aY jO gR gY mK jZ iY bG mJ jB mQ lY eJ bY H.size 1 bW aG jG bQ dG jY m_length qG aLg eY aJ aB bU dN aR aE bJ aW bT gJ dU bL bR bO mY pW rG rQ _ hp) q_669 q_672 q_670 q_671 q_642 h_X10_number rfl rfl ⟨Nat.le_of_ble_eq_true rfl, Nat.le_of_ble_eq_true rfl⟩ rfl rfl hl.1 rfl (lv_room (Nat.le_of_ble_eq_true rfl)) eX10_readLine_109.2.2.2.1 ⟨Nat.zero_le _, Nat.zero_le _⟩) (fun r_36 u H locs hp hP hD hS => ?_)
    obtain ⟨m_at_37, m_wrong_38⟩ := u
    have hPD := PDm (ws' := (wd_X10_readLine cI cC cZ cB cJ a_m oJ uD dY iJ lJ jQ jR jW jK pJ bM aY jO gR gY mK jZ iY bG mJ jB mQ lY eJ bY bW aG jG bQ dG jY m_length qG m_at_37 m_wrong_38 aJ aB bU dN aR aE bJ aW bT gJ dU bL bR bO mY pW rG (upd qL k1.toNatClampNeg k2) pL rQ)) hP hD 5 rfl rfl rfl
    have hP := hPD.1
    have hD := hPD.2
    refine lv_goto (tgt := 121) hx hb eX10_readLine_109.2.2.2.2.1 (by decide) ?_
    exact ks_X10_readLine_121 C0 v_32 r_36 m_at_37 m_wrong_38 aJ aB (upd qL k1.toNatClampNeg k2) pL H locs ls hp hP hD hS (lv_sub hl [0] rfl)
end S_X10_readLine
noncomputable def wp_X10_readLine (post : Int32 → Int32 → Int32 → Int32 → (Nat → Int32) → (Nat → Int32) → Prop) (bW aG : Int32) (jY : Nat) (m_length qG uW eY aJ aB : Int32) (rG qL pL rQ : Nat → Int32) : Prop := wp_X10_here (fun r_1 => (¬ r_1 = 102 → ws_X10_readLine_135 post bW aG jY m_length qG rG rQ uW eY aJ aB qL pL) ∧ (r_1 = 102 → ∀ v_17 : Int32, v_17 = bW + aJ → (16 ≤ v_17 → ws_X10_readLine_135 post bW aG jY m_length qG rG rQ uW eY aJ aB qL pL) ∧ (¬ 16 ≤ v_17 → ∀ v_18 : Int32, v_18 = 4 * aJ → ∀ v_19 : Int32, v_19 = uW + 1 → wp_X10_number (fun r_20 m_at_21 m_wrong_22 => vp_in v_18 64 ∧ (wp_X10_need (fun aGC aBo => ∀ v_25 : Int32, v_25 = v_18 + 1 → wp_X10_number (fun r_26 m_at_27 aAP => vp_in v_25 64 ∧ (∀ v_29 : Int32, v_29 = v_18 + 2 → wp_X10_passes (fun r_30 m_at_31 => (r_30 = 0 → ws_X10_readLine_95 post bW aG jY m_length qG rG rQ v_18 v_29 1 m_at_31 aAP aJ aB (upd (upd qL v_18.toNatClampNeg r_20) v_25.toNatClampNeg r_26) pL) ∧ (¬ r_30 = 0 → wp_X10_number (fun r_39 m_at_40 m_wrong_41 => ws_X10_readLine_95 post bW aG jY m_length qG rG rQ v_18 v_29 r_39 m_at_40 m_wrong_41 aJ aB (upd (upd qL v_18.toNatClampNeg r_20) v_25.toNatClampNeg r_26) pL) 1 jY m_length qG m_at_31 aAP rG rQ)) 42 jY m_length qG m_at_27 aAP rG rQ)) 2 jY m_length qG aGC aBo rG rQ) 44 jY m_length qG m_at_21 m_wrong_22 rG rQ)) 2 jY m_length qG v_19 eY rG rQ))) jY m_length qG uW rG rQ
set_option maxHeartbeats 4000000 in
set_option maxRecDepth 100000 in
theorem c_X10_readLine (l : Launch) (dC : Nat → ClassId) (dI : Nat → Nat → Nat) (cI cC cZ cB cJ : ClassId) (a_m oJ uD dY iJ lJ jQ jR jW jK pJ bM aY jO gR gY mK jZ iY bG mJ jB mQ lY eJ bY sz : Nat) (bW aG jG bQ dG : Int32) (jY : Nat) (m_length qG uW eY aJ aB bU dN aR aE bJ aW bT gJ dU bL bR bO mY pW : Int32) (rG qL pL rQ : Nat → Int32) (post : Int32 → Int32 → Int32 → Int32 → (Nat → Int32) → (Nat → Int32) → Prop) (hw : wp_X10_readLine post bW aG jY m_length qG uW eY aJ aB rG qL pL rQ) : Met l yX10_readLine (gw yX10_readLine cX10_readLine 2 none) rm_X10_readLine (va_Pc [.ref a_m] (gPre (dC, dI) (tyl cI cC cZ cB cJ) (wd_X10_readLine cI cC cZ cB cJ a_m oJ uD dY iJ lJ jQ jR jW jK pJ bM aY jO gR gY mK jZ iY bG mJ jB mQ lY eJ bY bW aG jG bQ dG jY m_length qG uW eY aJ aB bU dN aR aE bJ aW bT gJ dU bL bR bO mY pW rG qL pL rQ) sz)) (q_X10_readLine dC dI cI cC cZ cB cJ (va_A (wd_X10_readLine cI cC cZ cB cJ a_m oJ uD dY iJ lJ jQ jR jW jK pJ bM aY jO gR gY mK jZ iY bG mJ jB mQ lY eJ bY bW aG jG bQ dG jY m_length qG uW eY aJ aB bU dN aR aE bJ aW bT gJ dU bL bR bO mY pW rG qL pL rQ) sz) a_m oJ uD dY iJ lJ jQ jR jW jK pJ bM aY jO gR gY mK jZ iY bG mJ jB mQ lY eJ bY bW aG jG bQ dG jY m_length qG bU dN aR aE bJ aW bT gJ dU bL bR bO mY pW rG rQ post) 0 0 (va_A (wd_X10_readLine cI cC cZ cB cJ a_m oJ uD dY iJ lJ jQ jR jW jK pJ bM aY jO gR gY mK jZ iY bG mJ jB mQ lY eJ bY bW aG jG bQ dG jY m_length qG uW eY aJ aB bU dN aR aE bJ aW bT gJ dU bL bR bO mY pW rG qL pL rQ) sz) := by
  refine g_enter (own := RX10) (dC, dI) (tyl cI cC cZ cB cJ) (wd_X10_readLine cI cC cZ cB cJ a_m oJ uD dY iJ lJ jQ jR jW jK pJ bM aY jO gR gY mK jZ iY bG mJ jB mQ lY eJ bY bW aG jG bQ dG jY m_length qG uW eY aJ aB bU dN aR aE bJ aW bT gJ dU bL bR bO mY pW rG qL pL rQ) sz [.ref a_m] (fun A => q_X10_readLine dC dI cI cC cZ cB cJ A a_m oJ uD dY iJ lJ jQ jR jW jK pJ bM aY jO gR gY mK jZ iY bG mJ jB mQ lY eJ bY bW aG jG bQ dG jY m_length qG bU dN aR aE bJ aW bT gJ dU bL bR bO mY pW rG rQ post) pn_RX10 rfl (Nat.le_of_ble_eq_true rfl) ?_
  intro p e s m args below meth c A H locs ls C0 hP hD hS hl
  have hl : lv_has ls 2 [(0, .ref a_m)] := hl
  obtain ⟨hx, hb, hr, hml, hown, hts, hlocks, hA, hK, hN, tL, tM, hZL, hTL, hZM, hTM, hZX⟩ := id C0
  have hp := hw
  unfold wp_X10_readLine at hp
  refine lv_aload_n hx hb eX10_readLine_0.1 rfl (lv_at hl 0 rfl) ?_
  have hm := mgk (wc := (wd_X10_here cI cC cZ cB cJ a_m oJ uD dY iJ lJ jQ jR jW jK pJ bM aY jO gR gY mK jZ iY bG mJ jB mQ lY eJ bY bW aG jG bQ dG jY m_length qG uW eY aJ aB bU dN aR aE bJ aW bT gJ dU bL bR bO mY pW rG rQ)) hP aAX 5 rfl rfl rfl
  refine g_calli hP hD hS hA (mixT aAX) (mixF aAX) hm.1 hm.2 (nd_F _) (dis_g _) (g_runV (As := []) (rest := []) C0 hP hD hS (mixT aAX) hm.1 (nd_T _) 0 10 rfl rfl (c_X10_here l dC dI cI cC cZ cB cJ a_m oJ uD dY iJ lJ jQ jR jW jK pJ bM aY jO gR gY mK jZ iY bG mJ jB mQ lY eJ bY H.size bW aG jG bQ dG jY m_length qG uW eY aJ aB bU dN aR aE bJ aW bT gJ dU bL bR bO mY pW rG rQ _ hp) q_658 q_661 q_659 q_660 q_642 h_X10_here rfl rfl ⟨Nat.le_of_ble_eq_true rfl, Nat.le_of_ble_eq_true rfl⟩ rfl rfl hl.1 rfl (lv_room (Nat.le_of_ble_eq_true rfl)) eX10_readLine_0.2.1 ⟨Nat.zero_le _, Nat.zero_le _⟩) (fun r_1 u H locs hp hP hD hS => ?_)
  have hPD := PDm (ws' := (wd_X10_readLine cI cC cZ cB cJ a_m oJ uD dY iJ lJ jQ jR jW jK pJ bM aY jO gR gY mK jZ iY bG mJ jB mQ lY eJ bY bW aG jG bQ dG jY m_length qG uW eY aJ aB bU dN aR aE bJ aW bT gJ dU bL bR bO mY pW rG qL pL rQ)) hP hD 5 rfl rfl rfl
  have hP := hPD.1
  have hD := hPD.2
  refine lv_bipush (v := 102) hx hb eX10_readLine_0.2.2.1 bp_102 ?_
  refine lv_icmp_ne (tgt := 135) hx hb eX10_readLine_0.2.2.2.1 (by decide) (fun hc => ?_) (fun hc => ?_)
  · have hp := hp.1 hc
    exact ks_X10_readLine_135 C0 uW eY aJ aB qL pL H locs ls hp hP hD hS (lv_sub hl [0] rfl)
  · have hp := hp.2 hc
    refine lv_aload_n hx hb eX10_readLine_0.2.2.2.2.1 rfl (lv_at hl 0 rfl) ?_
    refine va_get (D := (dC, dI)) (ci := 10) (v := .int bW) (C := RX10) (T := TX10) (N := 51) hx hb hts i_X10 hown hK hP 0 rfl rfl 1 (Nat.le_of_ble_eq_true rfl) (hts _ q_677) (fun _ h9 => h9) rfl eX10_readLine_0.2.2.2.2.2.1 ?_
    refine lv_aload_n hx hb eX10_readLine_0.2.2.2.2.2.2.1 rfl (lv_at hl 0 rfl) ?_
    refine va_get (D := (dC, dI)) (ci := 10) (v := .int aJ) (C := RX10) (T := TX10) (N := 51) hx hb hts i_X10 hown hK hP 0 rfl rfl 22 (Nat.le_of_ble_eq_true rfl) (hts _ q_678) (fun _ h9 => h9) rfl eX10_readLine_0.2.2.2.2.2.2.2.1 ?_
    refine lv_iadd hx hb eX10_readLine_0.2.2.2.2.2.2.2.2.1 ?_
    refine lv_topi (fun v_17 ev_17 => ?_)
    have hp := hp v_17 ev_17
    refine lv_bipush (v := 16) hx hb eX10_readLine_0.2.2.2.2.2.2.2.2.2.1 bp_16 ?_
    refine lv_icmp_ge (tgt := 135) hx hb eX10_readLine_0.2.2.2.2.2.2.2.2.2.2.1 (by decide) (fun hc => ?_) (fun hc => ?_)
    · have hp := hp.1 hc
      exact ks_X10_readLine_135 C0 uW eY aJ aB qL pL H locs ls hp hP hD hS (lv_sub hl [0] rfl)
    · have hp := hp.2 hc
      refine lv_iconst (v := 4) hx hb eX10_readLine_0.2.2.2.2.2.2.2.2.2.2.2.1 ic_4 ?_
      refine lv_aload_n hx hb eX10_readLine_0.2.2.2.2.2.2.2.2.2.2.2.2.1 rfl (lv_at hl 0 rfl) ?_
      refine va_get (D := (dC, dI)) (ci := 10) (v := .int aJ) (C := RX10) (T := TX10) (N := 51) hx hb hts i_X10 hown hK hP 0 rfl rfl 22 (Nat.le_of_ble_eq_true rfl) (hts _ q_678) (fun _ h9 => h9) rfl eX10_readLine_0.2.2.2.2.2.2.2.2.2.2.2.2.2.1 ?_
      refine lv_imul hx hb eX10_readLine_0.2.2.2.2.2.2.2.2.2.2.2.2.2.2.1 ?_
      refine lv_topi (fun v_18 ev_18 => ?_)
      have hp := hp v_18 ev_18
      refine lv_istore_n (lv' := [(1, .int v_18), (0, .ref a_m)]) hx hb eX10_readLine_0.2.2.2.2.2.2.2.2.2.2.2.2.2.2.2 rfl hl (by decide) rfl (fun ls hl => ?_)
      refine lv_aload_n hx hb eX10_readLine_30.1 rfl (lv_at hl 1 rfl) ?_
      refine lv_dup hx hb eX10_readLine_30.2.1 rfl ?_
      refine va_get (D := (dC, dI)) (ci := 10) (v := .int uW) (C := RX10) (T := TX10) (N := 51) hx hb hts i_X10 hown hK hP 0 rfl rfl 18 (Nat.le_of_ble_eq_true rfl) (hts _ q_648) (fun _ h9 => h9) rfl eX10_readLine_30.2.2.1 ?_
      refine lv_iconst (v := 1) hx hb eX10_readLine_30.2.2.2.1 ic_1 ?_
      refine lv_iadd hx hb eX10_readLine_30.2.2.2.2.1 ?_
      refine lv_topi (fun v_19 ev_19 => ?_)
      have hp := hp v_19 ev_19
      refine va_put (D := (dC, dI)) (ci := 10) (v := .int v_19) (ty := .int) (C := RX10) (T := TX10) (N := 51) hx hb hts i_X10 tyX10 tyX10_ok nmX10 hown hK hP hD hS 0 rfl rfl 18 (Nat.le_of_ble_eq_true rfl) (hts _ q_648) (fun _ h9 => h9) rfl (tyX10_ok 18 (Nat.le_of_ble_eq_true rfl)) rfl rfl (Nat.le_of_ble_eq_true rfl) eX10_readLine_30.2.2.2.2.2.1 (fun H locs hP hD hS => ?_)
      have hP : va_P (dC, dI) classes (wd_X10_readLine cI cC cZ cB cJ a_m oJ uD dY iJ lJ jQ jR jW jK pJ bM aY jO gR gY mK jZ iY bG mJ jB mQ lY eJ bY bW aG jG bQ dG jY m_length qG v_19 eY aJ aB bU dN aR aE bJ aW bT gJ dU bL bR bO mY pW rG qL pL rQ) H := hP
      have hD : va_D A (wd_X10_readLine cI cC cZ cB cJ a_m oJ uD dY iJ lJ jQ jR jW jK pJ bM aY jO gR gY mK jZ iY bG mJ jB mQ lY eJ bY bW aG jG bQ dG jY m_length qG v_19 eY aJ aB bU dN aR aE bJ aW bT gJ dU bL bR bO mY pW rG qL pL rQ) := hD
      refine lv_aload_n hx hb eX10_readLine_30.2.2.2.2.2.2.1 rfl (lv_at hl 1 rfl) ?_
      refine va_get (D := (dC, dI)) (ci := 10) (v := .ref bM) (C := RX10) (T := TX10) (N := 51) hx hb hts i_X10 hown hK hP 0 rfl rfl 20 (Nat.le_of_ble_eq_true rfl) (hts _ q_679) (fun _ h9 => h9) rfl eX10_readLine_30.2.2.2.2.2.2.2.1 ?_
      refine lv_iload_n hx hb eX10_readLine_30.2.2.2.2.2.2.2.2.1 rfl (lv_at hl 0 rfl) ?_
      refine lv_aload_n hx hb eX10_readLine_30.2.2.2.2.2.2.2.2.2.1 rfl (lv_at hl 1 rfl) ?_
      refine lv_iconst (v := 2) hx hb eX10_readLine_30.2.2.2.2.2.2.2.2.2.2.1 ic_2 ?_
      have hm := mgk (wc := (wd_X10_number cI cC cZ cB cJ a_m oJ uD dY iJ lJ jQ jR jW jK pJ bM aY jO gR gY mK jZ iY bG mJ jB mQ lY eJ bY bW aG jG bQ dG jY m_length qG v_19 eY aJ aB bU dN aR aE bJ aW bT gJ dU bL bR bO mY pW rG rQ)) hP aAX 5 rfl rfl rfl
      refine g_calli hP hD hS hA (mixT aAX) (mixF aAX) hm.1 hm.2 (nd_F _) (dis_g _) (g_runV (As := [.int 2]) (rest := [.int v_18, .ref bM]) C0 hP hD hS (mixT aAX) hm.1 (nd_T _) 0 10 rfl rfl (c_X10_number l dC dI cI cC cZ cB cJ a_m oJ uD dY iJ lJ jQ jR jW jK pJ bM aY jO gR gY mK jZ iY bG mJ jB mQ lY eJ bY H.size 2 bW aG jG bQ dG jY m_length qG v_19 eY aJ aB bU dN aR aE bJ aW bT gJ dU bL bR bO mY pW rG rQ _ hp) q_669 q_672 q_670 q_671 q_642 h_X10_number rfl rfl ⟨Nat.le_of_ble_eq_true rfl, Nat.le_of_ble_eq_true rfl⟩ rfl rfl hl.1 rfl (lv_room (Nat.le_of_ble_eq_true rfl)) eX10_readLine_30.2.2.2.2.2.2.2.2.2.2.2.1 ⟨Nat.zero_le _, Nat.zero_le _⟩) (fun r_20 u H locs hp hP hD hS => ?_)
      obtain ⟨m_at_21, m_wrong_22⟩ := u
      have hPD := PDm (ws' := (wd_X10_readLine cI cC cZ cB cJ a_m oJ uD dY iJ lJ jQ jR jW jK pJ bM aY jO gR gY mK jZ iY bG mJ jB mQ lY eJ bY bW aG jG bQ dG jY m_length qG m_at_21 m_wrong_22 aJ aB bU dN aR aE bJ aW bT gJ dU bL bR bO mY pW rG qL pL rQ)) hP hD 5 rfl rfl rfl
      have hP := hPD.1
      have hD := hPD.2
      have hin := hp.1
      have hp := hp.2
      refine va_iast hx hb hK hP hD hS 2 0 rfl rfl hin eX10_readLine_30.2.2.2.2.2.2.2.2.2.2.2.2.1 (fun H locs hP hD hS => ?_)
      have hP : va_P (dC, dI) classes (wd_X10_readLine cI cC cZ cB cJ a_m oJ uD dY iJ lJ jQ jR jW jK pJ bM aY jO gR gY mK jZ iY bG mJ jB mQ lY eJ bY bW aG jG bQ dG jY m_length qG m_at_21 m_wrong_22 aJ aB bU dN aR aE bJ aW bT gJ dU bL bR bO mY pW rG (upd qL v_18.toNatClampNeg r_20) pL rQ) H := hP
      have hD : va_D A (wd_X10_readLine cI cC cZ cB cJ a_m oJ uD dY iJ lJ jQ jR jW jK pJ bM aY jO gR gY mK jZ iY bG mJ jB mQ lY eJ bY bW aG jG bQ dG jY m_length qG m_at_21 m_wrong_22 aJ aB bU dN aR aE bJ aW bT gJ dU bL bR bO mY pW rG (upd qL v_18.toNatClampNeg r_20) pL rQ) := hD
      refine lv_aload_n hx hb eX10_readLine_30.2.2.2.2.2.2.2.2.2.2.2.2.2.1 rfl (lv_at hl 1 rfl) ?_
      refine lv_bipush (v := 44) hx hb eX10_readLine_30.2.2.2.2.2.2.2.2.2.2.2.2.2.2.1 bp_44 ?_
      have hm := mgk (wc := (wd_X10_need cI cC cZ cB cJ a_m oJ uD dY iJ lJ jQ jR jW jK pJ bM aY jO gR gY mK jZ iY bG mJ jB mQ lY eJ bY bW aG jG bQ dG jY m_length qG m_at_21 m_wrong_22 aJ aB bU dN aR aE bJ aW bT gJ dU bL bR bO mY pW rG rQ)) hP aAX 5 rfl rfl rfl
      refine g_callv hP hD hS hA (mixT aAX) (mixF aAX) hm.1 hm.2 (nd_F _) (dis_g _) (g_runV (As := [.int 44]) (rest := []) C0 hP hD hS (mixT aAX) hm.1 (nd_T _) 0 10 rfl rfl (c_X10_need l dC dI cI cC cZ cB cJ a_m oJ uD dY iJ lJ jQ jR jW jK pJ bM aY jO gR gY mK jZ iY bG mJ jB mQ lY eJ bY H.size 44 bW aG jG bQ dG jY m_length qG m_at_21 m_wrong_22 aJ aB bU dN aR aE bJ aW bT gJ dU bL bR bO mY pW rG rQ _ hp) q_673 q_676 q_674 q_675 q_642 h_X10_need rfl rfl ⟨Nat.le_of_ble_eq_true rfl, Nat.le_of_ble_eq_true rfl⟩ rfl rfl hl.1 rfl (lv_room (Nat.le_of_ble_eq_true rfl)) eX10_readLine_30.2.2.2.2.2.2.2.2.2.2.2.2.2.2.2 ⟨Nat.zero_le _, Nat.zero_le _⟩) (fun u H locs hp hP hD hS => ?_)
      obtain ⟨aGC, aBo⟩ := u
      have hPD := PDm (ws' := (wd_X10_readLine cI cC cZ cB cJ a_m oJ uD dY iJ lJ jQ jR jW jK pJ bM aY jO gR gY mK jZ iY bG mJ jB mQ lY eJ bY bW aG jG bQ dG jY m_length qG aGC aBo aJ aB bU dN aR aE bJ aW bT gJ dU bL bR bO mY pW rG (upd qL v_18.toNatClampNeg r_20) pL rQ)) hP hD 5 rfl rfl rfl
      have hP := hPD.1
      have hD := hPD.2
      refine lv_aload_n hx hb eX10_readLine_57.1 rfl (lv_at hl 1 rfl) ?_
      refine va_get (D := (dC, dI)) (ci := 10) (v := .ref bM) (C := RX10) (T := TX10) (N := 51) hx hb hts i_X10 hown hK hP 0 rfl rfl 20 (Nat.le_of_ble_eq_true rfl) (hts _ q_679) (fun _ h9 => h9) rfl eX10_readLine_57.2.1 ?_
      refine lv_iload_n hx hb eX10_readLine_57.2.2.1 rfl (lv_at hl 0 rfl) ?_
      refine lv_iconst (v := 1) hx hb eX10_readLine_57.2.2.2.1 ic_1 ?_
      refine lv_iadd hx hb eX10_readLine_57.2.2.2.2.1 ?_
      refine lv_topi (fun v_25 ev_25 => ?_)
      have hp := hp v_25 ev_25
      refine lv_aload_n hx hb eX10_readLine_57.2.2.2.2.2.1 rfl (lv_at hl 1 rfl) ?_
      refine lv_iconst (v := 2) hx hb eX10_readLine_57.2.2.2.2.2.2.1 ic_2 ?_
      have hm := mgk (wc := (wd_X10_number cI cC cZ cB cJ a_m oJ uD dY iJ lJ jQ jR jW jK pJ bM aY jO gR gY mK jZ iY bG mJ jB mQ lY eJ bY bW aG jG bQ dG jY m_length qG aGC aBo aJ aB bU dN aR aE bJ aW bT gJ dU bL bR bO mY pW rG rQ)) hP aAX 5 rfl rfl rfl
      refine g_calli hP hD hS hA (mixT aAX) (mixF aAX) hm.1 hm.2 (nd_F _) (dis_g _) (g_runV (As := [.int 2]) (rest := [.int v_25, .ref bM]) C0 hP hD hS (mixT aAX) hm.1 (nd_T _) 0 10 rfl rfl (c_X10_number l dC dI cI cC cZ cB cJ a_m oJ uD dY iJ lJ jQ jR jW jK pJ bM aY jO gR gY mK jZ iY bG mJ jB mQ lY eJ bY H.size 2 bW aG jG bQ dG jY m_length qG aGC aBo aJ aB bU dN aR aE bJ aW bT gJ dU bL bR bO mY pW rG rQ _ hp) q_669 q_672 q_670 q_671 q_642 h_X10_number rfl rfl ⟨Nat.le_of_ble_eq_true rfl, Nat.le_of_ble_eq_true rfl⟩ rfl rfl hl.1 rfl (lv_room (Nat.le_of_ble_eq_true rfl)) eX10_readLine_57.2.2.2.2.2.2.2.1 ⟨Nat.zero_le _, Nat.zero_le _⟩) (fun r_26 u H locs hp hP hD hS => ?_)
      obtain ⟨m_at_27, aAP⟩ := u
      have hPD := PDm (ws' := (wd_X10_readLine cI cC cZ cB cJ a_m oJ uD dY iJ lJ jQ jR jW jK pJ bM aY jO gR gY mK jZ iY bG mJ jB mQ lY eJ bY bW aG jG bQ dG jY m_length qG m_at_27 aAP aJ aB bU dN aR aE bJ aW bT gJ dU bL bR bO mY pW rG (upd qL v_18.toNatClampNeg r_20) pL rQ)) hP hD 5 rfl rfl rfl
      have hP := hPD.1
      have hD := hPD.2
      have hin := hp.1
      have hp := hp.2
      refine va_iast hx hb hK hP hD hS 2 0 rfl rfl hin eX10_readLine_57.2.2.2.2.2.2.2.2.1 (fun H locs hP hD hS => ?_)
      have hP : va_P (dC, dI) classes (wd_X10_readLine cI cC cZ cB cJ a_m oJ uD dY iJ lJ jQ jR jW jK pJ bM aY jO gR gY mK jZ iY bG mJ jB mQ lY eJ bY bW aG jG bQ dG jY m_length qG m_at_27 aAP aJ aB bU dN aR aE bJ aW bT gJ dU bL bR bO mY pW rG (upd (upd qL v_18.toNatClampNeg r_20) v_25.toNatClampNeg r_26) pL rQ) H := hP
      have hD : va_D A (wd_X10_readLine cI cC cZ cB cJ a_m oJ uD dY iJ lJ jQ jR jW jK pJ bM aY jO gR gY mK jZ iY bG mJ jB mQ lY eJ bY bW aG jG bQ dG jY m_length qG m_at_27 aAP aJ aB bU dN aR aE bJ aW bT gJ dU bL bR bO mY pW rG (upd (upd qL v_18.toNatClampNeg r_20) v_25.toNatClampNeg r_26) pL rQ) := hD
      refine lv_aload_n hx hb eX10_readLine_57.2.2.2.2.2.2.2.2.2.1 rfl (lv_at hl 1 rfl) ?_
      refine va_get (D := (dC, dI)) (ci := 10) (v := .ref bM) (C := RX10) (T := TX10) (N := 51) hx hb hts i_X10 hown hK hP 0 rfl rfl 20 (Nat.le_of_ble_eq_true rfl) (hts _ q_679) (fun _ h9 => h9) rfl eX10_readLine_57.2.2.2.2.2.2.2.2.2.2.1 ?_
      refine lv_iload_n hx hb eX10_readLine_57.2.2.2.2.2.2.2.2.2.2.2.1 rfl (lv_at hl 0 rfl) ?_
      refine lv_iconst (v := 2) hx hb eX10_readLine_57.2.2.2.2.2.2.2.2.2.2.2.2.1 ic_2 ?_
      refine lv_iadd hx hb eX10_readLine_57.2.2.2.2.2.2.2.2.2.2.2.2.2.1 ?_
      refine lv_topi (fun v_29 ev_29 => ?_)
      have hp := hp v_29 ev_29
      refine lv_aload_n hx hb eX10_readLine_57.2.2.2.2.2.2.2.2.2.2.2.2.2.2.1 rfl (lv_at hl 1 rfl) ?_
      refine lv_bipush (v := 42) hx hb eX10_readLine_57.2.2.2.2.2.2.2.2.2.2.2.2.2.2.2 bp_42 ?_
      have hm := mgk (wc := (wd_X10_passes cI cC cZ cB cJ a_m oJ uD dY iJ lJ jQ jR jW jK pJ bM aY jO gR gY mK jZ iY bG mJ jB mQ lY eJ bY bW aG jG bQ dG jY m_length qG m_at_27 aAP aJ aB bU dN aR aE bJ aW bT gJ dU bL bR bO mY pW rG rQ)) hP aAX 5 rfl rfl rfl
      refine g_calli hP hD hS hA (mixT aAX) (mixF aAX) hm.1 hm.2 (nd_F _) (dis_g _) (g_runV (As := [.int 42]) (rest := [.int v_29, .ref bM]) C0 hP hD hS (mixT aAX) hm.1 (nd_T _) 0 10 rfl rfl (c_X10_passes l dC dI cI cC cZ cB cJ a_m oJ uD dY iJ lJ jQ jR jW jK pJ bM aY jO gR gY mK jZ iY bG mJ jB mQ lY eJ bY H.size 42 bW aG jG bQ dG jY m_length qG m_at_27 aAP aJ aB bU dN aR aE bJ aW bT gJ dU bL bR bO mY pW rG rQ _ hp) q_662 q_665 q_663 q_664 q_642 h_X10_passes rfl rfl ⟨Nat.le_of_ble_eq_true rfl, Nat.le_of_ble_eq_true rfl⟩ rfl rfl hl.1 rfl (lv_room (Nat.le_of_ble_eq_true rfl)) eX10_readLine_80.1 ⟨Nat.zero_le _, Nat.zero_le _⟩) (fun r_30 u H locs hp hP hD hS => ?_)
      obtain ⟨m_at_31, rfl⟩ : ∃ z, z = u := ⟨_, rfl⟩
      have hPD := PDm (ws' := (wd_X10_readLine cI cC cZ cB cJ a_m oJ uD dY iJ lJ jQ jR jW jK pJ bM aY jO gR gY mK jZ iY bG mJ jB mQ lY eJ bY bW aG jG bQ dG jY m_length qG m_at_31 aAP aJ aB bU dN aR aE bJ aW bT gJ dU bL bR bO mY pW rG (upd (upd qL v_18.toNatClampNeg r_20) v_25.toNatClampNeg r_26) pL rQ)) hP hD 5 rfl rfl rfl
      have hP := hPD.1
      have hD := hPD.2
      refine lv_if_eq (tgt := 94) hx hb eX10_readLine_80.2.1 (by decide) (fun hc => ?_) (fun hc => ?_)
      · have hp := hp.1 hc
        refine lv_iconst (v := 1) hx hb eX10_readLine_80.2.2.2.2.2.2.1 ic_1 ?_
        exact ks_X10_readLine_95 C0 v_18 v_29 1 m_at_31 aAP aJ aB (upd (upd qL v_18.toNatClampNeg r_20) v_25.toNatClampNeg r_26) pL H locs ls hp hP hD hS (lv_sub hl [1, 0] rfl)
      · have hp := hp.2 hc
        refine lv_aload_n hx hb eX10_readLine_80.2.2.1 rfl (lv_at hl 1 rfl) ?_
        refine lv_iconst (v := 1) hx hb eX10_readLine_80.2.2.2.1 ic_1 ?_
        have hm := mgk (wc := (wd_X10_number cI cC cZ cB cJ a_m oJ uD dY iJ lJ jQ jR jW jK pJ bM aY jO gR gY mK jZ iY bG mJ jB mQ lY eJ bY bW aG jG bQ dG jY m_length qG m_at_31 aAP aJ aB bU dN aR aE bJ aW bT gJ dU bL bR bO mY pW rG rQ)) hP aAX 5 rfl rfl rfl
        refine g_calli hP hD hS hA (mixT aAX) (mixF aAX) hm.1 hm.2 (nd_F _) (dis_g _) (g_runV (As := [.int 1]) (rest := [.int v_29, .ref bM]) C0 hP hD hS (mixT aAX) hm.1 (nd_T _) 0 10 rfl rfl (c_X10_number l dC dI cI cC cZ cB cJ a_m oJ uD dY iJ lJ jQ jR jW jK pJ bM aY jO gR gY mK jZ iY bG mJ jB mQ lY eJ bY H.size 1 bW aG jG bQ dG jY m_length qG m_at_31 aAP aJ aB bU dN aR aE bJ aW bT gJ dU bL bR bO mY pW rG rQ _ hp) q_669 q_672 q_670 q_671 q_642 h_X10_number rfl rfl ⟨Nat.le_of_ble_eq_true rfl, Nat.le_of_ble_eq_true rfl⟩ rfl rfl hl.1 rfl (lv_room (Nat.le_of_ble_eq_true rfl)) eX10_readLine_80.2.2.2.2.1 ⟨Nat.zero_le _, Nat.zero_le _⟩) (fun r_39 u H locs hp hP hD hS => ?_)
        obtain ⟨m_at_40, m_wrong_41⟩ := u
        have hPD := PDm (ws' := (wd_X10_readLine cI cC cZ cB cJ a_m oJ uD dY iJ lJ jQ jR jW jK pJ bM aY jO gR gY mK jZ iY bG mJ jB mQ lY eJ bY bW aG jG bQ dG jY m_length qG m_at_40 m_wrong_41 aJ aB bU dN aR aE bJ aW bT gJ dU bL bR bO mY pW rG (upd (upd qL v_18.toNatClampNeg r_20) v_25.toNatClampNeg r_26) pL rQ)) hP hD 5 rfl rfl rfl
        have hP := hPD.1
        have hD := hPD.2
        refine lv_goto (tgt := 95) hx hb eX10_readLine_80.2.2.2.2.2.1 (by decide) ?_
        exact ks_X10_readLine_95 C0 v_18 v_29 r_39 m_at_40 m_wrong_41 aJ aB (upd (upd qL v_18.toNatClampNeg r_20) v_25.toNatClampNeg r_26) pL H locs ls hp hP hD hS (lv_sub hl [1, 0] rfl)
noncomputable abbrev wd_X10_orchard (cI cC cZ cB cJ : ClassId) (a_m oJ uD dY iJ lJ jQ jR jW jK pJ bM aY jO gR gY mK jZ iY bG mJ jB mQ lY eJ bY : Nat) (bW aG jG bQ dG : Int32) (jY : Nat) (m_length qG uW eY aJ aB bU dN aR aE bJ aW bT gJ dU bL bR bO mY pW : Int32) (rD m_x jA pY rW oY pR rG qL pL rQ : Nat → Int32) : va_W := [(a_m, .inr (10, [.ref oJ, .int bW, .ref uD, .ref dY, .ref iJ, .ref lJ, .int aG, .ref jQ, .ref jR, .ref jW, .ref jK, .int jG, .ref pJ, .int bQ, .int dG, rdv jK jO jY, .int m_length, .int qG, .int uW, .int eY, .ref bM, .ref aY, .int aJ, .int aB, .ref jO, .int bU, .int dN, .int aR, .int aE, .int bJ, .int aW, .ref gR, .int bT, .ref gY, .ref mK, .int gJ, .ref jZ, .int dU, .ref iY, .ref bG, .int bL, .int bR, .int bO, .ref mJ, .ref jB, .ref mQ, .int mY, .int pW, .ref lY, .ref eJ, .ref bY])), (oJ, .inl (cI, 21, .inl rD)), (uD, .inl (cI, 16, .inl m_x)), (dY, .inl (cI, 16, .inl jA)), (iJ, .inl (cI, 16, .inl pY)), (lJ, .inl (cI, 16, .inl rW)), (jQ, .inl (cI, 8, .inl oY)), (jR, .inl (cI, 8, .inl pR)), (jK, .inl (cB, 80, .inl rG)), (bM, .inl (cI, 64, .inl qL)), (aY, .inl (cI, 16, .inl pL)), (jO, .inl (cB, 40, .inl rQ))]
noncomputable abbrev q_X10_orchard (dC : Nat → ClassId) (dI : Nat → Nat → Nat) (cI cC cZ cB cJ : ClassId) (A : Nat → Prop) (a_m oJ uD dY iJ lJ jQ jR jW jK pJ bM aY jO gR gY mK jZ iY bG mJ jB mQ lY eJ bY : Nat) (bQ bU dN aR aE bJ aW gJ dU bL bR bO mY : Int32) (rG rQ : Nat → Int32) (post : Int32 → Int32 → Int32 → Int32 → Int32 → Nat → Int32 → Int32 → Int32 → Int32 → Int32 → Int32 → Int32 → Int32 → (Nat → Int32) → (Nat → Int32) → (Nat → Int32) → (Nat → Int32) → (Nat → Int32) → (Nat → Int32) → (Nat → Int32) → (Nat → Int32) → (Nat → Int32) → Prop) : Array Value → State → Outcome → State → Prop := va_Qi (fun (r : Int32) (u : Int32 × Int32 × Int32 × Int32 × Nat × Int32 × Int32 × Int32 × Int32 × Int32 × Int32 × Int32 × Int32 × (Nat → Int32) × (Nat → Int32) × (Nat → Int32) × (Nat → Int32) × (Nat → Int32) × (Nat → Int32) × (Nat → Int32) × (Nat → Int32) × (Nat → Int32)) => post r u.1 u.2.1 u.2.2.1 u.2.2.2.1 u.2.2.2.2.1 u.2.2.2.2.2.1 u.2.2.2.2.2.2.1 u.2.2.2.2.2.2.2.1 u.2.2.2.2.2.2.2.2.1 u.2.2.2.2.2.2.2.2.2.1 u.2.2.2.2.2.2.2.2.2.2.1 u.2.2.2.2.2.2.2.2.2.2.2.1 u.2.2.2.2.2.2.2.2.2.2.2.2.1 u.2.2.2.2.2.2.2.2.2.2.2.2.2.1 u.2.2.2.2.2.2.2.2.2.2.2.2.2.2.1 u.2.2.2.2.2.2.2.2.2.2.2.2.2.2.2.1 u.2.2.2.2.2.2.2.2.2.2.2.2.2.2.2.2.1 u.2.2.2.2.2.2.2.2.2.2.2.2.2.2.2.2.2.1 u.2.2.2.2.2.2.2.2.2.2.2.2.2.2.2.2.2.2.1 u.2.2.2.2.2.2.2.2.2.2.2.2.2.2.2.2.2.2.2.1 u.2.2.2.2.2.2.2.2.2.2.2.2.2.2.2.2.2.2.2.2.1 u.2.2.2.2.2.2.2.2.2.2.2.2.2.2.2.2.2.2.2.2.2) (fun u t => gB (dC, dI) (tyl cI cC cZ cB cJ) A (wd_X10_orchard cI cC cZ cB cJ a_m oJ uD dY iJ lJ jQ jR jW jK pJ bM aY jO gR gY mK jZ iY bG mJ jB mQ lY eJ bY u.1 u.2.1 u.2.2.1 bQ u.2.2.2.1 u.2.2.2.2.1 u.2.2.2.2.2.1 u.2.2.2.2.2.2.1 u.2.2.2.2.2.2.2.1 u.2.2.2.2.2.2.2.2.1 u.2.2.2.2.2.2.2.2.2.1 u.2.2.2.2.2.2.2.2.2.2.1 bU dN aR aE bJ aW u.2.2.2.2.2.2.2.2.2.2.2.1 gJ dU bL bR bO mY u.2.2.2.2.2.2.2.2.2.2.2.2.1 u.2.2.2.2.2.2.2.2.2.2.2.2.2.1 u.2.2.2.2.2.2.2.2.2.2.2.2.2.2.1 u.2.2.2.2.2.2.2.2.2.2.2.2.2.2.2.1 u.2.2.2.2.2.2.2.2.2.2.2.2.2.2.2.2.1 u.2.2.2.2.2.2.2.2.2.2.2.2.2.2.2.2.2.1 u.2.2.2.2.2.2.2.2.2.2.2.2.2.2.2.2.2.2.1 u.2.2.2.2.2.2.2.2.2.2.2.2.2.2.2.2.2.2.2.1 rG u.2.2.2.2.2.2.2.2.2.2.2.2.2.2.2.2.2.2.2.2.1 u.2.2.2.2.2.2.2.2.2.2.2.2.2.2.2.2.2.2.2.2.2 rQ) t) A
noncomputable abbrev rm_X10_orchard : Room := { frames := 4, cells := 0, slots := 0, locals := 85 }
section S_X10_orchard
variable {p : Program} {l : Launch} {e : Env} {s : State} {m : MethodId} {args : Array Value} {below : List Frame} {meth : Method} {c : Code} {dC : Nat → ClassId} {dI : Nat → Nat → Nat} {cI cC cZ cB cJ : ClassId} {A : Nat → Prop} {a_m oJ uD dY iJ lJ jQ jR jW jK pJ bM aY jO gR gY mK jZ iY bG mJ jB mQ lY eJ bY : Nat} {bQ bU dN aR aE bJ aW gJ dU bL bR bO mY : Int32} {rG rQ : Nat → Int32} {post : Int32 → Int32 → Int32 → Int32 → Int32 → Nat → Int32 → Int32 → Int32 → Int32 → Int32 → Int32 → Int32 → Int32 → (Nat → Int32) → (Nat → Int32) → (Nat → Int32) → (Nat → Int32) → (Nat → Int32) → (Nat → Int32) → (Nat → Int32) → (Nat → Int32) → (Nat → Int32) → Prop}
noncomputable def ws_X10_orchard_215 (post next : Int32 → Int32 → Int32 → Int32 → Int32 → Nat → Int32 → Int32 → Int32 → Int32 → Int32 → Int32 → Int32 → Int32 → (Nat → Int32) → (Nat → Int32) → (Nat → Int32) → (Nat → Int32) → (Nat → Int32) → (Nat → Int32) → (Nat → Int32) → (Nat → Int32) → (Nat → Int32) → Prop) (rG rQ : Nat → Int32) (x2 bW aG jG dG : Int32) (jY : Nat) (m_length qG uW eY aJ aB bT pW : Int32) (rD m_x jA pY rW oY pR qL pL : Nat → Int32) : Prop := (aB ≤ x2 → ∀ v_7 : Int32, v_7 = pW + 1 → post (aJ + aB) bW aG jG dG jY m_length qG uW eY aJ aB 0 v_7 rD m_x jA pY rW oY pR qL pL) ∧ (¬ aB ≤ x2 → ∀ v_8 : Int32, v_8 = 2 * x2 → vp_in v_8 16 ∧ (∀ v_9 : Int32, v_9 = pL v_8.toNatClampNeg → vp_in aG 8 ∧ (∀ v_10 : Int32, v_10 = 2 * x2 → ∀ v_11 : Int32, v_11 = v_10 + 1 → vp_in v_11 16 ∧ (∀ v_12 : Int32, v_12 = pL v_11.toNatClampNeg → vp_in aG 8 ∧ (∀ v_13 : Int32, v_13 = aG + 1 → ∀ v_14 : Int32, v_14 = x2 + 1 → next v_14 bW v_13 jG dG jY m_length qG uW eY aJ aB bT pW rD m_x jA pY rW (upd oY aG.toNatClampNeg v_9) (upd pR aG.toNatClampNeg v_12) qL pL)))))
noncomputable def wb_X10_orchard_215 (post : Int32 → Int32 → Int32 → Int32 → Int32 → Nat → Int32 → Int32 → Int32 → Int32 → Int32 → Int32 → Int32 → Int32 → (Nat → Int32) → (Nat → Int32) → (Nat → Int32) → (Nat → Int32) → (Nat → Int32) → (Nat → Int32) → (Nat → Int32) → (Nat → Int32) → (Nat → Int32) → Prop) (rG rQ : Nat → Int32) : Nat → Int32 → Int32 → Int32 → Int32 → Int32 → Nat → Int32 → Int32 → Int32 → Int32 → Int32 → Int32 → Int32 → Int32 → (Nat → Int32) → (Nat → Int32) → (Nat → Int32) → (Nat → Int32) → (Nat → Int32) → (Nat → Int32) → (Nat → Int32) → (Nat → Int32) → (Nat → Int32) → Prop := fun n => Nat.rec (motive := fun _ => Int32 → Int32 → Int32 → Int32 → Int32 → Nat → Int32 → Int32 → Int32 → Int32 → Int32 → Int32 → Int32 → Int32 → (Nat → Int32) → (Nat → Int32) → (Nat → Int32) → (Nat → Int32) → (Nat → Int32) → (Nat → Int32) → (Nat → Int32) → (Nat → Int32) → (Nat → Int32) → Prop) (fun _ _ _ _ _ _ _ _ _ _ _ _ _ _ _ _ _ _ _ _ _ _ _ => False) (fun _ ih => ws_X10_orchard_215 post ih rG rQ) n
set_option maxHeartbeats 4000000 in
set_option maxRecDepth 100000 in
theorem ks_X10_orchard_215 (C0 : gc cX10_orchard (some .int) 3 RX10 (dC, dI) (tyl cI cC cZ cB cJ) A p s m args meth c) {next : Int32 → Int32 → Int32 → Int32 → Int32 → Nat → Int32 → Int32 → Int32 → Int32 → Int32 → Int32 → Int32 → Int32 → (Nat → Int32) → (Nat → Int32) → (Nat → Int32) → (Nat → Int32) → (Nat → Int32) → (Nat → Int32) → (Nat → Int32) → (Nat → Int32) → (Nat → Int32) → Prop} (hKn : ∀ (x2 : Int32) (bW : Int32) (aG : Int32) (jG : Int32) (dG : Int32) (jY : Nat) (m_length : Int32) (qG : Int32) (uW : Int32) (eY : Int32) (aJ : Int32) (aB : Int32) (bT : Int32) (pW : Int32) (rD : Nat → Int32) (m_x : Nat → Int32) (jA : Nat → Int32) (pY : Nat → Int32) (rW : Nat → Int32) (oY : Nat → Int32) (pR : Nat → Int32) (qL : Nat → Int32) (pL : Nat → Int32) (H : Heap) (locs : List Loc) (ls : Array Slot), next x2 bW aG jG dG jY m_length qG uW eY aJ aB bT pW rD m_x jA pY rW oY pR qL pL → va_P (dC, dI) classes (wd_X10_orchard cI cC cZ cB cJ a_m oJ uD dY iJ lJ jQ jR jW jK pJ bM aY jO gR gY mK jZ iY bG mJ jB mQ lY eJ bY bW aG jG bQ dG jY m_length qG uW eY aJ aB bU dN aR aE bJ aW bT gJ dU bL bR bO mY pW rD m_x jA pY rW oY pR rG qL pL rQ) H → va_D A (wd_X10_orchard cI cC cZ cB cJ a_m oJ uD dY iJ lJ jQ jR jW jK pJ bM aY jO gR gY mK jZ iY bG mJ jB mQ lY eJ bY bW aG jG bQ dG jY m_length qG uW eY aJ aB bU dN aR aE bJ aW bT gJ dU bL bR bO mY pW rD m_x jA pY rW oY pR rG qL pL rQ) → va_S A s.heap H locs → lv_has ls 3 [(0, .ref a_m), (2, .int x2)] → W p l e rm_X10_orchard s m args below meth c H locs 0 0 (MQ below (q_X10_orchard dC dI cI cC cZ cB cJ A a_m oJ uD dY iJ lJ jQ jR jW jK pJ bM aY jO gR gY mK jZ iY bG mJ jB mQ lY eJ bY bQ bU dN aR aE bJ aW gJ dU bL bR bO mY rG rQ post) args s 0 0 A) (F0 m 215 ls [])) : ∀ (x2 bW aG jG dG : Int32) (jY : Nat) (m_length qG uW eY aJ aB bT pW : Int32) (rD m_x jA pY rW oY pR qL pL : Nat → Int32) (H : Heap) (locs : List Loc) (ls : Array Slot), (ws_X10_orchard_215 post next rG rQ) x2 bW aG jG dG jY m_length qG uW eY aJ aB bT pW rD m_x jA pY rW oY pR qL pL → va_P (dC, dI) classes (wd_X10_orchard cI cC cZ cB cJ a_m oJ uD dY iJ lJ jQ jR jW jK pJ bM aY jO gR gY mK jZ iY bG mJ jB mQ lY eJ bY bW aG jG bQ dG jY m_length qG uW eY aJ aB bU dN aR aE bJ aW bT gJ dU bL bR bO mY pW rD m_x jA pY rW oY pR rG qL pL rQ) H → va_D A (wd_X10_orchard cI cC cZ cB cJ a_m oJ uD dY iJ lJ jQ jR jW jK pJ bM aY jO gR gY mK jZ iY bG mJ jB mQ lY eJ bY bW aG jG bQ dG jY m_length qG uW eY aJ aB bU dN aR aE bJ aW bT gJ dU bL bR bO mY pW rD m_x jA pY rW oY pR rG qL pL rQ) → va_S A s.heap H locs → lv_has ls 3 [(0, .ref a_m), (2, .int x2)] → W p l e rm_X10_orchard s m args below meth c H locs 0 0 (MQ below (q_X10_orchard dC dI cI cC cZ cB cJ A a_m oJ uD dY iJ lJ jQ jR jW jK pJ bM aY jO gR gY mK jZ iY bG mJ jB mQ lY eJ bY bQ bU dN aR aE bJ aW gJ dU bL bR bO mY rG rQ post) args s 0 0 A) (F0 m 215 ls []) := by
  obtain ⟨hx, hb, hr, hml, hown, hts, hlocks, hA, hK, hN, tL, tM, hZL, hTL, hZM, hTM, hZX⟩ := id C0
  intro x2 bW aG jG dG jY m_length qG uW eY aJ aB bT pW rD m_x jA pY rW oY pR qL pL H locs ls hp hP hD hS hl
  unfold ws_X10_orchard_215 at hp
  refine lv_iload_n hx hb eX10_orchard_188.2.2.2.2.2.2.2.2.2.2.2.2.2.2.2 rfl (lv_at hl 1 rfl) ?_
  refine lv_aload_n hx hb eX10_orchard_216.1 rfl (lv_at hl 0 rfl) ?_
  refine va_get (D := (dC, dI)) (ci := 10) (v := .int aB) (C := RX10) (T := TX10) (N := 51) hx hb hts i_X10 hown hK hP 0 rfl rfl 23 (Nat.le_of_ble_eq_true rfl) (hts _ q_667) (fun _ h9 => h9) rfl eX10_orchard_216.2.1 ?_
  refine lv_icmp_ge (tgt := 275) hx hb eX10_orchard_216.2.2.1 (by decide) (fun hc => ?_) (fun hc => ?_)
  · have hp := hp.1 hc
    refine lv_aload_n hx hb eX10_orchard_266.2.2.2.1 rfl (lv_at hl 0 rfl) ?_
    refine lv_iconst (v := 0) hx hb eX10_orchard_266.2.2.2.2.1 ic_0 ?_
    refine va_put (D := (dC, dI)) (ci := 10) (v := .int 0) (ty := .int) (C := RX10) (T := TX10) (N := 51) hx hb hts i_X10 tyX10 tyX10_ok nmX10 hown hK hP hD hS 0 rfl rfl 32 (Nat.le_of_ble_eq_true rfl) (hts _ q_684) (fun _ h9 => h9) rfl (tyX10_ok 32 (Nat.le_of_ble_eq_true rfl)) rfl rfl (Nat.le_of_ble_eq_true rfl) eX10_orchard_266.2.2.2.2.2.1 (fun H locs hP hD hS => ?_)
    have hP : va_P (dC, dI) classes (wd_X10_orchard cI cC cZ cB cJ a_m oJ uD dY iJ lJ jQ jR jW jK pJ bM aY jO gR gY mK jZ iY bG mJ jB mQ lY eJ bY bW aG jG bQ dG jY m_length qG uW eY aJ aB bU dN aR aE bJ aW 0 gJ dU bL bR bO mY pW rD m_x jA pY rW oY pR rG qL pL rQ) H := hP
    have hD : va_D A (wd_X10_orchard cI cC cZ cB cJ a_m oJ uD dY iJ lJ jQ jR jW jK pJ bM aY jO gR gY mK jZ iY bG mJ jB mQ lY eJ bY bW aG jG bQ dG jY m_length qG uW eY aJ aB bU dN aR aE bJ aW 0 gJ dU bL bR bO mY pW rD m_x jA pY rW oY pR rG qL pL rQ) := hD
    refine lv_aload_n hx hb eX10_orchard_266.2.2.2.2.2.2.1 rfl (lv_at hl 0 rfl) ?_
    refine lv_dup hx hb eX10_orchard_266.2.2.2.2.2.2.2.1 rfl ?_
    refine va_get (D := (dC, dI)) (ci := 10) (v := .int pW) (C := RX10) (T := TX10) (N := 51) hx hb hts i_X10 hown hK hP 0 rfl rfl 47 (Nat.le_of_ble_eq_true rfl) (hts _ q_685) (fun _ h9 => h9) rfl eX10_orchard_266.2.2.2.2.2.2.2.2.1 ?_
    refine lv_iconst (v := 1) hx hb eX10_orchard_266.2.2.2.2.2.2.2.2.2.1 ic_1 ?_
    refine lv_iadd hx hb eX10_orchard_266.2.2.2.2.2.2.2.2.2.2.1 ?_
    refine lv_topi (fun v_7 ev_7 => ?_)
    have hp := hp v_7 ev_7
    refine va_put (D := (dC, dI)) (ci := 10) (v := .int v_7) (ty := .int) (C := RX10) (T := TX10) (N := 51) hx hb hts i_X10 tyX10 tyX10_ok nmX10 hown hK hP hD hS 0 rfl rfl 47 (Nat.le_of_ble_eq_true rfl) (hts _ q_685) (fun _ h9 => h9) rfl (tyX10_ok 47 (Nat.le_of_ble_eq_true rfl)) rfl rfl (Nat.le_of_ble_eq_true rfl) eX10_orchard_266.2.2.2.2.2.2.2.2.2.2.2.1 (fun H locs hP hD hS => ?_)
    have hP : va_P (dC, dI) classes (wd_X10_orchard cI cC cZ cB cJ a_m oJ uD dY iJ lJ jQ jR jW jK pJ bM aY jO gR gY mK jZ iY bG mJ jB mQ lY eJ bY bW aG jG bQ dG jY m_length qG uW eY aJ aB bU dN aR aE bJ aW 0 gJ dU bL bR bO mY v_7 rD m_x jA pY rW oY pR rG qL pL rQ) H := hP
    have hD : va_D A (wd_X10_orchard cI cC cZ cB cJ a_m oJ uD dY iJ lJ jQ jR jW jK pJ bM aY jO gR gY mK jZ iY bG mJ jB mQ lY eJ bY bW aG jG bQ dG jY m_length qG uW eY aJ aB bU dN aR aE bJ aW 0 gJ dU bL bR bO mY v_7 rD m_x jA pY rW oY pR rG qL pL rQ) := hD
    refine lv_aload_n hx hb eX10_orchard_266.2.2.2.2.2.2.2.2.2.2.2.2.1 rfl (lv_at hl 0 rfl) ?_
    refine va_get (D := (dC, dI)) (ci := 10) (v := .int aJ) (C := RX10) (T := TX10) (N := 51) hx hb hts i_X10 hown hK hP 0 rfl rfl 22 (Nat.le_of_ble_eq_true rfl) (hts _ q_678) (fun _ h9 => h9) rfl eX10_orchard_266.2.2.2.2.2.2.2.2.2.2.2.2.2.1 ?_
    refine lv_aload_n hx hb eX10_orchard_266.2.2.2.2.2.2.2.2.2.2.2.2.2.2.1 rfl (lv_at hl 0 rfl) ?_
    refine va_get (D := (dC, dI)) (ci := 10) (v := .int aB) (C := RX10) (T := TX10) (N := 51) hx hb hts i_X10 hown hK hP 0 rfl rfl 23 (Nat.le_of_ble_eq_true rfl) (hts _ q_667) (fun _ h9 => h9) rfl eX10_orchard_266.2.2.2.2.2.2.2.2.2.2.2.2.2.2.2 ?_
    refine lv_iadd hx hb eX10_orchard_298.1 ?_
    exact W.iret (v := aJ + aB) hx hb hr (fun t ht hW => ⟨⟨aJ + aB, (bW, aG, jG, dG, jY, m_length, qG, uW, eY, aJ, aB, 0, v_7, rD, m_x, jA, pY, rW, oY, pR, qL, pL), rfl, hp, by rw [ht]; exact hP, va_K.moved hW.alike hK, hD⟩, hS.F ht⟩) hS.2.2 eX10_orchard_298.2
  · have hp := hp.2 hc
    refine lv_aload_n hx hb eX10_orchard_216.2.2.2.1 rfl (lv_at hl 0 rfl) ?_
    refine va_get (D := (dC, dI)) (ci := 10) (v := .ref jQ) (C := RX10) (T := TX10) (N := 51) hx hb hts i_X10 hown hK hP 0 rfl rfl 7 (Nat.le_of_ble_eq_true rfl) (hts _ q_686) (fun _ h9 => h9) rfl eX10_orchard_216.2.2.2.2.1 ?_
    refine lv_aload_n hx hb eX10_orchard_216.2.2.2.2.2.1 rfl (lv_at hl 0 rfl) ?_
    refine va_get (D := (dC, dI)) (ci := 10) (v := .int aG) (C := RX10) (T := TX10) (N := 51) hx hb hts i_X10 hown hK hP 0 rfl rfl 6 (Nat.le_of_ble_eq_true rfl) (hts _ q_666) (fun _ h9 => h9) rfl eX10_orchard_216.2.2.2.2.2.2.1 ?_
    refine lv_aload_n hx hb eX10_orchard_216.2.2.2.2.2.2.2.1 rfl (lv_at hl 0 rfl) ?_
    refine va_get (D := (dC, dI)) (ci := 10) (v := .ref aY) (C := RX10) (T := TX10) (N := 51) hx hb hts i_X10 hown hK hP 0 rfl rfl 21 (Nat.le_of_ble_eq_true rfl) (hts _ q_668) (fun _ h9 => h9) rfl eX10_orchard_216.2.2.2.2.2.2.2.2.1 ?_
    refine lv_iconst (v := 2) hx hb eX10_orchard_216.2.2.2.2.2.2.2.2.2.1 ic_2 ?_
    refine lv_iload_n hx hb eX10_orchard_216.2.2.2.2.2.2.2.2.2.2.1 rfl (lv_at hl 1 rfl) ?_
    refine lv_imul hx hb eX10_orchard_216.2.2.2.2.2.2.2.2.2.2.2.1 ?_
    refine lv_topi (fun v_8 ev_8 => ?_)
    have hp := hp v_8 ev_8
    have hin := hp.1
    have hp := hp.2
    refine va_iald hx hb hK hP 10 0 rfl rfl hin eX10_orchard_216.2.2.2.2.2.2.2.2.2.2.2.2.1 ?_
    refine lv_topi (fun v_9 ev_9 => ?_)
    have hp := hp v_9 ev_9
    have hin := hp.1
    have hp := hp.2
    refine va_iast hx hb hK hP hD hS 6 0 rfl rfl hin eX10_orchard_216.2.2.2.2.2.2.2.2.2.2.2.2.2.1 (fun H locs hP hD hS => ?_)
    have hP : va_P (dC, dI) classes (wd_X10_orchard cI cC cZ cB cJ a_m oJ uD dY iJ lJ jQ jR jW jK pJ bM aY jO gR gY mK jZ iY bG mJ jB mQ lY eJ bY bW aG jG bQ dG jY m_length qG uW eY aJ aB bU dN aR aE bJ aW bT gJ dU bL bR bO mY pW rD m_x jA pY rW (upd oY aG.toNatClampNeg v_9) pR rG qL pL rQ) H := hP
    have hD : va_D A (wd_X10_orchard cI cC cZ cB cJ a_m oJ uD dY iJ lJ jQ jR jW jK pJ bM aY jO gR gY mK jZ iY bG mJ jB mQ lY eJ bY bW aG jG bQ dG jY m_length qG uW eY aJ aB bU dN aR aE bJ aW bT gJ dU bL bR bO mY pW rD m_x jA pY rW (upd oY aG.toNatClampNeg v_9) pR rG qL pL rQ) := hD
    refine lv_aload_n hx hb eX10_orchard_216.2.2.2.2.2.2.2.2.2.2.2.2.2.2.1 rfl (lv_at hl 0 rfl) ?_
    refine va_get (D := (dC, dI)) (ci := 10) (v := .ref jR) (C := RX10) (T := TX10) (N := 51) hx hb hts i_X10 hown hK hP 0 rfl rfl 8 (Nat.le_of_ble_eq_true rfl) (hts _ q_687) (fun _ h9 => h9) rfl eX10_orchard_216.2.2.2.2.2.2.2.2.2.2.2.2.2.2.2 ?_
    refine lv_aload_n hx hb eX10_orchard_244.1 rfl (lv_at hl 0 rfl) ?_
    refine va_get (D := (dC, dI)) (ci := 10) (v := .int aG) (C := RX10) (T := TX10) (N := 51) hx hb hts i_X10 hown hK hP 0 rfl rfl 6 (Nat.le_of_ble_eq_true rfl) (hts _ q_666) (fun _ h9 => h9) rfl eX10_orchard_244.2.1 ?_
    refine lv_aload_n hx hb eX10_orchard_244.2.2.1 rfl (lv_at hl 0 rfl) ?_
    refine va_get (D := (dC, dI)) (ci := 10) (v := .ref aY) (C := RX10) (T := TX10) (N := 51) hx hb hts i_X10 hown hK hP 0 rfl rfl 21 (Nat.le_of_ble_eq_true rfl) (hts _ q_668) (fun _ h9 => h9) rfl eX10_orchard_244.2.2.2.1 ?_
    refine lv_iconst (v := 2) hx hb eX10_orchard_244.2.2.2.2.1 ic_2 ?_
    refine lv_iload_n hx hb eX10_orchard_244.2.2.2.2.2.1 rfl (lv_at hl 1 rfl) ?_
    refine lv_imul hx hb eX10_orchard_244.2.2.2.2.2.2.1 ?_
    refine lv_topi (fun v_10 ev_10 => ?_)
    have hp := hp v_10 ev_10
    refine lv_iconst (v := 1) hx hb eX10_orchard_244.2.2.2.2.2.2.2.1 ic_1 ?_
    refine lv_iadd hx hb eX10_orchard_244.2.2.2.2.2.2.2.2.1 ?_
    refine lv_topi (fun v_11 ev_11 => ?_)
    have hp := hp v_11 ev_11
    have hin := hp.1
    have hp := hp.2
    refine va_iald hx hb hK hP 10 0 rfl rfl hin eX10_orchard_244.2.2.2.2.2.2.2.2.2.1 ?_
    refine lv_topi (fun v_12 ev_12 => ?_)
    have hp := hp v_12 ev_12
    have hin := hp.1
    have hp := hp.2
    refine va_iast hx hb hK hP hD hS 7 0 rfl rfl hin eX10_orchard_244.2.2.2.2.2.2.2.2.2.2.1 (fun H locs hP hD hS => ?_)
    have hP : va_P (dC, dI) classes (wd_X10_orchard cI cC cZ cB cJ a_m oJ uD dY iJ lJ jQ jR jW jK pJ bM aY jO gR gY mK jZ iY bG mJ jB mQ lY eJ bY bW aG jG bQ dG jY m_length qG uW eY aJ aB bU dN aR aE bJ aW bT gJ dU bL bR bO mY pW rD m_x jA pY rW (upd oY aG.toNatClampNeg v_9) (upd pR aG.toNatClampNeg v_12) rG qL pL rQ) H := hP
    have hD : va_D A (wd_X10_orchard cI cC cZ cB cJ a_m oJ uD dY iJ lJ jQ jR jW jK pJ bM aY jO gR gY mK jZ iY bG mJ jB mQ lY eJ bY bW aG jG bQ dG jY m_length qG uW eY aJ aB bU dN aR aE bJ aW bT gJ dU bL bR bO mY pW rD m_x jA pY rW (upd oY aG.toNatClampNeg v_9) (upd pR aG.toNatClampNeg v_12) rG qL pL rQ) := hD
    refine lv_aload_n hx hb eX10_orchard_244.2.2.2.2.2.2.2.2.2.2.2.1 rfl (lv_at hl 0 rfl) ?_
    refine lv_dup hx hb eX10_orchard_244.2.2.2.2.2.2.2.2.2.2.2.2.1 rfl ?_
    refine va_get (D := (dC, dI)) (ci := 10) (v := .int aG) (C := RX10) (T := TX10) (N := 51) hx hb hts i_X10 hown hK hP 0 rfl rfl 6 (Nat.le_of_ble_eq_true rfl) (hts _ q_666) (fun _ h9 => h9) rfl eX10_orchard_244.2.2.2.2.2.2.2.2.2.2.2.2.2.1 ?_
    refine lv_iconst (v := 1) hx hb eX10_orchard_244.2.2.2.2.2.2.2.2.2.2.2.2.2.2.1 ic_1 ?_
    refine lv_iadd hx hb eX10_orchard_244.2.2.2.2.2.2.2.2.2.2.2.2.2.2.2 ?_
    refine lv_topi (fun v_13 ev_13 => ?_)
    have hp := hp v_13 ev_13
    refine va_put (D := (dC, dI)) (ci := 10) (v := .int v_13) (ty := .int) (C := RX10) (T := TX10) (N := 51) hx hb hts i_X10 tyX10 tyX10_ok nmX10 hown hK hP hD hS 0 rfl rfl 6 (Nat.le_of_ble_eq_true rfl) (hts _ q_666) (fun _ h9 => h9) rfl (tyX10_ok 6 (Nat.le_of_ble_eq_true rfl)) rfl rfl (Nat.le_of_ble_eq_true rfl) eX10_orchard_266.1 (fun H locs hP hD hS => ?_)
    have hP : va_P (dC, dI) classes (wd_X10_orchard cI cC cZ cB cJ a_m oJ uD dY iJ lJ jQ jR jW jK pJ bM aY jO gR gY mK jZ iY bG mJ jB mQ lY eJ bY bW v_13 jG bQ dG jY m_length qG uW eY aJ aB bU dN aR aE bJ aW bT gJ dU bL bR bO mY pW rD m_x jA pY rW (upd oY aG.toNatClampNeg v_9) (upd pR aG.toNatClampNeg v_12) rG qL pL rQ) H := hP
    have hD : va_D A (wd_X10_orchard cI cC cZ cB cJ a_m oJ uD dY iJ lJ jQ jR jW jK pJ bM aY jO gR gY mK jZ iY bG mJ jB mQ lY eJ bY bW v_13 jG bQ dG jY m_length qG uW eY aJ aB bU dN aR aE bJ aW bT gJ dU bL bR bO mY pW rD m_x jA pY rW (upd oY aG.toNatClampNeg v_9) (upd pR aG.toNatClampNeg v_12) rG qL pL rQ) := hD
    obtain ⟨v_14, ev_14⟩ : ∃ y : Int32, y = x2 + 1 := ⟨_, rfl⟩
    refine lv_iinc (v := v_14) (lv' := [(2, .int v_14), (0, .ref a_m)]) hx hb eX10_orchard_266.2.1 hl (k := 1) rfl (by rw [ev_14]; rfl) (by decide) rfl (fun ls hl => ?_)
    have hp := hp v_14 ev_14
    refine lv_goto (tgt := 215) hx hb eX10_orchard_266.2.2.1 (by decide) ?_
    exact hKn v_14 bW v_13 jG dG jY m_length qG uW eY aJ aB bT pW rD m_x jA pY rW (upd oY aG.toNatClampNeg v_9) (upd pR aG.toNatClampNeg v_12) qL pL H locs ls hp hP hD hS (lv_sub hl [1, 0] rfl)
set_option maxHeartbeats 4000000 in
set_option maxRecDepth 100000 in
theorem kb_X10_orchard_215 (C0 : gc cX10_orchard (some .int) 3 RX10 (dC, dI) (tyl cI cC cZ cB cJ) A p s m args meth c) : ∀ (n : Nat), ∀ (x2 bW aG jG dG : Int32) (jY : Nat) (m_length qG uW eY aJ aB bT pW : Int32) (rD m_x jA pY rW oY pR qL pL : Nat → Int32) (H : Heap) (locs : List Loc) (ls : Array Slot), (wb_X10_orchard_215 post rG rQ n) x2 bW aG jG dG jY m_length qG uW eY aJ aB bT pW rD m_x jA pY rW oY pR qL pL → va_P (dC, dI) classes (wd_X10_orchard cI cC cZ cB cJ a_m oJ uD dY iJ lJ jQ jR jW jK pJ bM aY jO gR gY mK jZ iY bG mJ jB mQ lY eJ bY bW aG jG bQ dG jY m_length qG uW eY aJ aB bU dN aR aE bJ aW bT gJ dU bL bR bO mY pW rD m_x jA pY rW oY pR rG qL pL rQ) H → va_D A (wd_X10_orchard cI cC cZ cB cJ a_m oJ uD dY iJ lJ jQ jR jW jK pJ bM aY jO gR gY mK jZ iY bG mJ jB mQ lY eJ bY bW aG jG bQ dG jY m_length qG uW eY aJ aB bU dN aR aE bJ aW bT gJ dU bL bR bO mY pW rD m_x jA pY rW oY pR rG qL pL rQ) → va_S A s.heap H locs → lv_has ls 3 [(0, .ref a_m), (2, .int x2)] → W p l e rm_X10_orchard s m args below meth c H locs 0 0 (MQ below (q_X10_orchard dC dI cI cC cZ cB cJ A a_m oJ uD dY iJ lJ jQ jR jW jK pJ bM aY jO gR gY mK jZ iY bG mJ jB mQ lY eJ bY bQ bU dN aR aE bJ aW gJ dU bL bR bO mY rG rQ post) args s 0 0 A) (F0 m 215 ls []) := by
  intro n
  induction n with
  | zero =>
    intro x2 bW aG jG dG jY m_length qG uW eY aJ aB bT pW rD m_x jA pY rW oY pR qL pL H locs ls hp
    exact False.elim hp
  | succ n ih =>
    intro x2 bW aG jG dG jY m_length qG uW eY aJ aB bT pW rD m_x jA pY rW oY pR qL pL H locs ls hp
    exact ks_X10_orchard_215 C0 ih x2 bW aG jG dG jY m_length qG uW eY aJ aB bT pW rD m_x jA pY rW oY pR qL pL H locs ls hp
noncomputable def ws_X10_orchard_105 (post next : Int32 → Int32 → Int32 → Int32 → Int32 → Nat → Int32 → Int32 → Int32 → Int32 → Int32 → Int32 → Int32 → Int32 → (Nat → Int32) → (Nat → Int32) → (Nat → Int32) → (Nat → Int32) → (Nat → Int32) → (Nat → Int32) → (Nat → Int32) → (Nat → Int32) → (Nat → Int32) → Prop) (rG rQ : Nat → Int32) (x2 bW aG jG dG : Int32) (jY : Nat) (m_length qG uW eY aJ aB bT pW : Int32) (rD m_x jA pY rW oY pR qL pL : Nat → Int32) : Prop := (aJ ≤ x2 → ∃ n : Nat, wb_X10_orchard_215 post rG rQ n 0 bW aG jG dG jY m_length qG uW eY aJ aB bT pW rD m_x jA pY rW oY pR qL pL) ∧ (¬ aJ ≤ x2 → ∀ v_15 : Int32, v_15 = 4 * x2 → vp_in v_15 64 ∧ (∀ v_16 : Int32, v_16 = qL v_15.toNatClampNeg → vp_in bW 16 ∧ (∀ v_17 : Int32, v_17 = 4 * x2 → ∀ v_18 : Int32, v_18 = v_17 + 1 → vp_in v_18 64 ∧ (∀ v_19 : Int32, v_19 = qL v_18.toNatClampNeg → vp_in bW 16 ∧ (∀ v_20 : Int32, v_20 = 4 * x2 → ∀ v_21 : Int32, v_21 = v_20 + 2 → vp_in v_21 64 ∧ (∀ v_22 : Int32, v_22 = qL v_21.toNatClampNeg → vp_in bW 16 ∧ (∀ v_23 : Int32, v_23 = 4 * x2 → ∀ v_24 : Int32, v_24 = v_23 + 3 → vp_in v_24 64 ∧ (∀ v_25 : Int32, v_25 = qL v_24.toNatClampNeg → vp_in bW 16 ∧ (vp_in bW 21 ∧ (∀ v_26 : Int32, v_26 = bW + 1 → ∀ v_27 : Int32, v_27 = x2 + 1 → next v_27 v_26 aG jG dG jY m_length qG uW eY aJ aB bT pW (upd rD bW.toNatClampNeg 0) (upd m_x bW.toNatClampNeg v_16) (upd jA bW.toNatClampNeg v_19) (upd pY bW.toNatClampNeg v_22) (upd rW bW.toNatClampNeg v_25) oY pR qL pL))))))))))
noncomputable def wb_X10_orchard_105 (post : Int32 → Int32 → Int32 → Int32 → Int32 → Nat → Int32 → Int32 → Int32 → Int32 → Int32 → Int32 → Int32 → Int32 → (Nat → Int32) → (Nat → Int32) → (Nat → Int32) → (Nat → Int32) → (Nat → Int32) → (Nat → Int32) → (Nat → Int32) → (Nat → Int32) → (Nat → Int32) → Prop) (rG rQ : Nat → Int32) : Nat → Int32 → Int32 → Int32 → Int32 → Int32 → Nat → Int32 → Int32 → Int32 → Int32 → Int32 → Int32 → Int32 → Int32 → (Nat → Int32) → (Nat → Int32) → (Nat → Int32) → (Nat → Int32) → (Nat → Int32) → (Nat → Int32) → (Nat → Int32) → (Nat → Int32) → (Nat → Int32) → Prop := fun n => Nat.rec (motive := fun _ => Int32 → Int32 → Int32 → Int32 → Int32 → Nat → Int32 → Int32 → Int32 → Int32 → Int32 → Int32 → Int32 → Int32 → (Nat → Int32) → (Nat → Int32) → (Nat → Int32) → (Nat → Int32) → (Nat → Int32) → (Nat → Int32) → (Nat → Int32) → (Nat → Int32) → (Nat → Int32) → Prop) (fun _ _ _ _ _ _ _ _ _ _ _ _ _ _ _ _ _ _ _ _ _ _ _ => False) (fun _ ih => ws_X10_orchard_105 post ih rG rQ) n
set_option maxHeartbeats 4000000 in
set_option maxRecDepth 100000 in
theorem ks_X10_orchard_105 (C0 : gc cX10_orchard (some .int) 3 RX10 (dC, dI) (tyl cI cC cZ cB cJ) A p s m args meth c) {next : Int32 → Int32 → Int32 → Int32 → Int32 → Nat → Int32 → Int32 → Int32 → Int32 → Int32 → Int32 → Int32 → Int32 → (Nat → Int32) → (Nat → Int32) → (Nat → Int32) → (Nat → Int32) → (Nat → Int32) → (Nat → Int32) → (Nat → Int32) → (Nat → Int32) → (Nat → Int32) → Prop} (hKn : ∀ (x2 : Int32) (bW : Int32) (aG : Int32) (jG : Int32) (dG : Int32) (jY : Nat) (m_length : Int32) (qG : Int32) (uW : Int32) (eY : Int32) (aJ : Int32) (aB : Int32) (bT : Int32) (pW : Int32) (rD : Nat → Int32) (m_x : Nat → Int32) (jA : Nat → Int32) (pY : Nat → Int32) (rW : Nat → Int32) (oY : Nat → Int32) (pR : Nat → Int32) (qL : Nat → Int32) (pL : Nat → Int32) (H : Heap) (locs : List Loc) (ls : Array Slot), next x2 bW aG jG dG jY m_length qG uW eY aJ aB bT pW rD m_x jA pY rW oY pR qL pL → va_P (dC, dI) classes (wd_X10_orchard cI cC cZ cB cJ a_m oJ uD dY iJ lJ jQ jR jW jK pJ bM aY jO gR gY mK jZ iY bG mJ jB mQ lY eJ bY bW aG jG bQ dG jY m_length qG uW eY aJ aB bU dN aR aE bJ aW bT gJ dU bL bR bO mY pW rD m_x jA pY rW oY pR rG qL pL rQ) H → va_D A (wd_X10_orchard cI cC cZ cB cJ a_m oJ uD dY iJ lJ jQ jR jW jK pJ bM aY jO gR gY mK jZ iY bG mJ jB mQ lY eJ bY bW aG jG bQ dG jY m_length qG uW eY aJ aB bU dN aR aE bJ aW bT gJ dU bL bR bO mY pW rD m_x jA pY rW oY pR rG qL pL rQ) → va_S A s.heap H locs → lv_has ls 3 [(0, .ref a_m), (2, .int x2)] → W p l e rm_X10_orchard s m args below meth c H locs 0 0 (MQ below (q_X10_orchard dC dI cI cC cZ cB cJ A a_m oJ uD dY iJ lJ jQ jR jW jK pJ bM aY jO gR gY mK jZ iY bG mJ jB mQ lY eJ bY bQ bU dN aR aE bJ aW gJ dU bL bR bO mY rG rQ post) args s 0 0 A) (F0 m 105 ls [])) : ∀ (x2 bW aG jG dG : Int32) (jY : Nat) (m_length qG uW eY aJ aB bT pW : Int32) (rD m_x jA pY rW oY pR qL pL : Nat → Int32) (H : Heap) (locs : List Loc) (ls : Array Slot), (ws_X10_orchard_105 post next rG rQ) x2 bW aG jG dG jY m_length qG uW eY aJ aB bT pW rD m_x jA pY rW oY pR qL pL → va_P (dC, dI) classes (wd_X10_orchard cI cC cZ cB cJ a_m oJ uD dY iJ lJ jQ jR jW jK pJ bM aY jO gR gY mK jZ iY bG mJ jB mQ lY eJ bY bW aG jG bQ dG jY m_length qG uW eY aJ aB bU dN aR aE bJ aW bT gJ dU bL bR bO mY pW rD m_x jA pY rW oY pR rG qL pL rQ) H → va_D A (wd_X10_orchard cI cC cZ cB cJ a_m oJ uD dY iJ lJ jQ jR jW jK pJ bM aY jO gR gY mK jZ iY bG mJ jB mQ lY eJ bY bW aG jG bQ dG jY m_length qG uW eY aJ aB bU dN aR aE bJ aW bT gJ dU bL bR bO mY pW rD m_x jA pY rW oY pR rG qL pL rQ) → va_S A s.heap H locs → lv_has ls 3 [(0, .ref a_m), (2, .int x2)] → W p l e rm_X10_orchard s m args below meth c H locs 0 0 (MQ below (q_X10_orchard dC dI cI cC cZ cB cJ A a_m oJ uD dY iJ lJ jQ jR jW jK pJ bM aY jO gR gY mK jZ iY bG mJ jB mQ lY eJ bY bQ bU dN aR aE bJ aW gJ dU bL bR bO mY rG rQ post) args s 0 0 A) (F0 m 105 ls []) := by
  obtain ⟨hx, hb, hr, hml, hown, hts, hlocks, hA, hK, hN, tL, tM, hZL, hTL, hZM, hTM, hZX⟩ := id C0
  intro x2 bW aG jG dG jY m_length qG uW eY aJ aB bT pW rD m_x jA pY rW oY pR qL pL H locs ls hp hP hD hS hl
  unfold ws_X10_orchard_105 at hp
  refine lv_iload_n hx hb eX10_orchard_90.2.2.2.2.2.2.2.2.2.1 rfl (lv_at hl 1 rfl) ?_
  refine lv_aload_n hx hb eX10_orchard_90.2.2.2.2.2.2.2.2.2.2.1 rfl (lv_at hl 0 rfl) ?_
  refine va_get (D := (dC, dI)) (ci := 10) (v := .int aJ) (C := RX10) (T := TX10) (N := 51) hx hb hts i_X10 hown hK hP 0 rfl rfl 22 (Nat.le_of_ble_eq_true rfl) (hts _ q_678) (fun _ h9 => h9) rfl eX10_orchard_90.2.2.2.2.2.2.2.2.2.2.2.1 ?_
  refine lv_icmp_ge (tgt := 213) hx hb eX10_orchard_90.2.2.2.2.2.2.2.2.2.2.2.2.1 (by decide) (fun hc => ?_) (fun hc => ?_)
  · have hp := hp.1 hc
    refine lv_iconst (v := 0) hx hb eX10_orchard_188.2.2.2.2.2.2.2.2.2.2.2.2.2.1 ic_0 ?_
    refine lv_istore_n (lv' := [(2, .int 0), (0, .ref a_m)]) hx hb eX10_orchard_188.2.2.2.2.2.2.2.2.2.2.2.2.2.2.1 rfl hl (by decide) rfl (fun ls hl => ?_)
    obtain ⟨n9, hp⟩ := hp
    exact kb_X10_orchard_215 C0 n9 0 bW aG jG dG jY m_length qG uW eY aJ aB bT pW rD m_x jA pY rW oY pR qL pL H locs ls hp hP hD hS (lv_sub hl [1, 0] rfl)
  · have hp := hp.2 hc
    refine lv_aload_n hx hb eX10_orchard_90.2.2.2.2.2.2.2.2.2.2.2.2.2.1 rfl (lv_at hl 0 rfl) ?_
    refine va_get (D := (dC, dI)) (ci := 10) (v := .ref uD) (C := RX10) (T := TX10) (N := 51) hx hb hts i_X10 hown hK hP 0 rfl rfl 2 (Nat.le_of_ble_eq_true rfl) (hts _ q_688) (fun _ h9 => h9) rfl eX10_orchard_90.2.2.2.2.2.2.2.2.2.2.2.2.2.2.1 ?_
    refine lv_aload_n hx hb eX10_orchard_90.2.2.2.2.2.2.2.2.2.2.2.2.2.2.2 rfl (lv_at hl 0 rfl) ?_
    refine va_get (D := (dC, dI)) (ci := 10) (v := .int bW) (C := RX10) (T := TX10) (N := 51) hx hb hts i_X10 hown hK hP 0 rfl rfl 1 (Nat.le_of_ble_eq_true rfl) (hts _ q_677) (fun _ h9 => h9) rfl eX10_orchard_118.1 ?_
    refine lv_aload_n hx hb eX10_orchard_118.2.1 rfl (lv_at hl 0 rfl) ?_
    refine va_get (D := (dC, dI)) (ci := 10) (v := .ref bM) (C := RX10) (T := TX10) (N := 51) hx hb hts i_X10 hown hK hP 0 rfl rfl 20 (Nat.le_of_ble_eq_true rfl) (hts _ q_679) (fun _ h9 => h9) rfl eX10_orchard_118.2.2.1 ?_
    refine lv_iconst (v := 4) hx hb eX10_orchard_118.2.2.2.1 ic_4 ?_
    refine lv_iload_n hx hb eX10_orchard_118.2.2.2.2.1 rfl (lv_at hl 1 rfl) ?_
    refine lv_imul hx hb eX10_orchard_118.2.2.2.2.2.1 ?_
    refine lv_topi (fun v_15 ev_15 => ?_)
    have hp := hp v_15 ev_15
    have hin := hp.1
    have hp := hp.2
    refine va_iald hx hb hK hP 9 0 rfl rfl hin eX10_orchard_118.2.2.2.2.2.2.1 ?_
    refine lv_topi (fun v_16 ev_16 => ?_)
    have hp := hp v_16 ev_16
    have hin := hp.1
    have hp := hp.2
    refine va_iast hx hb hK hP hD hS 2 0 rfl rfl hin eX10_orchard_118.2.2.2.2.2.2.2.1 (fun H locs hP hD hS => ?_)
    have hP : va_P (dC, dI) classes (wd_X10_orchard cI cC cZ cB cJ a_m oJ uD dY iJ lJ jQ jR jW jK pJ bM aY jO gR gY mK jZ iY bG mJ jB mQ lY eJ bY bW aG jG bQ dG jY m_length qG uW eY aJ aB bU dN aR aE bJ aW bT gJ dU bL bR bO mY pW rD (upd m_x bW.toNatClampNeg v_16) jA pY rW oY pR rG qL pL rQ) H := hP
    have hD : va_D A (wd_X10_orchard cI cC cZ cB cJ a_m oJ uD dY iJ lJ jQ jR jW jK pJ bM aY jO gR gY mK jZ iY bG mJ jB mQ lY eJ bY bW aG jG bQ dG jY m_length qG uW eY aJ aB bU dN aR aE bJ aW bT gJ dU bL bR bO mY pW rD (upd m_x bW.toNatClampNeg v_16) jA pY rW oY pR rG qL pL rQ) := hD
    refine lv_aload_n hx hb eX10_orchard_118.2.2.2.2.2.2.2.2.1 rfl (lv_at hl 0 rfl) ?_
    refine va_get (D := (dC, dI)) (ci := 10) (v := .ref dY) (C := RX10) (T := TX10) (N := 51) hx hb hts i_X10 hown hK hP 0 rfl rfl 3 (Nat.le_of_ble_eq_true rfl) (hts _ q_689) (fun _ h9 => h9) rfl eX10_orchard_118.2.2.2.2.2.2.2.2.2.1 ?_
    refine lv_aload_n hx hb eX10_orchard_118.2.2.2.2.2.2.2.2.2.2.1 rfl (lv_at hl 0 rfl) ?_
    refine va_get (D := (dC, dI)) (ci := 10) (v := .int bW) (C := RX10) (T := TX10) (N := 51) hx hb hts i_X10 hown hK hP 0 rfl rfl 1 (Nat.le_of_ble_eq_true rfl) (hts _ q_677) (fun _ h9 => h9) rfl eX10_orchard_118.2.2.2.2.2.2.2.2.2.2.2.1 ?_
    refine lv_aload_n hx hb eX10_orchard_118.2.2.2.2.2.2.2.2.2.2.2.2.1 rfl (lv_at hl 0 rfl) ?_
    refine va_get (D := (dC, dI)) (ci := 10) (v := .ref bM) (C := RX10) (T := TX10) (N := 51) hx hb hts i_X10 hown hK hP 0 rfl rfl 20 (Nat.le_of_ble_eq_true rfl) (hts _ q_679) (fun _ h9 => h9) rfl eX10_orchard_118.2.2.2.2.2.2.2.2.2.2.2.2.2.1 ?_
    refine lv_iconst (v := 4) hx hb eX10_orchard_118.2.2.2.2.2.2.2.2.2.2.2.2.2.2.1 ic_4 ?_
    refine lv_iload_n hx hb eX10_orchard_118.2.2.2.2.2.2.2.2.2.2.2.2.2.2.2 rfl (lv_at hl 1 rfl) ?_
    refine lv_imul hx hb eX10_orchard_144.1 ?_
    refine lv_topi (fun v_17 ev_17 => ?_)
    have hp := hp v_17 ev_17
    refine lv_iconst (v := 1) hx hb eX10_orchard_144.2.1 ic_1 ?_
    refine lv_iadd hx hb eX10_orchard_144.2.2.1 ?_
    refine lv_topi (fun v_18 ev_18 => ?_)
    have hp := hp v_18 ev_18
    have hin := hp.1
    have hp := hp.2
    refine va_iald hx hb hK hP 9 0 rfl rfl hin eX10_orchard_144.2.2.2.1 ?_
    refine lv_topi (fun v_19 ev_19 => ?_)
    have hp := hp v_19 ev_19
    have hin := hp.1
    have hp := hp.2
    refine va_iast hx hb hK hP hD hS 3 0 rfl rfl hin eX10_orchard_144.2.2.2.2.1 (fun H locs hP hD hS => ?_)
    have hP : va_P (dC, dI) classes (wd_X10_orchard cI cC cZ cB cJ a_m oJ uD dY iJ lJ jQ jR jW jK pJ bM aY jO gR gY mK jZ iY bG mJ jB mQ lY eJ bY bW aG jG bQ dG jY m_length qG uW eY aJ aB bU dN aR aE bJ aW bT gJ dU bL bR bO mY pW rD (upd m_x bW.toNatClampNeg v_16) (upd jA bW.toNatClampNeg v_19) pY rW oY pR rG qL pL rQ) H := hP
    have hD : va_D A (wd_X10_orchard cI cC cZ cB cJ a_m oJ uD dY iJ lJ jQ jR jW jK pJ bM aY jO gR gY mK jZ iY bG mJ jB mQ lY eJ bY bW aG jG bQ dG jY m_length qG uW eY aJ aB bU dN aR aE bJ aW bT gJ dU bL bR bO mY pW rD (upd m_x bW.toNatClampNeg v_16) (upd jA bW.toNatClampNeg v_19) pY rW oY pR rG qL pL rQ) := hD
    refine lv_aload_n hx hb eX10_orchard_144.2.2.2.2.2.1 rfl (lv_at hl 0 rfl) ?_
    refine va_get (D := (dC, dI)) (ci := 10) (v := .ref iJ) (C := RX10) (T := TX10) (N := 51) hx hb hts i_X10 hown hK hP 0 rfl rfl 4 (Nat.le_of_ble_eq_true rfl) (hts _ q_690) (fun _ h9 => h9) rfl eX10_orchard_144.2.2.2.2.2.2.1 ?_
    refine lv_aload_n hx hb eX10_orchard_144.2.2.2.2.2.2.2.1 rfl (lv_at hl 0 rfl) ?_
    refine va_get (D := (dC, dI)) (ci := 10) (v := .int bW) (C := RX10) (T := TX10) (N := 51) hx hb hts i_X10 hown hK hP 0 rfl rfl 1 (Nat.le_of_ble_eq_true rfl) (hts _ q_677) (fun _ h9 => h9) rfl eX10_orchard_144.2.2.2.2.2.2.2.2.1 ?_
    refine lv_aload_n hx hb eX10_orchard_144.2.2.2.2.2.2.2.2.2.1 rfl (lv_at hl 0 rfl) ?_
    refine va_get (D := (dC, dI)) (ci := 10) (v := .ref bM) (C := RX10) (T := TX10) (N := 51) hx hb hts i_X10 hown hK hP 0 rfl rfl 20 (Nat.le_of_ble_eq_true rfl) (hts _ q_679) (fun _ h9 => h9) rfl eX10_orchard_144.2.2.2.2.2.2.2.2.2.2.1 ?_
    refine lv_iconst (v := 4) hx hb eX10_orchard_144.2.2.2.2.2.2.2.2.2.2.2.1 ic_4 ?_
    refine lv_iload_n hx hb eX10_orchard_144.2.2.2.2.2.2.2.2.2.2.2.2.1 rfl (lv_at hl 1 rfl) ?_
    refine lv_imul hx hb eX10_orchard_144.2.2.2.2.2.2.2.2.2.2.2.2.2.1 ?_
    refine lv_topi (fun v_20 ev_20 => ?_)
    have hp := hp v_20 ev_20
    refine lv_iconst (v := 2) hx hb eX10_orchard_144.2.2.2.2.2.2.2.2.2.2.2.2.2.2.1 ic_2 ?_
    refine lv_iadd hx hb eX10_orchard_144.2.2.2.2.2.2.2.2.2.2.2.2.2.2.2 ?_
    refine lv_topi (fun v_21 ev_21 => ?_)
    have hp := hp v_21 ev_21
    have hin := hp.1
    have hp := hp.2
    refine va_iald hx hb hK hP 9 0 rfl rfl hin eX10_orchard_166.1 ?_
    refine lv_topi (fun v_22 ev_22 => ?_)
    have hp := hp v_22 ev_22
    have hin := hp.1
    have hp := hp.2
    refine va_iast hx hb hK hP hD hS 4 0 rfl rfl hin eX10_orchard_166.2.1 (fun H locs hP hD hS => ?_)
    have hP : va_P (dC, dI) classes (wd_X10_orchard cI cC cZ cB cJ a_m oJ uD dY iJ lJ jQ jR jW jK pJ bM aY jO gR gY mK jZ iY bG mJ jB mQ lY eJ bY bW aG jG bQ dG jY m_length qG uW eY aJ aB bU dN aR aE bJ aW bT gJ dU bL bR bO mY pW rD (upd m_x bW.toNatClampNeg v_16) (upd jA bW.toNatClampNeg v_19) (upd pY bW.toNatClampNeg v_22) rW oY pR rG qL pL rQ) H := hP
    have hD : va_D A (wd_X10_orchard cI cC cZ cB cJ a_m oJ uD dY iJ lJ jQ jR jW jK pJ bM aY jO gR gY mK jZ iY bG mJ jB mQ lY eJ bY bW aG jG bQ dG jY m_length qG uW eY aJ aB bU dN aR aE bJ aW bT gJ dU bL bR bO mY pW rD (upd m_x bW.toNatClampNeg v_16) (upd jA bW.toNatClampNeg v_19) (upd pY bW.toNatClampNeg v_22) rW oY pR rG qL pL rQ) := hD
    refine lv_aload_n hx hb eX10_orchard_166.2.2.1 rfl (lv_at hl 0 rfl) ?_
    refine va_get (D := (dC, dI)) (ci := 10) (v := .ref lJ) (C := RX10) (T := TX10) (N := 51) hx hb hts i_X10 hown hK hP 0 rfl rfl 5 (Nat.le_of_ble_eq_true rfl) (hts _ q_691) (fun _ h9 => h9) rfl eX10_orchard_166.2.2.2.1 ?_
    refine lv_aload_n hx hb eX10_orchard_166.2.2.2.2.1 rfl (lv_at hl 0 rfl) ?_
    refine va_get (D := (dC, dI)) (ci := 10) (v := .int bW) (C := RX10) (T := TX10) (N := 51) hx hb hts i_X10 hown hK hP 0 rfl rfl 1 (Nat.le_of_ble_eq_true rfl) (hts _ q_677) (fun _ h9 => h9) rfl eX10_orchard_166.2.2.2.2.2.1 ?_
    refine lv_aload_n hx hb eX10_orchard_166.2.2.2.2.2.2.1 rfl (lv_at hl 0 rfl) ?_
    refine va_get (D := (dC, dI)) (ci := 10) (v := .ref bM) (C := RX10) (T := TX10) (N := 51) hx hb hts i_X10 hown hK hP 0 rfl rfl 20 (Nat.le_of_ble_eq_true rfl) (hts _ q_679) (fun _ h9 => h9) rfl eX10_orchard_166.2.2.2.2.2.2.2.1 ?_
    refine lv_iconst (v := 4) hx hb eX10_orchard_166.2.2.2.2.2.2.2.2.1 ic_4 ?_
    refine lv_iload_n hx hb eX10_orchard_166.2.2.2.2.2.2.2.2.2.1 rfl (lv_at hl 1 rfl) ?_
    refine lv_imul hx hb eX10_orchard_166.2.2.2.2.2.2.2.2.2.2.1 ?_
    refine lv_topi (fun v_23 ev_23 => ?_)
    have hp := hp v_23 ev_23
    refine lv_iconst (v := 3) hx hb eX10_orchard_166.2.2.2.2.2.2.2.2.2.2.2.1 ic_3 ?_
    refine lv_iadd hx hb eX10_orchard_166.2.2.2.2.2.2.2.2.2.2.2.2.1 ?_
    refine lv_topi (fun v_24 ev_24 => ?_)
    have hp := hp v_24 ev_24
    have hin := hp.1
    have hp := hp.2
    refine va_iald hx hb hK hP 9 0 rfl rfl hin eX10_orchard_166.2.2.2.2.2.2.2.2.2.2.2.2.2.1 ?_
    refine lv_topi (fun v_25 ev_25 => ?_)
    have hp := hp v_25 ev_25
    have hin := hp.1
    have hp := hp.2
    refine va_iast hx hb hK hP hD hS 5 0 rfl rfl hin eX10_orchard_166.2.2.2.2.2.2.2.2.2.2.2.2.2.2.1 (fun H locs hP hD hS => ?_)
    have hP : va_P (dC, dI) classes (wd_X10_orchard cI cC cZ cB cJ a_m oJ uD dY iJ lJ jQ jR jW jK pJ bM aY jO gR gY mK jZ iY bG mJ jB mQ lY eJ bY bW aG jG bQ dG jY m_length qG uW eY aJ aB bU dN aR aE bJ aW bT gJ dU bL bR bO mY pW rD (upd m_x bW.toNatClampNeg v_16) (upd jA bW.toNatClampNeg v_19) (upd pY bW.toNatClampNeg v_22) (upd rW bW.toNatClampNeg v_25) oY pR rG qL pL rQ) H := hP
    have hD : va_D A (wd_X10_orchard cI cC cZ cB cJ a_m oJ uD dY iJ lJ jQ jR jW jK pJ bM aY jO gR gY mK jZ iY bG mJ jB mQ lY eJ bY bW aG jG bQ dG jY m_length qG uW eY aJ aB bU dN aR aE bJ aW bT gJ dU bL bR bO mY pW rD (upd m_x bW.toNatClampNeg v_16) (upd jA bW.toNatClampNeg v_19) (upd pY bW.toNatClampNeg v_22) (upd rW bW.toNatClampNeg v_25) oY pR rG qL pL rQ) := hD
    refine lv_aload_n hx hb eX10_orchard_166.2.2.2.2.2.2.2.2.2.2.2.2.2.2.2 rfl (lv_at hl 0 rfl) ?_
    refine va_get (D := (dC, dI)) (ci := 10) (v := .ref oJ) (C := RX10) (T := TX10) (N := 51) hx hb hts i_X10 hown hK hP 0 rfl rfl 0 (Nat.le_of_ble_eq_true rfl) (hts _ q_692) (fun _ h9 => h9) rfl eX10_orchard_188.1 ?_
    refine lv_aload_n hx hb eX10_orchard_188.2.1 rfl (lv_at hl 0 rfl) ?_
    refine va_get (D := (dC, dI)) (ci := 10) (v := .int bW) (C := RX10) (T := TX10) (N := 51) hx hb hts i_X10 hown hK hP 0 rfl rfl 1 (Nat.le_of_ble_eq_true rfl) (hts _ q_677) (fun _ h9 => h9) rfl eX10_orchard_188.2.2.1 ?_
    refine lv_iconst (v := 0) hx hb eX10_orchard_188.2.2.2.1 ic_0 ?_
    have hin := hp.1
    have hp := hp.2
    refine va_iast hx hb hK hP hD hS 1 0 rfl rfl hin eX10_orchard_188.2.2.2.2.1 (fun H locs hP hD hS => ?_)
    have hP : va_P (dC, dI) classes (wd_X10_orchard cI cC cZ cB cJ a_m oJ uD dY iJ lJ jQ jR jW jK pJ bM aY jO gR gY mK jZ iY bG mJ jB mQ lY eJ bY bW aG jG bQ dG jY m_length qG uW eY aJ aB bU dN aR aE bJ aW bT gJ dU bL bR bO mY pW (upd rD bW.toNatClampNeg 0) (upd m_x bW.toNatClampNeg v_16) (upd jA bW.toNatClampNeg v_19) (upd pY bW.toNatClampNeg v_22) (upd rW bW.toNatClampNeg v_25) oY pR rG qL pL rQ) H := hP
    have hD : va_D A (wd_X10_orchard cI cC cZ cB cJ a_m oJ uD dY iJ lJ jQ jR jW jK pJ bM aY jO gR gY mK jZ iY bG mJ jB mQ lY eJ bY bW aG jG bQ dG jY m_length qG uW eY aJ aB bU dN aR aE bJ aW bT gJ dU bL bR bO mY pW (upd rD bW.toNatClampNeg 0) (upd m_x bW.toNatClampNeg v_16) (upd jA bW.toNatClampNeg v_19) (upd pY bW.toNatClampNeg v_22) (upd rW bW.toNatClampNeg v_25) oY pR rG qL pL rQ) := hD
    refine lv_aload_n hx hb eX10_orchard_188.2.2.2.2.2.1 rfl (lv_at hl 0 rfl) ?_
    refine lv_dup hx hb eX10_orchard_188.2.2.2.2.2.2.1 rfl ?_
    refine va_get (D := (dC, dI)) (ci := 10) (v := .int bW) (C := RX10) (T := TX10) (N := 51) hx hb hts i_X10 hown hK hP 0 rfl rfl 1 (Nat.le_of_ble_eq_true rfl) (hts _ q_677) (fun _ h9 => h9) rfl eX10_orchard_188.2.2.2.2.2.2.2.1 ?_
    refine lv_iconst (v := 1) hx hb eX10_orchard_188.2.2.2.2.2.2.2.2.1 ic_1 ?_
    refine lv_iadd hx hb eX10_orchard_188.2.2.2.2.2.2.2.2.2.1 ?_
    refine lv_topi (fun v_26 ev_26 => ?_)
    have hp := hp v_26 ev_26
    refine va_put (D := (dC, dI)) (ci := 10) (v := .int v_26) (ty := .int) (C := RX10) (T := TX10) (N := 51) hx hb hts i_X10 tyX10 tyX10_ok nmX10 hown hK hP hD hS 0 rfl rfl 1 (Nat.le_of_ble_eq_true rfl) (hts _ q_677) (fun _ h9 => h9) rfl (tyX10_ok 1 (Nat.le_of_ble_eq_true rfl)) rfl rfl (Nat.le_of_ble_eq_true rfl) eX10_orchard_188.2.2.2.2.2.2.2.2.2.2.1 (fun H locs hP hD hS => ?_)
    have hP : va_P (dC, dI) classes (wd_X10_orchard cI cC cZ cB cJ a_m oJ uD dY iJ lJ jQ jR jW jK pJ bM aY jO gR gY mK jZ iY bG mJ jB mQ lY eJ bY v_26 aG jG bQ dG jY m_length qG uW eY aJ aB bU dN aR aE bJ aW bT gJ dU bL bR bO mY pW (upd rD bW.toNatClampNeg 0) (upd m_x bW.toNatClampNeg v_16) (upd jA bW.toNatClampNeg v_19) (upd pY bW.toNatClampNeg v_22) (upd rW bW.toNatClampNeg v_25) oY pR rG qL pL rQ) H := hP
    have hD : va_D A (wd_X10_orchard cI cC cZ cB cJ a_m oJ uD dY iJ lJ jQ jR jW jK pJ bM aY jO gR gY mK jZ iY bG mJ jB mQ lY eJ bY v_26 aG jG bQ dG jY m_length qG uW eY aJ aB bU dN aR aE bJ aW bT gJ dU bL bR bO mY pW (upd rD bW.toNatClampNeg 0) (upd m_x bW.toNatClampNeg v_16) (upd jA bW.toNatClampNeg v_19) (upd pY bW.toNatClampNeg v_22) (upd rW bW.toNatClampNeg v_25) oY pR rG qL pL rQ) := hD
    obtain ⟨v_27, ev_27⟩ : ∃ y : Int32, y = x2 + 1 := ⟨_, rfl⟩
    refine lv_iinc (v := v_27) (lv' := [(2, .int v_27), (0, .ref a_m)]) hx hb eX10_orchard_188.2.2.2.2.2.2.2.2.2.2.2.1 hl (k := 1) rfl (by rw [ev_27]; rfl) (by decide) rfl (fun ls hl => ?_)
    have hp := hp v_27 ev_27
    refine lv_goto (tgt := 105) hx hb eX10_orchard_188.2.2.2.2.2.2.2.2.2.2.2.2.1 (by decide) ?_
    exact hKn v_27 v_26 aG jG dG jY m_length qG uW eY aJ aB bT pW (upd rD bW.toNatClampNeg 0) (upd m_x bW.toNatClampNeg v_16) (upd jA bW.toNatClampNeg v_19) (upd pY bW.toNatClampNeg v_22) (upd rW bW.toNatClampNeg v_25) oY pR qL pL H locs ls hp hP hD hS (lv_sub hl [1, 0] rfl)
set_option maxHeartbeats 4000000 in
set_option maxRecDepth 100000 in
theorem kb_X10_orchard_105 (C0 : gc cX10_orchard (some .int) 3 RX10 (dC, dI) (tyl cI cC cZ cB cJ) A p s m args meth c) : ∀ (n : Nat), ∀ (x2 bW aG jG dG : Int32) (jY : Nat) (m_length qG uW eY aJ aB bT pW : Int32) (rD m_x jA pY rW oY pR qL pL : Nat → Int32) (H : Heap) (locs : List Loc) (ls : Array Slot), (wb_X10_orchard_105 post rG rQ n) x2 bW aG jG dG jY m_length qG uW eY aJ aB bT pW rD m_x jA pY rW oY pR qL pL → va_P (dC, dI) classes (wd_X10_orchard cI cC cZ cB cJ a_m oJ uD dY iJ lJ jQ jR jW jK pJ bM aY jO gR gY mK jZ iY bG mJ jB mQ lY eJ bY bW aG jG bQ dG jY m_length qG uW eY aJ aB bU dN aR aE bJ aW bT gJ dU bL bR bO mY pW rD m_x jA pY rW oY pR rG qL pL rQ) H → va_D A (wd_X10_orchard cI cC cZ cB cJ a_m oJ uD dY iJ lJ jQ jR jW jK pJ bM aY jO gR gY mK jZ iY bG mJ jB mQ lY eJ bY bW aG jG bQ dG jY m_length qG uW eY aJ aB bU dN aR aE bJ aW bT gJ dU bL bR bO mY pW rD m_x jA pY rW oY pR rG qL pL rQ) → va_S A s.heap H locs → lv_has ls 3 [(0, .ref a_m), (2, .int x2)] → W p l e rm_X10_orchard s m args below meth c H locs 0 0 (MQ below (q_X10_orchard dC dI cI cC cZ cB cJ A a_m oJ uD dY iJ lJ jQ jR jW jK pJ bM aY jO gR gY mK jZ iY bG mJ jB mQ lY eJ bY bQ bU dN aR aE bJ aW gJ dU bL bR bO mY rG rQ post) args s 0 0 A) (F0 m 105 ls []) := by
  intro n
  induction n with
  | zero =>
    intro x2 bW aG jG dG jY m_length qG uW eY aJ aB bT pW rD m_x jA pY rW oY pR qL pL H locs ls hp
    exact False.elim hp
  | succ n ih =>
    intro x2 bW aG jG dG jY m_length qG uW eY aJ aB bT pW rD m_x jA pY rW oY pR qL pL H locs ls hp
    exact ks_X10_orchard_105 C0 ih x2 bW aG jG dG jY m_length qG uW eY aJ aB bT pW rD m_x jA pY rW oY pR qL pL H locs ls hp
noncomputable def ws_X10_orchard_89 (post : Int32 → Int32 → Int32 → Int32 → Int32 → Nat → Int32 → Int32 → Int32 → Int32 → Int32 → Int32 → Int32 → Int32 → (Nat → Int32) → (Nat → Int32) → (Nat → Int32) → (Nat → Int32) → (Nat → Int32) → (Nat → Int32) → (Nat → Int32) → (Nat → Int32) → (Nat → Int32) → Prop) (rG rQ : Nat → Int32) (bW aG jG dG : Int32) (jY : Nat) (m_length qG uW eY aJ aB bT pW : Int32) (rD m_x jA pY rW oY pR qL pL : Nat → Int32) : Prop := wp_X10_fine (fun r_6 => (¬ r_6 = 0 → ∃ n : Nat, wb_X10_orchard_105 post rG rQ n 0 bW aG jG dG jY m_length qG uW eY aJ aB bT pW rD m_x jA pY rW oY pR qL pL) ∧ (r_6 = 0 → post ((-1) - eY) bW aG jG dG jY m_length qG uW eY aJ aB bT pW rD m_x jA pY rW oY pR qL pL)) eY
set_option maxHeartbeats 4000000 in
set_option maxRecDepth 100000 in
theorem ks_X10_orchard_89 (C0 : gc cX10_orchard (some .int) 3 RX10 (dC, dI) (tyl cI cC cZ cB cJ) A p s m args meth c) : ∀ (bW aG jG dG : Int32) (jY : Nat) (m_length qG uW eY aJ aB bT pW : Int32) (rD m_x jA pY rW oY pR qL pL : Nat → Int32) (H : Heap) (locs : List Loc) (ls : Array Slot), (ws_X10_orchard_89 post rG rQ) bW aG jG dG jY m_length qG uW eY aJ aB bT pW rD m_x jA pY rW oY pR qL pL → va_P (dC, dI) classes (wd_X10_orchard cI cC cZ cB cJ a_m oJ uD dY iJ lJ jQ jR jW jK pJ bM aY jO gR gY mK jZ iY bG mJ jB mQ lY eJ bY bW aG jG bQ dG jY m_length qG uW eY aJ aB bU dN aR aE bJ aW bT gJ dU bL bR bO mY pW rD m_x jA pY rW oY pR rG qL pL rQ) H → va_D A (wd_X10_orchard cI cC cZ cB cJ a_m oJ uD dY iJ lJ jQ jR jW jK pJ bM aY jO gR gY mK jZ iY bG mJ jB mQ lY eJ bY bW aG jG bQ dG jY m_length qG uW eY aJ aB bU dN aR aE bJ aW bT gJ dU bL bR bO mY pW rD m_x jA pY rW oY pR rG qL pL rQ) → va_S A s.heap H locs → lv_has ls 3 [(0, .ref a_m)] → W p l e rm_X10_orchard s m args below meth c H locs 0 0 (MQ below (q_X10_orchard dC dI cI cC cZ cB cJ A a_m oJ uD dY iJ lJ jQ jR jW jK pJ bM aY jO gR gY mK jZ iY bG mJ jB mQ lY eJ bY bQ bU dN aR aE bJ aW gJ dU bL bR bO mY rG rQ post) args s 0 0 A) (F0 m 89 ls []) := by
  obtain ⟨hx, hb, hr, hml, hown, hts, hlocks, hA, hK, hN, tL, tM, hZL, hTL, hZM, hTM, hZX⟩ := id C0
  intro bW aG jG dG jY m_length qG uW eY aJ aB bT pW rD m_x jA pY rW oY pR qL pL H locs ls hp hP hD hS hl
  unfold ws_X10_orchard_89 at hp
  refine lv_aload_n hx hb eX10_orchard_57.2.2.2.2.2.2.2.2.2.2.2.2.2.2.2 rfl (lv_at hl 0 rfl) ?_
  have hm := mgk (wc := (wd_X10_fine cI cC cZ cB cJ a_m oJ uD dY iJ lJ jQ jR jW jK pJ bM aY jO gR gY mK jZ iY bG mJ jB mQ lY eJ bY bW aG jG bQ dG jY m_length qG uW eY aJ aB bU dN aR aE bJ aW bT gJ dU bL bR bO mY pW)) hP mk_200 12 rfl rfl rfl
  refine g_calli hP hD hS hA (mixT mk_200) (mixF mk_200) hm.1 hm.2 (nd_F _) (dis_g _) (g_runV (As := []) (rest := []) C0 hP hD hS (mixT mk_200) hm.1 (nd_T _) 0 10 rfl rfl (c_X10_fine l dC dI cI cC cZ cB cJ a_m oJ uD dY iJ lJ jQ jR jW jK pJ bM aY jO gR gY mK jZ iY bG mJ jB mQ lY eJ bY H.size bW aG jG bQ dG jY m_length qG uW eY aJ aB bU dN aR aE bJ aW bT gJ dU bL bR bO mY pW _ hp) q_650 q_653 q_651 q_652 q_642 h_X10_fine rfl rfl ⟨Nat.le_of_ble_eq_true rfl, Nat.le_of_ble_eq_true rfl⟩ rfl rfl hl.1 rfl (lv_room (Nat.le_of_ble_eq_true rfl)) eX10_orchard_90.1 ⟨Nat.zero_le _, Nat.zero_le _⟩) (fun r_6 u H locs hp hP hD hS => ?_)
  have hPD := PDm (ws' := (wd_X10_orchard cI cC cZ cB cJ a_m oJ uD dY iJ lJ jQ jR jW jK pJ bM aY jO gR gY mK jZ iY bG mJ jB mQ lY eJ bY bW aG jG bQ dG jY m_length qG uW eY aJ aB bU dN aR aE bJ aW bT gJ dU bL bR bO mY pW rD m_x jA pY rW oY pR rG qL pL rQ)) hP hD 12 rfl rfl rfl
  have hP := hPD.1
  have hD := hPD.2
  refine lv_if_ne (tgt := 103) hx hb eX10_orchard_90.2.1 (by decide) (fun hc => ?_) (fun hc => ?_)
  · have hp := hp.1 hc
    refine lv_iconst (v := 0) hx hb eX10_orchard_90.2.2.2.2.2.2.2.1 ic_0 ?_
    refine lv_istore_n (lv' := [(2, .int 0), (0, .ref a_m)]) hx hb eX10_orchard_90.2.2.2.2.2.2.2.2.1 rfl hl (by decide) rfl (fun ls hl => ?_)
    obtain ⟨n9, hp⟩ := hp
    exact kb_X10_orchard_105 C0 n9 0 bW aG jG dG jY m_length qG uW eY aJ aB bT pW rD m_x jA pY rW oY pR qL pL H locs ls hp hP hD hS (lv_sub hl [1, 0] rfl)
  · have hp := hp.2 hc
    refine lv_iconst (v := (-1)) hx hb eX10_orchard_90.2.2.1 ic_m1 ?_
    refine lv_aload_n hx hb eX10_orchard_90.2.2.2.1 rfl (lv_at hl 0 rfl) ?_
    refine va_get (D := (dC, dI)) (ci := 10) (v := .int eY) (C := RX10) (T := TX10) (N := 51) hx hb hts i_X10 hown hK hP 0 rfl rfl 19 (Nat.le_of_ble_eq_true rfl) (hts _ q_649) (fun _ h9 => h9) rfl eX10_orchard_90.2.2.2.2.1 ?_
    refine lv_isub hx hb eX10_orchard_90.2.2.2.2.2.1 ?_
    exact W.iret (v := (-1) - eY) hx hb hr (fun t ht hW => ⟨⟨(-1) - eY, (bW, aG, jG, dG, jY, m_length, qG, uW, eY, aJ, aB, bT, pW, rD, m_x, jA, pY, rW, oY, pR, qL, pL), rfl, hp, by rw [ht]; exact hP, va_K.moved hW.alike hK, hD⟩, hS.F ht⟩) hS.2.2 eX10_orchard_90.2.2.2.2.2.2.1
noncomputable def ws_X10_orchard_70 (post : Int32 → Int32 → Int32 → Int32 → Int32 → Nat → Int32 → Int32 → Int32 → Int32 → Int32 → Int32 → Int32 → Int32 → (Nat → Int32) → (Nat → Int32) → (Nat → Int32) → (Nat → Int32) → (Nat → Int32) → (Nat → Int32) → (Nat → Int32) → (Nat → Int32) → (Nat → Int32) → Prop) (rG rQ : Nat → Int32) (bW aG jG dG : Int32) (jY : Nat) (m_length qG uW eY aJ aB bT pW : Int32) (rD m_x jA pY rW oY pR qL pL : Nat → Int32) : Prop := (m_length ≤ uW → ws_X10_orchard_89 post rG rQ bW aG jG dG jY m_length qG uW eY aJ aB bT pW rD m_x jA pY rW oY pR qL pL) ∧ (¬ m_length ≤ uW → wp_X10_fault (fun aAP => ws_X10_orchard_89 post rG rQ bW aG jG dG jY m_length qG uW aAP aJ aB bT pW rD m_x jA pY rW oY pR qL pL) uW eY)
set_option maxHeartbeats 4000000 in
set_option maxRecDepth 100000 in
theorem ks_X10_orchard_70 (C0 : gc cX10_orchard (some .int) 3 RX10 (dC, dI) (tyl cI cC cZ cB cJ) A p s m args meth c) : ∀ (bW aG jG dG : Int32) (jY : Nat) (m_length qG uW eY aJ aB bT pW : Int32) (rD m_x jA pY rW oY pR qL pL : Nat → Int32) (H : Heap) (locs : List Loc) (ls : Array Slot), (ws_X10_orchard_70 post rG rQ) bW aG jG dG jY m_length qG uW eY aJ aB bT pW rD m_x jA pY rW oY pR qL pL → va_P (dC, dI) classes (wd_X10_orchard cI cC cZ cB cJ a_m oJ uD dY iJ lJ jQ jR jW jK pJ bM aY jO gR gY mK jZ iY bG mJ jB mQ lY eJ bY bW aG jG bQ dG jY m_length qG uW eY aJ aB bU dN aR aE bJ aW bT gJ dU bL bR bO mY pW rD m_x jA pY rW oY pR rG qL pL rQ) H → va_D A (wd_X10_orchard cI cC cZ cB cJ a_m oJ uD dY iJ lJ jQ jR jW jK pJ bM aY jO gR gY mK jZ iY bG mJ jB mQ lY eJ bY bW aG jG bQ dG jY m_length qG uW eY aJ aB bU dN aR aE bJ aW bT gJ dU bL bR bO mY pW rD m_x jA pY rW oY pR rG qL pL rQ) → va_S A s.heap H locs → lv_has ls 3 [(0, .ref a_m)] → W p l e rm_X10_orchard s m args below meth c H locs 0 0 (MQ below (q_X10_orchard dC dI cI cC cZ cB cJ A a_m oJ uD dY iJ lJ jQ jR jW jK pJ bM aY jO gR gY mK jZ iY bG mJ jB mQ lY eJ bY bQ bU dN aR aE bJ aW gJ dU bL bR bO mY rG rQ post) args s 0 0 A) (F0 m 70 ls []) := by
  obtain ⟨hx, hb, hr, hml, hown, hts, hlocks, hA, hK, hN, tL, tM, hZL, hTL, hZM, hTM, hZX⟩ := id C0
  intro bW aG jG dG jY m_length qG uW eY aJ aB bT pW rD m_x jA pY rW oY pR qL pL H locs ls hp hP hD hS hl
  unfold ws_X10_orchard_70 at hp
  refine lv_aload_n hx hb eX10_orchard_57.2.2.2.2.2.2.1 rfl (lv_at hl 0 rfl) ?_
  refine va_get (D := (dC, dI)) (ci := 10) (v := .int uW) (C := RX10) (T := TX10) (N := 51) hx hb hts i_X10 hown hK hP 0 rfl rfl 18 (Nat.le_of_ble_eq_true rfl) (hts _ q_648) (fun _ h9 => h9) rfl eX10_orchard_57.2.2.2.2.2.2.2.1 ?_
  refine lv_aload_n hx hb eX10_orchard_57.2.2.2.2.2.2.2.2.1 rfl (lv_at hl 0 rfl) ?_
  refine va_get (D := (dC, dI)) (ci := 10) (v := .int m_length) (C := RX10) (T := TX10) (N := 51) hx hb hts i_X10 hown hK hP 0 rfl rfl 16 (Nat.le_of_ble_eq_true rfl) (hts _ q_646) (fun _ h9 => h9) rfl eX10_orchard_57.2.2.2.2.2.2.2.2.2.1 ?_
  refine lv_icmp_ge (tgt := 89) hx hb eX10_orchard_57.2.2.2.2.2.2.2.2.2.2.1 (by decide) (fun hc => ?_) (fun hc => ?_)
  · have hp := hp.1 hc
    exact ks_X10_orchard_89 C0 bW aG jG dG jY m_length qG uW eY aJ aB bT pW rD m_x jA pY rW oY pR qL pL H locs ls hp hP hD hS (lv_sub hl [0] rfl)
  · have hp := hp.2 hc
    refine lv_aload_n hx hb eX10_orchard_57.2.2.2.2.2.2.2.2.2.2.2.1 rfl (lv_at hl 0 rfl) ?_
    refine lv_aload_n hx hb eX10_orchard_57.2.2.2.2.2.2.2.2.2.2.2.2.1 rfl (lv_at hl 0 rfl) ?_
    refine va_get (D := (dC, dI)) (ci := 10) (v := .int uW) (C := RX10) (T := TX10) (N := 51) hx hb hts i_X10 hown hK hP 0 rfl rfl 18 (Nat.le_of_ble_eq_true rfl) (hts _ q_648) (fun _ h9 => h9) rfl eX10_orchard_57.2.2.2.2.2.2.2.2.2.2.2.2.2.1 ?_
    have hm := mgk (wc := (wd_X10_fault cI cC cZ cB cJ a_m oJ uD dY iJ lJ jQ jR jW jK pJ bM aY jO gR gY mK jZ iY bG mJ jB mQ lY eJ bY bW aG jG bQ dG jY m_length qG uW eY aJ aB bU dN aR aE bJ aW bT gJ dU bL bR bO mY pW)) hP mk_200 12 rfl rfl rfl
    refine g_callv hP hD hS hA (mixT mk_200) (mixF mk_200) hm.1 hm.2 (nd_F _) (dis_g _) (g_runV (As := [.int uW]) (rest := []) C0 hP hD hS (mixT mk_200) hm.1 (nd_T _) 0 10 rfl rfl (c_X10_fault l dC dI cI cC cZ cB cJ a_m oJ uD dY iJ lJ jQ jR jW jK pJ bM aY jO gR gY mK jZ iY bG mJ jB mQ lY eJ bY H.size uW bW aG jG bQ dG jY m_length qG uW eY aJ aB bU dN aR aE bJ aW bT gJ dU bL bR bO mY pW _ hp) q_654 q_657 q_655 q_656 q_642 h_X10_fault rfl rfl ⟨Nat.le_of_ble_eq_true rfl, Nat.le_of_ble_eq_true rfl⟩ rfl rfl hl.1 rfl (lv_room (Nat.le_of_ble_eq_true rfl)) eX10_orchard_57.2.2.2.2.2.2.2.2.2.2.2.2.2.2.1 ⟨Nat.zero_le _, Nat.zero_le _⟩) (fun u H locs hp hP hD hS => ?_)
    obtain ⟨aAP, rfl⟩ : ∃ z, z = u := ⟨_, rfl⟩
    have hPD := PDm (ws' := (wd_X10_orchard cI cC cZ cB cJ a_m oJ uD dY iJ lJ jQ jR jW jK pJ bM aY jO gR gY mK jZ iY bG mJ jB mQ lY eJ bY bW aG jG bQ dG jY m_length qG uW aAP aJ aB bU dN aR aE bJ aW bT gJ dU bL bR bO mY pW rD m_x jA pY rW oY pR rG qL pL rQ)) hP hD 12 rfl rfl rfl
    have hP := hPD.1
    have hD := hPD.2
    exact ks_X10_orchard_89 C0 bW aG jG dG jY m_length qG uW aAP aJ aB bT pW rD m_x jA pY rW oY pR qL pL H locs ls hp hP hD hS (lv_sub hl [0] rfl)
noncomputable def ws_X10_orchard_45 (post next : Int32 → Int32 → Int32 → Int32 → Int32 → Nat → Int32 → Int32 → Int32 → Int32 → Int32 → Int32 → Int32 → Int32 → (Nat → Int32) → (Nat → Int32) → (Nat → Int32) → (Nat → Int32) → (Nat → Int32) → (Nat → Int32) → (Nat → Int32) → (Nat → Int32) → (Nat → Int32) → Prop) (rG rQ : Nat → Int32) (x1 bW aG jG dG : Int32) (jY : Nat) (m_length qG uW eY aJ aB bT pW : Int32) (rD m_x jA pY rW oY pR qL pL : Nat → Int32) : Prop := (x1 = 0 → ws_X10_orchard_70 post rG rQ bW aG jG dG jY m_length qG uW eY aJ aB bT pW rD m_x jA pY rW oY pR qL pL) ∧ (¬ x1 = 0 → wp_X10_fine (fun r_29 => (r_29 = 0 → ws_X10_orchard_70 post rG rQ bW aG jG dG jY m_length qG uW eY aJ aB bT pW rD m_x jA pY rW oY pR qL pL) ∧ (¬ r_29 = 0 → wp_X10_readLine (fun m_at_30 aBA aBK aA8 aIx aEB => wp_X10_passes (fun r_36 m_at_37 => next r_36 bW aG jG dG jY m_length qG m_at_37 aBA aBK aA8 bT pW rD m_x jA pY rW oY pR aIx aEB) 59 jY m_length qG m_at_30 aBA rG rQ) bW aG jY m_length qG uW eY aJ aB rG qL pL rQ)) eY)
noncomputable def wb_X10_orchard_45 (post : Int32 → Int32 → Int32 → Int32 → Int32 → Nat → Int32 → Int32 → Int32 → Int32 → Int32 → Int32 → Int32 → Int32 → (Nat → Int32) → (Nat → Int32) → (Nat → Int32) → (Nat → Int32) → (Nat → Int32) → (Nat → Int32) → (Nat → Int32) → (Nat → Int32) → (Nat → Int32) → Prop) (rG rQ : Nat → Int32) : Nat → Int32 → Int32 → Int32 → Int32 → Int32 → Nat → Int32 → Int32 → Int32 → Int32 → Int32 → Int32 → Int32 → Int32 → (Nat → Int32) → (Nat → Int32) → (Nat → Int32) → (Nat → Int32) → (Nat → Int32) → (Nat → Int32) → (Nat → Int32) → (Nat → Int32) → (Nat → Int32) → Prop := fun n => Nat.rec (motive := fun _ => Int32 → Int32 → Int32 → Int32 → Int32 → Nat → Int32 → Int32 → Int32 → Int32 → Int32 → Int32 → Int32 → Int32 → (Nat → Int32) → (Nat → Int32) → (Nat → Int32) → (Nat → Int32) → (Nat → Int32) → (Nat → Int32) → (Nat → Int32) → (Nat → Int32) → (Nat → Int32) → Prop) (fun _ _ _ _ _ _ _ _ _ _ _ _ _ _ _ _ _ _ _ _ _ _ _ => False) (fun _ ih => ws_X10_orchard_45 post ih rG rQ) n
set_option maxHeartbeats 4000000 in
set_option maxRecDepth 100000 in
theorem ks_X10_orchard_45 (C0 : gc cX10_orchard (some .int) 3 RX10 (dC, dI) (tyl cI cC cZ cB cJ) A p s m args meth c) {next : Int32 → Int32 → Int32 → Int32 → Int32 → Nat → Int32 → Int32 → Int32 → Int32 → Int32 → Int32 → Int32 → Int32 → (Nat → Int32) → (Nat → Int32) → (Nat → Int32) → (Nat → Int32) → (Nat → Int32) → (Nat → Int32) → (Nat → Int32) → (Nat → Int32) → (Nat → Int32) → Prop} (hKn : ∀ (x1 : Int32) (bW : Int32) (aG : Int32) (jG : Int32) (dG : Int32) (jY : Nat) (m_length : Int32) (qG : Int32) (uW : Int32) (eY : Int32) (aJ : Int32) (aB : Int32) (bT : Int32) (pW : Int32) (rD : Nat → Int32) (m_x : Nat → Int32) (jA : Nat → Int32) (pY : Nat → Int32) (rW : Nat → Int32) (oY : Nat → Int32) (pR : Nat → Int32) (qL : Nat → Int32) (pL : Nat → Int32) (H : Heap) (locs : List Loc) (ls : Array Slot), next x1 bW aG jG dG jY m_length qG uW eY aJ aB bT pW rD m_x jA pY rW oY pR qL pL → va_P (dC, dI) classes (wd_X10_orchard cI cC cZ cB cJ a_m oJ uD dY iJ lJ jQ jR jW jK pJ bM aY jO gR gY mK jZ iY bG mJ jB mQ lY eJ bY bW aG jG bQ dG jY m_length qG uW eY aJ aB bU dN aR aE bJ aW bT gJ dU bL bR bO mY pW rD m_x jA pY rW oY pR rG qL pL rQ) H → va_D A (wd_X10_orchard cI cC cZ cB cJ a_m oJ uD dY iJ lJ jQ jR jW jK pJ bM aY jO gR gY mK jZ iY bG mJ jB mQ lY eJ bY bW aG jG bQ dG jY m_length qG uW eY aJ aB bU dN aR aE bJ aW bT gJ dU bL bR bO mY pW rD m_x jA pY rW oY pR rG qL pL rQ) → va_S A s.heap H locs → lv_has ls 3 [(0, .ref a_m), (1, .int x1)] → W p l e rm_X10_orchard s m args below meth c H locs 0 0 (MQ below (q_X10_orchard dC dI cI cC cZ cB cJ A a_m oJ uD dY iJ lJ jQ jR jW jK pJ bM aY jO gR gY mK jZ iY bG mJ jB mQ lY eJ bY bQ bU dN aR aE bJ aW gJ dU bL bR bO mY rG rQ post) args s 0 0 A) (F0 m 45 ls [])) : ∀ (x1 bW aG jG dG : Int32) (jY : Nat) (m_length qG uW eY aJ aB bT pW : Int32) (rD m_x jA pY rW oY pR qL pL : Nat → Int32) (H : Heap) (locs : List Loc) (ls : Array Slot), (ws_X10_orchard_45 post next rG rQ) x1 bW aG jG dG jY m_length qG uW eY aJ aB bT pW rD m_x jA pY rW oY pR qL pL → va_P (dC, dI) classes (wd_X10_orchard cI cC cZ cB cJ a_m oJ uD dY iJ lJ jQ jR jW jK pJ bM aY jO gR gY mK jZ iY bG mJ jB mQ lY eJ bY bW aG jG bQ dG jY m_length qG uW eY aJ aB bU dN aR aE bJ aW bT gJ dU bL bR bO mY pW rD m_x jA pY rW oY pR rG qL pL rQ) H → va_D A (wd_X10_orchard cI cC cZ cB cJ a_m oJ uD dY iJ lJ jQ jR jW jK pJ bM aY jO gR gY mK jZ iY bG mJ jB mQ lY eJ bY bW aG jG bQ dG jY m_length qG uW eY aJ aB bU dN aR aE bJ aW bT gJ dU bL bR bO mY pW rD m_x jA pY rW oY pR rG qL pL rQ) → va_S A s.heap H locs → lv_has ls 3 [(0, .ref a_m), (1, .int x1)] → W p l e rm_X10_orchard s m args below meth c H locs 0 0 (MQ below (q_X10_orchard dC dI cI cC cZ cB cJ A a_m oJ uD dY iJ lJ jQ jR jW jK pJ bM aY jO gR gY mK jZ iY bG mJ jB mQ lY eJ bY bQ bU dN aR aE bJ aW gJ dU bL bR bO mY rG rQ post) args s 0 0 A) (F0 m 45 ls []) := by
  obtain ⟨hx, hb, hr, hml, hown, hts, hlocks, hA, hK, hN, tL, tM, hZL, hTL, hZM, hTM, hZX⟩ := id C0
  intro x1 bW aG jG dG jY m_length qG uW eY aJ aB bT pW rD m_x jA pY rW oY pR qL pL H locs ls hp hP hD hS hl
  unfold ws_X10_orchard_45 at hp
  refine lv_iload_n hx hb eX10_orchard_31.2.2.2.2.2.2.2.2.2.2.1 rfl (lv_at hl 1 rfl) ?_
  refine lv_if_eq (tgt := 70) hx hb eX10_orchard_31.2.2.2.2.2.2.2.2.2.2.2.1 (by decide) (fun hc => ?_) (fun hc => ?_)
  · have hp := hp.1 hc
    exact ks_X10_orchard_70 C0 bW aG jG dG jY m_length qG uW eY aJ aB bT pW rD m_x jA pY rW oY pR qL pL H locs ls hp hP hD hS (lv_sub hl [0] rfl)
  · have hp := hp.2 hc
    refine lv_aload_n hx hb eX10_orchard_31.2.2.2.2.2.2.2.2.2.2.2.2.1 rfl (lv_at hl 0 rfl) ?_
    have hm := mgk (wc := (wd_X10_fine cI cC cZ cB cJ a_m oJ uD dY iJ lJ jQ jR jW jK pJ bM aY jO gR gY mK jZ iY bG mJ jB mQ lY eJ bY bW aG jG bQ dG jY m_length qG uW eY aJ aB bU dN aR aE bJ aW bT gJ dU bL bR bO mY pW)) hP mk_200 12 rfl rfl rfl
    refine g_calli hP hD hS hA (mixT mk_200) (mixF mk_200) hm.1 hm.2 (nd_F _) (dis_g _) (g_runV (As := []) (rest := []) C0 hP hD hS (mixT mk_200) hm.1 (nd_T _) 0 10 rfl rfl (c_X10_fine l dC dI cI cC cZ cB cJ a_m oJ uD dY iJ lJ jQ jR jW jK pJ bM aY jO gR gY mK jZ iY bG mJ jB mQ lY eJ bY H.size bW aG jG bQ dG jY m_length qG uW eY aJ aB bU dN aR aE bJ aW bT gJ dU bL bR bO mY pW _ hp) q_650 q_653 q_651 q_652 q_642 h_X10_fine rfl rfl ⟨Nat.le_of_ble_eq_true rfl, Nat.le_of_ble_eq_true rfl⟩ rfl rfl hl.1 rfl (lv_room (Nat.le_of_ble_eq_true rfl)) eX10_orchard_31.2.2.2.2.2.2.2.2.2.2.2.2.2.1 ⟨Nat.zero_le _, Nat.zero_le _⟩) (fun r_29 u H locs hp hP hD hS => ?_)
    have hPD := PDm (ws' := (wd_X10_orchard cI cC cZ cB cJ a_m oJ uD dY iJ lJ jQ jR jW jK pJ bM aY jO gR gY mK jZ iY bG mJ jB mQ lY eJ bY bW aG jG bQ dG jY m_length qG uW eY aJ aB bU dN aR aE bJ aW bT gJ dU bL bR bO mY pW rD m_x jA pY rW oY pR rG qL pL rQ)) hP hD 12 rfl rfl rfl
    have hP := hPD.1
    have hD := hPD.2
    refine lv_if_eq (tgt := 70) hx hb eX10_orchard_31.2.2.2.2.2.2.2.2.2.2.2.2.2.2.1 (by decide) (fun hc => ?_) (fun hc => ?_)
    · have hp := hp.1 hc
      exact ks_X10_orchard_70 C0 bW aG jG dG jY m_length qG uW eY aJ aB bT pW rD m_x jA pY rW oY pR qL pL H locs ls hp hP hD hS (lv_sub hl [0] rfl)
    · have hp := hp.2 hc
      refine lv_aload_n hx hb eX10_orchard_31.2.2.2.2.2.2.2.2.2.2.2.2.2.2.2 rfl (lv_at hl 0 rfl) ?_
      have hm := mgk (wc := (wd_X10_readLine cI cC cZ cB cJ a_m oJ uD dY iJ lJ jQ jR jW jK pJ bM aY jO gR gY mK jZ iY bG mJ jB mQ lY eJ bY bW aG jG bQ dG jY m_length qG uW eY aJ aB bU dN aR aE bJ aW bT gJ dU bL bR bO mY pW rG qL pL rQ)) hP mk_201 12 rfl rfl rfl
      refine g_callv hP hD hS hA (mixT mk_201) (mixF mk_201) hm.1 hm.2 (nd_F _) (dis_g _) (g_runV (As := []) (rest := []) C0 hP hD hS (mixT mk_201) hm.1 (nd_T _) 0 10 rfl rfl (c_X10_readLine l dC dI cI cC cZ cB cJ a_m oJ uD dY iJ lJ jQ jR jW jK pJ bM aY jO gR gY mK jZ iY bG mJ jB mQ lY eJ bY H.size bW aG jG bQ dG jY m_length qG uW eY aJ aB bU dN aR aE bJ aW bT gJ dU bL bR bO mY pW rG qL pL rQ _ hp) q_693 q_696 q_694 q_695 q_642 h_X10_readLine rfl rfl ⟨Nat.le_of_ble_eq_true rfl, Nat.le_of_ble_eq_true rfl⟩ rfl rfl hl.1 rfl (lv_room (Nat.le_of_ble_eq_true rfl)) eX10_orchard_57.1 ⟨Nat.zero_le _, Nat.zero_le _⟩) (fun u H locs hp hP hD hS => ?_)
      obtain ⟨m_at_30, aBA, aBK, aA8, aIx, aEB⟩ := u
      have hPD := PDm (ws' := (wd_X10_orchard cI cC cZ cB cJ a_m oJ uD dY iJ lJ jQ jR jW jK pJ bM aY jO gR gY mK jZ iY bG mJ jB mQ lY eJ bY bW aG jG bQ dG jY m_length qG m_at_30 aBA aBK aA8 bU dN aR aE bJ aW bT gJ dU bL bR bO mY pW rD m_x jA pY rW oY pR rG aIx aEB rQ)) hP hD 12 rfl rfl rfl
      have hP := hPD.1
      have hD := hPD.2
      refine lv_aload_n hx hb eX10_orchard_57.2.1 rfl (lv_at hl 0 rfl) ?_
      refine lv_bipush (v := 59) hx hb eX10_orchard_57.2.2.1 bp_59 ?_
      have hm := mgk (wc := (wd_X10_passes cI cC cZ cB cJ a_m oJ uD dY iJ lJ jQ jR jW jK pJ bM aY jO gR gY mK jZ iY bG mJ jB mQ lY eJ bY bW aG jG bQ dG jY m_length qG m_at_30 aBA aBK aA8 bU dN aR aE bJ aW bT gJ dU bL bR bO mY pW rG rQ)) hP mk_202 12 rfl rfl rfl
      refine g_calli hP hD hS hA (mixT mk_202) (mixF mk_202) hm.1 hm.2 (nd_F _) (dis_g _) (g_runV (As := [.int 59]) (rest := []) C0 hP hD hS (mixT mk_202) hm.1 (nd_T _) 0 10 rfl rfl (c_X10_passes l dC dI cI cC cZ cB cJ a_m oJ uD dY iJ lJ jQ jR jW jK pJ bM aY jO gR gY mK jZ iY bG mJ jB mQ lY eJ bY H.size 59 bW aG jG bQ dG jY m_length qG m_at_30 aBA aBK aA8 bU dN aR aE bJ aW bT gJ dU bL bR bO mY pW rG rQ _ hp) q_662 q_665 q_663 q_664 q_642 h_X10_passes rfl rfl ⟨Nat.le_of_ble_eq_true rfl, Nat.le_of_ble_eq_true rfl⟩ rfl rfl hl.1 rfl (lv_room (Nat.le_of_ble_eq_true rfl)) eX10_orchard_57.2.2.2.1 ⟨Nat.zero_le _, Nat.zero_le _⟩) (fun r_36 u H locs hp hP hD hS => ?_)
      obtain ⟨m_at_37, rfl⟩ : ∃ z, z = u := ⟨_, rfl⟩
      have hPD := PDm (ws' := (wd_X10_orchard cI cC cZ cB cJ a_m oJ uD dY iJ lJ jQ jR jW jK pJ bM aY jO gR gY mK jZ iY bG mJ jB mQ lY eJ bY bW aG jG bQ dG jY m_length qG m_at_37 aBA aBK aA8 bU dN aR aE bJ aW bT gJ dU bL bR bO mY pW rD m_x jA pY rW oY pR rG aIx aEB rQ)) hP hD 12 rfl rfl rfl
      have hP := hPD.1
      have hD := hPD.2
      refine lv_istore_n (lv' := [(1, .int r_36), (0, .ref a_m)]) hx hb eX10_orchard_57.2.2.2.2.1 rfl hl (by decide) rfl (fun ls hl => ?_)
      refine lv_goto (tgt := 45) hx hb eX10_orchard_57.2.2.2.2.2.1 (by decide) ?_
      exact hKn r_36 bW aG jG dG jY m_length qG m_at_37 aBA aBK aA8 bT pW rD m_x jA pY rW oY pR aIx aEB H locs ls hp hP hD hS (lv_sub hl [1, 0] rfl)
set_option maxHeartbeats 4000000 in
set_option maxRecDepth 100000 in
theorem kb_X10_orchard_45 (C0 : gc cX10_orchard (some .int) 3 RX10 (dC, dI) (tyl cI cC cZ cB cJ) A p s m args meth c) : ∀ (n : Nat), ∀ (x1 bW aG jG dG : Int32) (jY : Nat) (m_length qG uW eY aJ aB bT pW : Int32) (rD m_x jA pY rW oY pR qL pL : Nat → Int32) (H : Heap) (locs : List Loc) (ls : Array Slot), (wb_X10_orchard_45 post rG rQ n) x1 bW aG jG dG jY m_length qG uW eY aJ aB bT pW rD m_x jA pY rW oY pR qL pL → va_P (dC, dI) classes (wd_X10_orchard cI cC cZ cB cJ a_m oJ uD dY iJ lJ jQ jR jW jK pJ bM aY jO gR gY mK jZ iY bG mJ jB mQ lY eJ bY bW aG jG bQ dG jY m_length qG uW eY aJ aB bU dN aR aE bJ aW bT gJ dU bL bR bO mY pW rD m_x jA pY rW oY pR rG qL pL rQ) H → va_D A (wd_X10_orchard cI cC cZ cB cJ a_m oJ uD dY iJ lJ jQ jR jW jK pJ bM aY jO gR gY mK jZ iY bG mJ jB mQ lY eJ bY bW aG jG bQ dG jY m_length qG uW eY aJ aB bU dN aR aE bJ aW bT gJ dU bL bR bO mY pW rD m_x jA pY rW oY pR rG qL pL rQ) → va_S A s.heap H locs → lv_has ls 3 [(0, .ref a_m), (1, .int x1)] → W p l e rm_X10_orchard s m args below meth c H locs 0 0 (MQ below (q_X10_orchard dC dI cI cC cZ cB cJ A a_m oJ uD dY iJ lJ jQ jR jW jK pJ bM aY jO gR gY mK jZ iY bG mJ jB mQ lY eJ bY bQ bU dN aR aE bJ aW gJ dU bL bR bO mY rG rQ post) args s 0 0 A) (F0 m 45 ls []) := by
  intro n
  induction n with
  | zero =>
    intro x1 bW aG jG dG jY m_length qG uW eY aJ aB bT pW rD m_x jA pY rW oY pR qL pL H locs ls hp
    exact False.elim hp
  | succ n ih =>
    intro x1 bW aG jG dG jY m_length qG uW eY aJ aB bT pW rD m_x jA pY rW oY pR qL pL H locs ls hp
    exact ks_X10_orchard_45 C0 ih x1 bW aG jG dG jY m_length qG uW eY aJ aB bT pW rD m_x jA pY rW oY pR qL pL H locs ls hp
end S_X10_orchard
noncomputable def wp_X10_orchard (post : Int32 → Int32 → Int32 → Int32 → Int32 → Nat → Int32 → Int32 → Int32 → Int32 → Int32 → Int32 → Int32 → Int32 → (Nat → Int32) → (Nat → Int32) → (Nat → Int32) → (Nat → Int32) → (Nat → Int32) → (Nat → Int32) → (Nat → Int32) → (Nat → Int32) → (Nat → Int32) → Prop) (bW aG jG dG : Int32) (jY : Nat) (m_length qG uW eY aJ aB bT pW : Int32) (rD m_x jA pY rW oY pR rG qL pL rQ : Nat → Int32) : Prop := wp_X10_begin (fun zL yG aAj aAU yX => (¬ yG = 0 → ∃ n : Nat, wb_X10_orchard_45 post rG rQ n 1 bW aG 0 0 zL yG aAj aAU yX 0 0 bT pW rD m_x jA pY rW oY pR qL pL) ∧ (yG = 0 → post 0 bW aG 0 0 zL yG aAj aAU yX aJ aB bT pW rD m_x jA pY rW oY pR qL pL)) jG 76 jY m_length qG uW eY
set_option maxHeartbeats 4000000 in
set_option maxRecDepth 100000 in
theorem c_X10_orchard (l : Launch) (dC : Nat → ClassId) (dI : Nat → Nat → Nat) (cI cC cZ cB cJ : ClassId) (a_m oJ uD dY iJ lJ jQ jR jW jK pJ bM aY jO gR gY mK jZ iY bG mJ jB mQ lY eJ bY sz : Nat) (bW aG jG bQ dG : Int32) (jY : Nat) (m_length qG uW eY aJ aB bU dN aR aE bJ aW bT gJ dU bL bR bO mY pW : Int32) (rD m_x jA pY rW oY pR rG qL pL rQ : Nat → Int32) (post : Int32 → Int32 → Int32 → Int32 → Int32 → Nat → Int32 → Int32 → Int32 → Int32 → Int32 → Int32 → Int32 → Int32 → (Nat → Int32) → (Nat → Int32) → (Nat → Int32) → (Nat → Int32) → (Nat → Int32) → (Nat → Int32) → (Nat → Int32) → (Nat → Int32) → (Nat → Int32) → Prop) (hw : wp_X10_orchard post bW aG jG dG jY m_length qG uW eY aJ aB bT pW rD m_x jA pY rW oY pR rG qL pL rQ) : Met l yX10_orchard (gw yX10_orchard cX10_orchard 3 (some .int)) rm_X10_orchard (va_Pc [.ref a_m] (gPre (dC, dI) (tyl cI cC cZ cB cJ) (wd_X10_orchard cI cC cZ cB cJ a_m oJ uD dY iJ lJ jQ jR jW jK pJ bM aY jO gR gY mK jZ iY bG mJ jB mQ lY eJ bY bW aG jG bQ dG jY m_length qG uW eY aJ aB bU dN aR aE bJ aW bT gJ dU bL bR bO mY pW rD m_x jA pY rW oY pR rG qL pL rQ) sz)) (q_X10_orchard dC dI cI cC cZ cB cJ (va_A (wd_X10_orchard cI cC cZ cB cJ a_m oJ uD dY iJ lJ jQ jR jW jK pJ bM aY jO gR gY mK jZ iY bG mJ jB mQ lY eJ bY bW aG jG bQ dG jY m_length qG uW eY aJ aB bU dN aR aE bJ aW bT gJ dU bL bR bO mY pW rD m_x jA pY rW oY pR rG qL pL rQ) sz) a_m oJ uD dY iJ lJ jQ jR jW jK pJ bM aY jO gR gY mK jZ iY bG mJ jB mQ lY eJ bY bQ bU dN aR aE bJ aW gJ dU bL bR bO mY rG rQ post) 0 0 (va_A (wd_X10_orchard cI cC cZ cB cJ a_m oJ uD dY iJ lJ jQ jR jW jK pJ bM aY jO gR gY mK jZ iY bG mJ jB mQ lY eJ bY bW aG jG bQ dG jY m_length qG uW eY aJ aB bU dN aR aE bJ aW bT gJ dU bL bR bO mY pW rD m_x jA pY rW oY pR rG qL pL rQ) sz) := by
  refine g_enter (own := RX10) (dC, dI) (tyl cI cC cZ cB cJ) (wd_X10_orchard cI cC cZ cB cJ a_m oJ uD dY iJ lJ jQ jR jW jK pJ bM aY jO gR gY mK jZ iY bG mJ jB mQ lY eJ bY bW aG jG bQ dG jY m_length qG uW eY aJ aB bU dN aR aE bJ aW bT gJ dU bL bR bO mY pW rD m_x jA pY rW oY pR rG qL pL rQ) sz [.ref a_m] (fun A => q_X10_orchard dC dI cI cC cZ cB cJ A a_m oJ uD dY iJ lJ jQ jR jW jK pJ bM aY jO gR gY mK jZ iY bG mJ jB mQ lY eJ bY bQ bU dN aR aE bJ aW gJ dU bL bR bO mY rG rQ post) pn_RX10 rfl (Nat.le_of_ble_eq_true rfl) ?_
  intro p e s m args below meth c A H locs ls C0 hP hD hS hl
  have hl : lv_has ls 3 [(0, .ref a_m)] := hl
  obtain ⟨hx, hb, hr, hml, hown, hts, hlocks, hA, hK, hN, tL, tM, hZL, hTL, hZM, hTM, hZX⟩ := id C0
  have hp := hw
  unfold wp_X10_orchard at hp
  refine lv_aload_n hx hb eX10_orchard_0.1 rfl (lv_at hl 0 rfl) ?_
  refine lv_iconst (v := 0) hx hb eX10_orchard_0.2.1 ic_0 ?_
  refine va_put (D := (dC, dI)) (ci := 10) (v := .int 0) (ty := .int) (C := RX10) (T := TX10) (N := 51) hx hb hts i_X10 tyX10 tyX10_ok nmX10 hown hK hP hD hS 0 rfl rfl 14 (Nat.le_of_ble_eq_true rfl) (hts _ q_638) (fun _ h9 => h9) rfl (tyX10_ok 14 (Nat.le_of_ble_eq_true rfl)) rfl rfl (Nat.le_of_ble_eq_true rfl) eX10_orchard_0.2.2.1 (fun H locs hP hD hS => ?_)
  have hP : va_P (dC, dI) classes (wd_X10_orchard cI cC cZ cB cJ a_m oJ uD dY iJ lJ jQ jR jW jK pJ bM aY jO gR gY mK jZ iY bG mJ jB mQ lY eJ bY bW aG jG bQ 0 jY m_length qG uW eY aJ aB bU dN aR aE bJ aW bT gJ dU bL bR bO mY pW rD m_x jA pY rW oY pR rG qL pL rQ) H := hP
  have hD : va_D A (wd_X10_orchard cI cC cZ cB cJ a_m oJ uD dY iJ lJ jQ jR jW jK pJ bM aY jO gR gY mK jZ iY bG mJ jB mQ lY eJ bY bW aG jG bQ 0 jY m_length qG uW eY aJ aB bU dN aR aE bJ aW bT gJ dU bL bR bO mY pW rD m_x jA pY rW oY pR rG qL pL rQ) := hD
  refine lv_aload_n hx hb eX10_orchard_0.2.2.2.1 rfl (lv_at hl 0 rfl) ?_
  refine lv_aload_n hx hb eX10_orchard_0.2.2.2.2.1 rfl (lv_at hl 0 rfl) ?_
  refine va_get (D := (dC, dI)) (ci := 10) (v := .ref jK) (C := RX10) (T := TX10) (N := 51) hx hb hts i_X10 hown hK hP 0 rfl rfl 10 (Nat.le_of_ble_eq_true rfl) (hts _ q_640) (fun _ h9 => h9) rfl eX10_orchard_0.2.2.2.2.2.1 ?_
  refine lv_aload_n hx hb eX10_orchard_0.2.2.2.2.2.2.1 rfl (lv_at hl 0 rfl) ?_
  refine va_get (D := (dC, dI)) (ci := 10) (v := .int jG) (C := RX10) (T := TX10) (N := 51) hx hb hts i_X10 hown hK hP 0 rfl rfl 11 (Nat.le_of_ble_eq_true rfl) (hts _ q_639) (fun _ h9 => h9) rfl eX10_orchard_0.2.2.2.2.2.2.2.1 ?_
  refine lv_bipush (v := 76) hx hb eX10_orchard_0.2.2.2.2.2.2.2.2.1 bp_76 ?_
  have hm := mgk (wc := (wd_X10_begin cI cC cZ cB cJ a_m oJ uD dY iJ lJ jQ jR jW jK pJ bM aY jO gR gY mK jZ iY bG mJ jB mQ lY eJ bY bW aG jG bQ 0 jY m_length qG uW eY aJ aB bU dN aR aE bJ aW bT gJ dU bL bR bO mY pW)) hP mk_200 12 rfl rfl rfl
  refine g_callv hP hD hS hA (mixT mk_200) (mixF mk_200) hm.1 hm.2 (nd_F _) (dis_g _) (g_runV (As := [.ref jK, .int jG, .int 76]) (rest := []) C0 hP hD hS (mixT mk_200) hm.1 (nd_T _) 0 10 rfl rfl (c_X10_begin l dC dI cI cC cZ cB cJ a_m oJ uD dY iJ lJ jQ jR jW jK pJ bM aY jO gR gY mK jZ iY bG mJ jB mQ lY eJ bY H.size jG 76 bW aG jG bQ 0 jY m_length qG uW eY aJ aB bU dN aR aE bJ aW bT gJ dU bL bR bO mY pW _ hp) q_680 q_683 q_681 q_682 q_642 h_X10_begin rfl rfl ⟨Nat.le_of_ble_eq_true rfl, Nat.le_of_ble_eq_true rfl⟩ rfl rfl hl.1 rfl (lv_room (Nat.le_of_ble_eq_true rfl)) eX10_orchard_0.2.2.2.2.2.2.2.2.2.1 ⟨Nat.zero_le _, Nat.zero_le _⟩) (fun u H locs hp hP hD hS => ?_)
  obtain ⟨zL, yG, aAj, aAU, yX⟩ := u
  have hPD := PDm (ws' := (wd_X10_orchard cI cC cZ cB cJ a_m oJ uD dY iJ lJ jQ jR jW jK pJ bM aY jO gR gY mK jZ iY bG mJ jB mQ lY eJ bY bW aG jG bQ 0 zL yG aAj aAU yX aJ aB bU dN aR aE bJ aW bT gJ dU bL bR bO mY pW rD m_x jA pY rW oY pR rG qL pL rQ)) hP hD 12 rfl rfl rfl
  have hP := hPD.1
  have hD := hPD.2
  refine lv_aload_n hx hb eX10_orchard_0.2.2.2.2.2.2.2.2.2.2.1 rfl (lv_at hl 0 rfl) ?_
  refine lv_iconst (v := 0) hx hb eX10_orchard_0.2.2.2.2.2.2.2.2.2.2.2.1 ic_0 ?_
  refine va_put (D := (dC, dI)) (ci := 10) (v := .int 0) (ty := .int) (C := RX10) (T := TX10) (N := 51) hx hb hts i_X10 tyX10 tyX10_ok nmX10 hown hK hP hD hS 0 rfl rfl 11 (Nat.le_of_ble_eq_true rfl) (hts _ q_639) (fun _ h9 => h9) rfl (tyX10_ok 11 (Nat.le_of_ble_eq_true rfl)) rfl rfl (Nat.le_of_ble_eq_true rfl) eX10_orchard_0.2.2.2.2.2.2.2.2.2.2.2.2.1 (fun H locs hP hD hS => ?_)
  have hP : va_P (dC, dI) classes (wd_X10_orchard cI cC cZ cB cJ a_m oJ uD dY iJ lJ jQ jR jW jK pJ bM aY jO gR gY mK jZ iY bG mJ jB mQ lY eJ bY bW aG 0 bQ 0 zL yG aAj aAU yX aJ aB bU dN aR aE bJ aW bT gJ dU bL bR bO mY pW rD m_x jA pY rW oY pR rG qL pL rQ) H := hP
  have hD : va_D A (wd_X10_orchard cI cC cZ cB cJ a_m oJ uD dY iJ lJ jQ jR jW jK pJ bM aY jO gR gY mK jZ iY bG mJ jB mQ lY eJ bY bW aG 0 bQ 0 zL yG aAj aAU yX aJ aB bU dN aR aE bJ aW bT gJ dU bL bR bO mY pW rD m_x jA pY rW oY pR rG qL pL rQ) := hD
  refine lv_aload_n hx hb eX10_orchard_0.2.2.2.2.2.2.2.2.2.2.2.2.2.1 rfl (lv_at hl 0 rfl) ?_
  refine va_get (D := (dC, dI)) (ci := 10) (v := .int yG) (C := RX10) (T := TX10) (N := 51) hx hb hts i_X10 hown hK hP 0 rfl rfl 16 (Nat.le_of_ble_eq_true rfl) (hts _ q_646) (fun _ h9 => h9) rfl eX10_orchard_0.2.2.2.2.2.2.2.2.2.2.2.2.2.2.1 ?_
  refine lv_if_ne (tgt := 33) hx hb eX10_orchard_0.2.2.2.2.2.2.2.2.2.2.2.2.2.2.2 (by decide) (fun hc => ?_) (fun hc => ?_)
  · have hp := hp.1 hc
    refine lv_aload_n hx hb eX10_orchard_31.2.2.1 rfl (lv_at hl 0 rfl) ?_
    refine lv_iconst (v := 0) hx hb eX10_orchard_31.2.2.2.1 ic_0 ?_
    refine va_put (D := (dC, dI)) (ci := 10) (v := .int 0) (ty := .int) (C := RX10) (T := TX10) (N := 51) hx hb hts i_X10 tyX10 tyX10_ok nmX10 hown hK hP hD hS 0 rfl rfl 22 (Nat.le_of_ble_eq_true rfl) (hts _ q_678) (fun _ h9 => h9) rfl (tyX10_ok 22 (Nat.le_of_ble_eq_true rfl)) rfl rfl (Nat.le_of_ble_eq_true rfl) eX10_orchard_31.2.2.2.2.1 (fun H locs hP hD hS => ?_)
    have hP : va_P (dC, dI) classes (wd_X10_orchard cI cC cZ cB cJ a_m oJ uD dY iJ lJ jQ jR jW jK pJ bM aY jO gR gY mK jZ iY bG mJ jB mQ lY eJ bY bW aG 0 bQ 0 zL yG aAj aAU yX 0 aB bU dN aR aE bJ aW bT gJ dU bL bR bO mY pW rD m_x jA pY rW oY pR rG qL pL rQ) H := hP
    have hD : va_D A (wd_X10_orchard cI cC cZ cB cJ a_m oJ uD dY iJ lJ jQ jR jW jK pJ bM aY jO gR gY mK jZ iY bG mJ jB mQ lY eJ bY bW aG 0 bQ 0 zL yG aAj aAU yX 0 aB bU dN aR aE bJ aW bT gJ dU bL bR bO mY pW rD m_x jA pY rW oY pR rG qL pL rQ) := hD
    refine lv_aload_n hx hb eX10_orchard_31.2.2.2.2.2.1 rfl (lv_at hl 0 rfl) ?_
    refine lv_iconst (v := 0) hx hb eX10_orchard_31.2.2.2.2.2.2.1 ic_0 ?_
    refine va_put (D := (dC, dI)) (ci := 10) (v := .int 0) (ty := .int) (C := RX10) (T := TX10) (N := 51) hx hb hts i_X10 tyX10 tyX10_ok nmX10 hown hK hP hD hS 0 rfl rfl 23 (Nat.le_of_ble_eq_true rfl) (hts _ q_667) (fun _ h9 => h9) rfl (tyX10_ok 23 (Nat.le_of_ble_eq_true rfl)) rfl rfl (Nat.le_of_ble_eq_true rfl) eX10_orchard_31.2.2.2.2.2.2.2.1 (fun H locs hP hD hS => ?_)
    have hP : va_P (dC, dI) classes (wd_X10_orchard cI cC cZ cB cJ a_m oJ uD dY iJ lJ jQ jR jW jK pJ bM aY jO gR gY mK jZ iY bG mJ jB mQ lY eJ bY bW aG 0 bQ 0 zL yG aAj aAU yX 0 0 bU dN aR aE bJ aW bT gJ dU bL bR bO mY pW rD m_x jA pY rW oY pR rG qL pL rQ) H := hP
    have hD : va_D A (wd_X10_orchard cI cC cZ cB cJ a_m oJ uD dY iJ lJ jQ jR jW jK pJ bM aY jO gR gY mK jZ iY bG mJ jB mQ lY eJ bY bW aG 0 bQ 0 zL yG aAj aAU yX 0 0 bU dN aR aE bJ aW bT gJ dU bL bR bO mY pW rD m_x jA pY rW oY pR rG qL pL rQ) := hD
    refine lv_iconst (v := 1) hx hb eX10_orchard_31.2.2.2.2.2.2.2.2.1 ic_1 ?_
    refine lv_istore_n (lv' := [(1, .int 1), (0, .ref a_m)]) hx hb eX10_orchard_31.2.2.2.2.2.2.2.2.2.1 rfl hl (by decide) rfl (fun ls hl => ?_)
    obtain ⟨n9, hp⟩ := hp
    exact kb_X10_orchard_45 C0 n9 1 bW aG 0 0 zL yG aAj aAU yX 0 0 bT pW rD m_x jA pY rW oY pR qL pL H locs ls hp hP hD hS (lv_sub hl [1, 0] rfl)
  · have hp := hp.2 hc
    refine lv_iconst (v := 0) hx hb eX10_orchard_31.1 ic_0 ?_
    exact W.iret (v := 0) hx hb hr (fun t ht hW => ⟨⟨0, (bW, aG, 0, 0, zL, yG, aAj, aAU, yX, aJ, aB, bT, pW, rD, m_x, jA, pY, rW, oY, pR, qL, pL), rfl, hp, by rw [ht]; exact hP, va_K.moved hW.alike hK, hD⟩, hS.F ht⟩) hS.2.2 eX10_orchard_31.2.1
noncomputable abbrev wd_X10_above (cI cC cZ cB cJ : ClassId) (a_m oJ uD dY iJ lJ jQ jR jW jK pJ bM aY jO gR gY mK jZ iY bG mJ jB mQ lY eJ bY : Nat) (bW aG jG bQ dG : Int32) (jY : Nat) (m_length qG uW eY aJ aB bU dN aR aE bJ aW bT gJ dU bL bR bO mY pW : Int32) (jA pR : Nat → Int32) : va_W := [(a_m, .inr (10, [.ref oJ, .int bW, .ref uD, .ref dY, .ref iJ, .ref lJ, .int aG, .ref jQ, .ref jR, .ref jW, .ref jK, .int jG, .ref pJ, .int bQ, .int dG, rdv jK jO jY, .int m_length, .int qG, .int uW, .int eY, .ref bM, .ref aY, .int aJ, .int aB, .ref jO, .int bU, .int dN, .int aR, .int aE, .int bJ, .int aW, .ref gR, .int bT, .ref gY, .ref mK, .int gJ, .ref jZ, .int dU, .ref iY, .ref bG, .int bL, .int bR, .int bO, .ref mJ, .ref jB, .ref mQ, .int mY, .int pW, .ref lY, .ref eJ, .ref bY])), (dY, .inl (cI, 16, .inl jA)), (jR, .inl (cI, 8, .inl pR))]
noncomputable abbrev q_X10_above (dC : Nat → ClassId) (dI : Nat → Nat → Nat) (cI cC cZ cB cJ : ClassId) (A : Nat → Prop) (a_m oJ uD dY iJ lJ jQ jR jW jK pJ bM aY jO gR gY mK jZ iY bG mJ jB mQ lY eJ bY : Nat) (bW aG jG bQ dG : Int32) (jY : Nat) (m_length qG uW eY aJ aB bU dN aR aE bJ aW bT gJ dU bL bR bO mY pW : Int32) (jA pR : Nat → Int32) (post : Int32 → Prop) : Array Value → State → Outcome → State → Prop := va_Qi (fun (r : Int32) (u : Unit) => post r) (fun u t => gB (dC, dI) (tyl cI cC cZ cB cJ) A (wd_X10_above cI cC cZ cB cJ a_m oJ uD dY iJ lJ jQ jR jW jK pJ bM aY jO gR gY mK jZ iY bG mJ jB mQ lY eJ bY bW aG jG bQ dG jY m_length qG uW eY aJ aB bU dN aR aE bJ aW bT gJ dU bL bR bO mY pW jA pR) t) A
noncomputable abbrev rm_X10_above : Room := { frames := 1, cells := 0, slots := 0, locals := 21 }
noncomputable def wp_X10_above (post : Int32 → Prop) (p0 p1 : Int32) (jA pR : Nat → Int32) : Prop := vp_in p0 16 ∧ (∀ v_1 : Int32, v_1 = jA p0.toNatClampNeg → vp_in p1 8 ∧ (∀ v_2 : Int32, v_2 = v_1 - (pR p1.toNatClampNeg) → ∀ v_3 : Int32, v_3 = (if 0 < v_2 then v_2 else 0) → post v_3))
set_option maxHeartbeats 4000000 in
set_option maxRecDepth 100000 in
theorem c_X10_above (l : Launch) (dC : Nat → ClassId) (dI : Nat → Nat → Nat) (cI cC cZ cB cJ : ClassId) (a_m oJ uD dY iJ lJ jQ jR jW jK pJ bM aY jO gR gY mK jZ iY bG mJ jB mQ lY eJ bY sz : Nat) (p0 p1 bW aG jG bQ dG : Int32) (jY : Nat) (m_length qG uW eY aJ aB bU dN aR aE bJ aW bT gJ dU bL bR bO mY pW : Int32) (jA pR : Nat → Int32) (post : Int32 → Prop) (hw : wp_X10_above post p0 p1 jA pR) : Met l yX10_above (gw yX10_above cX10_above 3 (some .int)) rm_X10_above (va_Pc [.ref a_m, .int p0, .int p1] (gPre (dC, dI) (tyl cI cC cZ cB cJ) (wd_X10_above cI cC cZ cB cJ a_m oJ uD dY iJ lJ jQ jR jW jK pJ bM aY jO gR gY mK jZ iY bG mJ jB mQ lY eJ bY bW aG jG bQ dG jY m_length qG uW eY aJ aB bU dN aR aE bJ aW bT gJ dU bL bR bO mY pW jA pR) sz)) (q_X10_above dC dI cI cC cZ cB cJ (va_A (wd_X10_above cI cC cZ cB cJ a_m oJ uD dY iJ lJ jQ jR jW jK pJ bM aY jO gR gY mK jZ iY bG mJ jB mQ lY eJ bY bW aG jG bQ dG jY m_length qG uW eY aJ aB bU dN aR aE bJ aW bT gJ dU bL bR bO mY pW jA pR) sz) a_m oJ uD dY iJ lJ jQ jR jW jK pJ bM aY jO gR gY mK jZ iY bG mJ jB mQ lY eJ bY bW aG jG bQ dG jY m_length qG uW eY aJ aB bU dN aR aE bJ aW bT gJ dU bL bR bO mY pW jA pR post) 0 0 (va_A (wd_X10_above cI cC cZ cB cJ a_m oJ uD dY iJ lJ jQ jR jW jK pJ bM aY jO gR gY mK jZ iY bG mJ jB mQ lY eJ bY bW aG jG bQ dG jY m_length qG uW eY aJ aB bU dN aR aE bJ aW bT gJ dU bL bR bO mY pW jA pR) sz) := by
  refine g_enter (own := RX10) (dC, dI) (tyl cI cC cZ cB cJ) (wd_X10_above cI cC cZ cB cJ a_m oJ uD dY iJ lJ jQ jR jW jK pJ bM aY jO gR gY mK jZ iY bG mJ jB mQ lY eJ bY bW aG jG bQ dG jY m_length qG uW eY aJ aB bU dN aR aE bJ aW bT gJ dU bL bR bO mY pW jA pR) sz [.ref a_m, .int p0, .int p1] (fun A => q_X10_above dC dI cI cC cZ cB cJ A a_m oJ uD dY iJ lJ jQ jR jW jK pJ bM aY jO gR gY mK jZ iY bG mJ jB mQ lY eJ bY bW aG jG bQ dG jY m_length qG uW eY aJ aB bU dN aR aE bJ aW bT gJ dU bL bR bO mY pW jA pR post) pn_RX10 rfl (Nat.le_of_ble_eq_true rfl) ?_
  intro p e s m args below meth c A H locs ls C0 hP hD hS hl
  have hl : lv_has ls 3 [(0, .ref a_m), (1, .int p0), (2, .int p1)] := hl
  obtain ⟨hx, hb, hr, hml, hown, hts, hlocks, hA, hK, hN, tL, tM, hZL, hTL, hZM, hTM, hZX⟩ := id C0
  have hp := hw
  unfold wp_X10_above at hp
  refine lv_iconst (v := 0) hx hb eX10_above_0.1 ic_0 ?_
  refine lv_aload_n hx hb eX10_above_0.2.1 rfl (lv_at hl 0 rfl) ?_
  refine va_get (D := (dC, dI)) (ci := 10) (v := .ref dY) (C := RX10) (T := TX10) (N := 51) hx hb hts i_X10 hown hK hP 0 rfl rfl 3 (Nat.le_of_ble_eq_true rfl) (hts _ q_689) (fun _ h9 => h9) rfl eX10_above_0.2.2.1 ?_
  refine lv_iload_n hx hb eX10_above_0.2.2.2.1 rfl (lv_at hl 1 rfl) ?_
  have hin := hp.1
  have hp := hp.2
  refine va_iald hx hb hK hP 1 0 rfl rfl hin eX10_above_0.2.2.2.2.1 ?_
  refine lv_topi (fun v_1 ev_1 => ?_)
  have hp := hp v_1 ev_1
  refine lv_aload_n hx hb eX10_above_0.2.2.2.2.2.1 rfl (lv_at hl 0 rfl) ?_
  refine va_get (D := (dC, dI)) (ci := 10) (v := .ref jR) (C := RX10) (T := TX10) (N := 51) hx hb hts i_X10 hown hK hP 0 rfl rfl 8 (Nat.le_of_ble_eq_true rfl) (hts _ q_687) (fun _ h9 => h9) rfl eX10_above_0.2.2.2.2.2.2.1 ?_
  refine lv_iload_n hx hb eX10_above_0.2.2.2.2.2.2.2.1 rfl (lv_at hl 2 rfl) ?_
  have hin := hp.1
  have hp := hp.2
  refine va_iald hx hb hK hP 2 0 rfl rfl hin eX10_above_0.2.2.2.2.2.2.2.2.1 ?_
  refine lv_isub hx hb eX10_above_0.2.2.2.2.2.2.2.2.2.1 ?_
  refine lv_topi (fun v_2 ev_2 => ?_)
  have hp := hp v_2 ev_2
  refine va_mmax hx hb (by rw [hml]; exact hl.1.symm) hown (hts _ q_697) (hts _ q_134) (hts _ q_16) (hts _ q_135) (Nat.le_of_ble_eq_true rfl) (Nat.le_of_ble_eq_true rfl) (Nat.zero_le _) (Nat.zero_le _) eX10_above_0.2.2.2.2.2.2.2.2.2.2.1 ?_
  refine lv_topi (fun v_3 ev_3 => ?_)
  have hp := hp v_3 ev_3
  exact W.iret (v := v_3) hx hb hr (fun t ht hW => ⟨⟨v_3, (), rfl, hp, by rw [ht]; exact hP, va_K.moved hW.alike hK, hD⟩, hS.F ht⟩) hS.2.2 eX10_above_0.2.2.2.2.2.2.2.2.2.2.2
noncomputable abbrev wd_X10_far (cI cC cZ cB cJ : ClassId) (a_m oJ uD dY iJ lJ jQ jR jW jK pJ bM aY jO gR gY mK jZ iY bG mJ jB mQ lY eJ bY : Nat) (bW aG jG bQ dG : Int32) (jY : Nat) (m_length qG uW eY aJ aB bU dN aR aE bJ aW bT gJ dU bL bR bO mY pW : Int32) (m_x oY : Nat → Int32) : va_W := [(a_m, .inr (10, [.ref oJ, .int bW, .ref uD, .ref dY, .ref iJ, .ref lJ, .int aG, .ref jQ, .ref jR, .ref jW, .ref jK, .int jG, .ref pJ, .int bQ, .int dG, rdv jK jO jY, .int m_length, .int qG, .int uW, .int eY, .ref bM, .ref aY, .int aJ, .int aB, .ref jO, .int bU, .int dN, .int aR, .int aE, .int bJ, .int aW, .ref gR, .int bT, .ref gY, .ref mK, .int gJ, .ref jZ, .int dU, .ref iY, .ref bG, .int bL, .int bR, .int bO, .ref mJ, .ref jB, .ref mQ, .int mY, .int pW, .ref lY, .ref eJ, .ref bY])), (uD, .inl (cI, 16, .inl m_x)), (jQ, .inl (cI, 8, .inl oY))]
noncomputable abbrev q_X10_far (dC : Nat → ClassId) (dI : Nat → Nat → Nat) (cI cC cZ cB cJ : ClassId) (A : Nat → Prop) (a_m oJ uD dY iJ lJ jQ jR jW jK pJ bM aY jO gR gY mK jZ iY bG mJ jB mQ lY eJ bY : Nat) (bW aG jG bQ dG : Int32) (jY : Nat) (m_length qG uW eY aJ aB bU dN aR aE bJ aW bT gJ dU bL bR bO mY pW : Int32) (m_x oY : Nat → Int32) (post : Int32 → Prop) : Array Value → State → Outcome → State → Prop := va_Qi (fun (r : Int32) (u : Unit) => post r) (fun u t => gB (dC, dI) (tyl cI cC cZ cB cJ) A (wd_X10_far cI cC cZ cB cJ a_m oJ uD dY iJ lJ jQ jR jW jK pJ bM aY jO gR gY mK jZ iY bG mJ jB mQ lY eJ bY bW aG jG bQ dG jY m_length qG uW eY aJ aB bU dN aR aE bJ aW bT gJ dU bL bR bO mY pW m_x oY) t) A
noncomputable abbrev rm_X10_far : Room := { frames := 1, cells := 0, slots := 0, locals := 21 }
noncomputable def wp_X10_far (post : Int32 → Prop) (p0 p1 : Int32) (m_x oY : Nat → Int32) : Prop := vp_in p0 16 ∧ (∀ v_1 : Int32, v_1 = m_x p0.toNatClampNeg → vp_in p1 8 ∧ (∀ v_2 : Int32, v_2 = v_1 - (oY p1.toNatClampNeg) → ∀ v_3 : Int32, v_3 = (if 0 ≤ v_2 then v_2 else 0 - v_2) → post v_3))
set_option maxHeartbeats 4000000 in
set_option maxRecDepth 100000 in
theorem c_X10_far (l : Launch) (dC : Nat → ClassId) (dI : Nat → Nat → Nat) (cI cC cZ cB cJ : ClassId) (a_m oJ uD dY iJ lJ jQ jR jW jK pJ bM aY jO gR gY mK jZ iY bG mJ jB mQ lY eJ bY sz : Nat) (p0 p1 bW aG jG bQ dG : Int32) (jY : Nat) (m_length qG uW eY aJ aB bU dN aR aE bJ aW bT gJ dU bL bR bO mY pW : Int32) (m_x oY : Nat → Int32) (post : Int32 → Prop) (hw : wp_X10_far post p0 p1 m_x oY) : Met l yX10_far (gw yX10_far cX10_far 3 (some .int)) rm_X10_far (va_Pc [.ref a_m, .int p0, .int p1] (gPre (dC, dI) (tyl cI cC cZ cB cJ) (wd_X10_far cI cC cZ cB cJ a_m oJ uD dY iJ lJ jQ jR jW jK pJ bM aY jO gR gY mK jZ iY bG mJ jB mQ lY eJ bY bW aG jG bQ dG jY m_length qG uW eY aJ aB bU dN aR aE bJ aW bT gJ dU bL bR bO mY pW m_x oY) sz)) (q_X10_far dC dI cI cC cZ cB cJ (va_A (wd_X10_far cI cC cZ cB cJ a_m oJ uD dY iJ lJ jQ jR jW jK pJ bM aY jO gR gY mK jZ iY bG mJ jB mQ lY eJ bY bW aG jG bQ dG jY m_length qG uW eY aJ aB bU dN aR aE bJ aW bT gJ dU bL bR bO mY pW m_x oY) sz) a_m oJ uD dY iJ lJ jQ jR jW jK pJ bM aY jO gR gY mK jZ iY bG mJ jB mQ lY eJ bY bW aG jG bQ dG jY m_length qG uW eY aJ aB bU dN aR aE bJ aW bT gJ dU bL bR bO mY pW m_x oY post) 0 0 (va_A (wd_X10_far cI cC cZ cB cJ a_m oJ uD dY iJ lJ jQ jR jW jK pJ bM aY jO gR gY mK jZ iY bG mJ jB mQ lY eJ bY bW aG jG bQ dG jY m_length qG uW eY aJ aB bU dN aR aE bJ aW bT gJ dU bL bR bO mY pW m_x oY) sz) := by
  refine g_enter (own := RX10) (dC, dI) (tyl cI cC cZ cB cJ) (wd_X10_far cI cC cZ cB cJ a_m oJ uD dY iJ lJ jQ jR jW jK pJ bM aY jO gR gY mK jZ iY bG mJ jB mQ lY eJ bY bW aG jG bQ dG jY m_length qG uW eY aJ aB bU dN aR aE bJ aW bT gJ dU bL bR bO mY pW m_x oY) sz [.ref a_m, .int p0, .int p1] (fun A => q_X10_far dC dI cI cC cZ cB cJ A a_m oJ uD dY iJ lJ jQ jR jW jK pJ bM aY jO gR gY mK jZ iY bG mJ jB mQ lY eJ bY bW aG jG bQ dG jY m_length qG uW eY aJ aB bU dN aR aE bJ aW bT gJ dU bL bR bO mY pW m_x oY post) pn_RX10 rfl (Nat.le_of_ble_eq_true rfl) ?_
  intro p e s m args below meth c A H locs ls C0 hP hD hS hl
  have hl : lv_has ls 3 [(0, .ref a_m), (1, .int p0), (2, .int p1)] := hl
  obtain ⟨hx, hb, hr, hml, hown, hts, hlocks, hA, hK, hN, tL, tM, hZL, hTL, hZM, hTM, hZX⟩ := id C0
  have hp := hw
  unfold wp_X10_far at hp
  refine lv_aload_n hx hb eX10_far_0.1 rfl (lv_at hl 0 rfl) ?_
  refine va_get (D := (dC, dI)) (ci := 10) (v := .ref uD) (C := RX10) (T := TX10) (N := 51) hx hb hts i_X10 hown hK hP 0 rfl rfl 2 (Nat.le_of_ble_eq_true rfl) (hts _ q_688) (fun _ h9 => h9) rfl eX10_far_0.2.1 ?_
  refine lv_iload_n hx hb eX10_far_0.2.2.1 rfl (lv_at hl 1 rfl) ?_
  have hin := hp.1
  have hp := hp.2
  refine va_iald hx hb hK hP 1 0 rfl rfl hin eX10_far_0.2.2.2.1 ?_
  refine lv_topi (fun v_1 ev_1 => ?_)
  have hp := hp v_1 ev_1
  refine lv_aload_n hx hb eX10_far_0.2.2.2.2.1 rfl (lv_at hl 0 rfl) ?_
  refine va_get (D := (dC, dI)) (ci := 10) (v := .ref jQ) (C := RX10) (T := TX10) (N := 51) hx hb hts i_X10 hown hK hP 0 rfl rfl 7 (Nat.le_of_ble_eq_true rfl) (hts _ q_686) (fun _ h9 => h9) rfl eX10_far_0.2.2.2.2.2.1 ?_
  refine lv_iload_n hx hb eX10_far_0.2.2.2.2.2.2.1 rfl (lv_at hl 2 rfl) ?_
  have hin := hp.1
  have hp := hp.2
  refine va_iald hx hb hK hP 2 0 rfl rfl hin eX10_far_0.2.2.2.2.2.2.2.1 ?_
  refine lv_isub hx hb eX10_far_0.2.2.2.2.2.2.2.2.1 ?_
  refine lv_topi (fun v_2 ev_2 => ?_)
  have hp := hp v_2 ev_2
  refine va_mabs hx hb (by rw [hml]; exact hl.1.symm) hown (hts _ q_698) (hts _ q_166) (hts _ q_16) (hts _ q_167) (Nat.le_of_ble_eq_true rfl) (Nat.le_of_ble_eq_true rfl) (Nat.zero_le _) (Nat.zero_le _) eX10_far_0.2.2.2.2.2.2.2.2.2.1 ?_
  refine lv_topi (fun v_3 ev_3 => ?_)
  have hp := hp v_3 ev_3
  exact W.iret (v := v_3) hx hb hr (fun t ht hW => ⟨⟨v_3, (), rfl, hp, by rw [ht]; exact hP, va_K.moved hW.alike hK, hD⟩, hS.F ht⟩) hS.2.2 eX10_far_0.2.2.2.2.2.2.2.2.2.2
noncomputable abbrev wd_X10_valueOf (cI cC cZ cB cJ : ClassId) (a_m oJ uD dY iJ lJ jQ jR jW jK pJ bM aY jO gR gY mK jZ iY bG mJ jB mQ lY eJ bY : Nat) (bW aG jG bQ dG : Int32) (jY : Nat) (m_length qG uW eY aJ aB bU dN aR aE bJ aW bT gJ dU bL bR bO mY pW : Int32) (m_x jA pY oY pR : Nat → Int32) : va_W := [(a_m, .inr (10, [.ref oJ, .int bW, .ref uD, .ref dY, .ref iJ, .ref lJ, .int aG, .ref jQ, .ref jR, .ref jW, .ref jK, .int jG, .ref pJ, .int bQ, .int dG, rdv jK jO jY, .int m_length, .int qG, .int uW, .int eY, .ref bM, .ref aY, .int aJ, .int aB, .ref jO, .int bU, .int dN, .int aR, .int aE, .int bJ, .int aW, .ref gR, .int bT, .ref gY, .ref mK, .int gJ, .ref jZ, .int dU, .ref iY, .ref bG, .int bL, .int bR, .int bO, .ref mJ, .ref jB, .ref mQ, .int mY, .int pW, .ref lY, .ref eJ, .ref bY])), (uD, .inl (cI, 16, .inl m_x)), (dY, .inl (cI, 16, .inl jA)), (iJ, .inl (cI, 16, .inl pY)), (jQ, .inl (cI, 8, .inl oY)), (jR, .inl (cI, 8, .inl pR))]
noncomputable abbrev q_X10_valueOf (dC : Nat → ClassId) (dI : Nat → Nat → Nat) (cI cC cZ cB cJ : ClassId) (A : Nat → Prop) (a_m oJ uD dY iJ lJ jQ jR jW jK pJ bM aY jO gR gY mK jZ iY bG mJ jB mQ lY eJ bY : Nat) (bW aG jG bQ dG : Int32) (jY : Nat) (m_length qG uW eY aJ aB bU dN aR aE bJ aW bT gJ dU bL bR bO mY pW : Int32) (m_x jA pY oY pR : Nat → Int32) (post : Int32 → Prop) : Array Value → State → Outcome → State → Prop := va_Qi (fun (r : Int32) (u : Unit) => post r) (fun u t => gB (dC, dI) (tyl cI cC cZ cB cJ) A (wd_X10_valueOf cI cC cZ cB cJ a_m oJ uD dY iJ lJ jQ jR jW jK pJ bM aY jO gR gY mK jZ iY bG mJ jB mQ lY eJ bY bW aG jG bQ dG jY m_length qG uW eY aJ aB bU dN aR aE bJ aW bT gJ dU bL bR bO mY pW m_x jA pY oY pR) t) A
noncomputable abbrev rm_X10_valueOf : Room := { frames := 2, cells := 0, slots := 0, locals := 43 }
noncomputable def wp_X10_valueOf (post : Int32 → Prop) (p0 aR aE bJ aW : Int32) (m_x jA pY oY pR : Nat → Int32) : Prop := (p0 = 100 → wp_X10_far (fun r_1 => post r_1) aR aE m_x oY) ∧ (p0 = 107 → post aW) ∧ (p0 = 115 → post aE) ∧ (p0 = 117 → wp_X10_above (fun r_2 => post r_2) aR aE jA pR) ∧ (p0 = 119 → vp_in aR 16 ∧ (post (pY aR.toNatClampNeg))) ∧ (p0 = 121 → vp_in aR 16 ∧ (post (jA aR.toNatClampNeg))) ∧ (¬ p0 = 100 → ¬ p0 = 107 → ¬ p0 = 115 → ¬ p0 = 117 → ¬ p0 = 119 → ¬ p0 = 121 → post bJ)
set_option maxHeartbeats 4000000 in
set_option maxRecDepth 100000 in
theorem c_X10_valueOf (l : Launch) (dC : Nat → ClassId) (dI : Nat → Nat → Nat) (cI cC cZ cB cJ : ClassId) (a_m oJ uD dY iJ lJ jQ jR jW jK pJ bM aY jO gR gY mK jZ iY bG mJ jB mQ lY eJ bY sz : Nat) (p0 bW aG jG bQ dG : Int32) (jY : Nat) (m_length qG uW eY aJ aB bU dN aR aE bJ aW bT gJ dU bL bR bO mY pW : Int32) (m_x jA pY oY pR : Nat → Int32) (post : Int32 → Prop) (hw : wp_X10_valueOf post p0 aR aE bJ aW m_x jA pY oY pR) : Met l yX10_valueOf (gw yX10_valueOf cX10_valueOf 2 (some .int)) rm_X10_valueOf (va_Pc [.ref a_m, .int p0] (gPre (dC, dI) (tyl cI cC cZ cB cJ) (wd_X10_valueOf cI cC cZ cB cJ a_m oJ uD dY iJ lJ jQ jR jW jK pJ bM aY jO gR gY mK jZ iY bG mJ jB mQ lY eJ bY bW aG jG bQ dG jY m_length qG uW eY aJ aB bU dN aR aE bJ aW bT gJ dU bL bR bO mY pW m_x jA pY oY pR) sz)) (q_X10_valueOf dC dI cI cC cZ cB cJ (va_A (wd_X10_valueOf cI cC cZ cB cJ a_m oJ uD dY iJ lJ jQ jR jW jK pJ bM aY jO gR gY mK jZ iY bG mJ jB mQ lY eJ bY bW aG jG bQ dG jY m_length qG uW eY aJ aB bU dN aR aE bJ aW bT gJ dU bL bR bO mY pW m_x jA pY oY pR) sz) a_m oJ uD dY iJ lJ jQ jR jW jK pJ bM aY jO gR gY mK jZ iY bG mJ jB mQ lY eJ bY bW aG jG bQ dG jY m_length qG uW eY aJ aB bU dN aR aE bJ aW bT gJ dU bL bR bO mY pW m_x jA pY oY pR post) 0 0 (va_A (wd_X10_valueOf cI cC cZ cB cJ a_m oJ uD dY iJ lJ jQ jR jW jK pJ bM aY jO gR gY mK jZ iY bG mJ jB mQ lY eJ bY bW aG jG bQ dG jY m_length qG uW eY aJ aB bU dN aR aE bJ aW bT gJ dU bL bR bO mY pW m_x jA pY oY pR) sz) := by
  refine g_enter (own := RX10) (dC, dI) (tyl cI cC cZ cB cJ) (wd_X10_valueOf cI cC cZ cB cJ a_m oJ uD dY iJ lJ jQ jR jW jK pJ bM aY jO gR gY mK jZ iY bG mJ jB mQ lY eJ bY bW aG jG bQ dG jY m_length qG uW eY aJ aB bU dN aR aE bJ aW bT gJ dU bL bR bO mY pW m_x jA pY oY pR) sz [.ref a_m, .int p0] (fun A => q_X10_valueOf dC dI cI cC cZ cB cJ A a_m oJ uD dY iJ lJ jQ jR jW jK pJ bM aY jO gR gY mK jZ iY bG mJ jB mQ lY eJ bY bW aG jG bQ dG jY m_length qG uW eY aJ aB bU dN aR aE bJ aW bT gJ dU bL bR bO mY pW m_x jA pY oY pR post) pn_RX10 rfl (Nat.le_of_ble_eq_true rfl) ?_
  intro p e s m args below meth c A H locs ls C0 hP hD hS hl
  have hl : lv_has ls 2 [(0, .ref a_m), (1, .int p0)] := hl
  obtain ⟨hx, hb, hr, hml, hown, hts, hlocks, hA, hK, hN, tL, tM, hZL, hTL, hZM, hTM, hZX⟩ := id C0
  have hp := hw
  unfold wp_X10_valueOf at hp
  refine lv_iload_n hx hb eX10_valueOf_0.1 rfl (lv_at hl 1 rfl) ?_
  by_cases hc0 : p0 = 100
  · have hp := hp.1 hc0
    refine lv_lookup (tgt := 60) hx hb eX10_valueOf_0.2.1 (by decide) (by first | (rw [hc0]; done) | (rw [hc0]; rfl)) (by decide) ?_
    refine lv_aload_n hx hb eX10_valueOf_0.2.2.1 rfl (lv_at hl 0 rfl) ?_
    refine lv_aload_n hx hb eX10_valueOf_0.2.2.2.1 rfl (lv_at hl 0 rfl) ?_
    refine va_get (D := (dC, dI)) (ci := 10) (v := .int aR) (C := RX10) (T := TX10) (N := 51) hx hb hts i_X10 hown hK hP 0 rfl rfl 27 (Nat.le_of_ble_eq_true rfl) (hts _ q_699) (fun _ h9 => h9) rfl eX10_valueOf_0.2.2.2.2.1 ?_
    refine lv_aload_n hx hb eX10_valueOf_0.2.2.2.2.2.1 rfl (lv_at hl 0 rfl) ?_
    refine va_get (D := (dC, dI)) (ci := 10) (v := .int aE) (C := RX10) (T := TX10) (N := 51) hx hb hts i_X10 hown hK hP 0 rfl rfl 28 (Nat.le_of_ble_eq_true rfl) (hts _ q_700) (fun _ h9 => h9) rfl eX10_valueOf_0.2.2.2.2.2.2.1 ?_
    have hm := mgk (wc := (wd_X10_far cI cC cZ cB cJ a_m oJ uD dY iJ lJ jQ jR jW jK pJ bM aY jO gR gY mK jZ iY bG mJ jB mQ lY eJ bY bW aG jG bQ dG jY m_length qG uW eY aJ aB bU dN aR aE bJ aW bT gJ dU bL bR bO mY pW m_x oY)) hP mk_203 6 rfl rfl rfl
    refine g_calli hP hD hS hA (mixT mk_203) (mixF mk_203) hm.1 hm.2 (nd_F _) (dis_g _) (g_runV (As := [.int aR, .int aE]) (rest := []) C0 hP hD hS (mixT mk_203) hm.1 (nd_T _) 0 10 rfl rfl (c_X10_far l dC dI cI cC cZ cB cJ a_m oJ uD dY iJ lJ jQ jR jW jK pJ bM aY jO gR gY mK jZ iY bG mJ jB mQ lY eJ bY H.size aR aE bW aG jG bQ dG jY m_length qG uW eY aJ aB bU dN aR aE bJ aW bT gJ dU bL bR bO mY pW m_x oY _ hp) q_701 q_704 q_702 q_703 q_642 h_X10_far rfl rfl ⟨Nat.le_of_ble_eq_true rfl, Nat.le_of_ble_eq_true rfl⟩ rfl rfl hl.1 rfl (lv_room (Nat.le_of_ble_eq_true rfl)) eX10_valueOf_0.2.2.2.2.2.2.2.1 ⟨Nat.zero_le _, Nat.zero_le _⟩) (fun r_1 u H locs hp hP hD hS => ?_)
    have hPD := PDm (ws' := (wd_X10_valueOf cI cC cZ cB cJ a_m oJ uD dY iJ lJ jQ jR jW jK pJ bM aY jO gR gY mK jZ iY bG mJ jB mQ lY eJ bY bW aG jG bQ dG jY m_length qG uW eY aJ aB bU dN aR aE bJ aW bT gJ dU bL bR bO mY pW m_x jA pY oY pR)) hP hD 6 rfl rfl rfl
    have hP := hPD.1
    have hD := hPD.2
    exact W.iret (v := r_1) hx hb hr (fun t ht hW => ⟨⟨r_1, (), rfl, hp, by rw [ht]; exact hP, va_K.moved hW.alike hK, hD⟩, hS.F ht⟩) hS.2.2 eX10_valueOf_0.2.2.2.2.2.2.2.2.1
  by_cases hc1 : p0 = 107
  · have hp := hp.2.1 hc1
    refine lv_lookup (tgt := 111) hx hb eX10_valueOf_0.2.1 (by decide) (by first | (rw [hc1]; done) | (rw [hc1]; rfl)) (by decide) ?_
    refine lv_aload_n hx hb eX10_valueOf_86.2.2.2.2.2.2.2.2.2.2.2.2.2.2.2 rfl (lv_at hl 0 rfl) ?_
    refine va_get (D := (dC, dI)) (ci := 10) (v := .int aW) (C := RX10) (T := TX10) (N := 51) hx hb hts i_X10 hown hK hP 0 rfl rfl 30 (Nat.le_of_ble_eq_true rfl) (hts _ q_705) (fun _ h9 => h9) rfl eX10_valueOf_112.1 ?_
    exact W.iret (v := aW) hx hb hr (fun t ht hW => ⟨⟨aW, (), rfl, hp, by rw [ht]; exact hP, va_K.moved hW.alike hK, hD⟩, hS.F ht⟩) hS.2.2 eX10_valueOf_112.2.1
  by_cases hc2 : p0 = 115
  · have hp := hp.2.2.1 hc2
    refine lv_lookup (tgt := 106) hx hb eX10_valueOf_0.2.1 (by decide) (by first | (rw [hc2]; done) | (rw [hc2]; rfl)) (by decide) ?_
    refine lv_aload_n hx hb eX10_valueOf_86.2.2.2.2.2.2.2.2.2.2.2.2.1 rfl (lv_at hl 0 rfl) ?_
    refine va_get (D := (dC, dI)) (ci := 10) (v := .int aE) (C := RX10) (T := TX10) (N := 51) hx hb hts i_X10 hown hK hP 0 rfl rfl 28 (Nat.le_of_ble_eq_true rfl) (hts _ q_700) (fun _ h9 => h9) rfl eX10_valueOf_86.2.2.2.2.2.2.2.2.2.2.2.2.2.1 ?_
    exact W.iret (v := aE) hx hb hr (fun t ht hW => ⟨⟨aE, (), rfl, hp, by rw [ht]; exact hP, va_K.moved hW.alike hK, hD⟩, hS.F ht⟩) hS.2.2 eX10_valueOf_86.2.2.2.2.2.2.2.2.2.2.2.2.2.2.1
  by_cases hc3 : p0 = 117
  · have hp := hp.2.2.2.1 hc3
    refine lv_lookup (tgt := 73) hx hb eX10_valueOf_0.2.1 (by decide) (by first | (rw [hc3]; done) | (rw [hc3]; rfl)) (by decide) ?_
    refine lv_aload_n hx hb eX10_valueOf_0.2.2.2.2.2.2.2.2.2.1 rfl (lv_at hl 0 rfl) ?_
    refine lv_aload_n hx hb eX10_valueOf_0.2.2.2.2.2.2.2.2.2.2.1 rfl (lv_at hl 0 rfl) ?_
    refine va_get (D := (dC, dI)) (ci := 10) (v := .int aR) (C := RX10) (T := TX10) (N := 51) hx hb hts i_X10 hown hK hP 0 rfl rfl 27 (Nat.le_of_ble_eq_true rfl) (hts _ q_699) (fun _ h9 => h9) rfl eX10_valueOf_0.2.2.2.2.2.2.2.2.2.2.2.1 ?_
    refine lv_aload_n hx hb eX10_valueOf_0.2.2.2.2.2.2.2.2.2.2.2.2.1 rfl (lv_at hl 0 rfl) ?_
    refine va_get (D := (dC, dI)) (ci := 10) (v := .int aE) (C := RX10) (T := TX10) (N := 51) hx hb hts i_X10 hown hK hP 0 rfl rfl 28 (Nat.le_of_ble_eq_true rfl) (hts _ q_700) (fun _ h9 => h9) rfl eX10_valueOf_0.2.2.2.2.2.2.2.2.2.2.2.2.2.1 ?_
    have hm := mgk (wc := (wd_X10_above cI cC cZ cB cJ a_m oJ uD dY iJ lJ jQ jR jW jK pJ bM aY jO gR gY mK jZ iY bG mJ jB mQ lY eJ bY bW aG jG bQ dG jY m_length qG uW eY aJ aB bU dN aR aE bJ aW bT gJ dU bL bR bO mY pW jA pR)) hP mk_204 6 rfl rfl rfl
    refine g_calli hP hD hS hA (mixT mk_204) (mixF mk_204) hm.1 hm.2 (nd_F _) (dis_g _) (g_runV (As := [.int aR, .int aE]) (rest := []) C0 hP hD hS (mixT mk_204) hm.1 (nd_T _) 0 10 rfl rfl (c_X10_above l dC dI cI cC cZ cB cJ a_m oJ uD dY iJ lJ jQ jR jW jK pJ bM aY jO gR gY mK jZ iY bG mJ jB mQ lY eJ bY H.size aR aE bW aG jG bQ dG jY m_length qG uW eY aJ aB bU dN aR aE bJ aW bT gJ dU bL bR bO mY pW jA pR _ hp) q_706 q_709 q_707 q_708 q_642 h_X10_above rfl rfl ⟨Nat.le_of_ble_eq_true rfl, Nat.le_of_ble_eq_true rfl⟩ rfl rfl hl.1 rfl (lv_room (Nat.le_of_ble_eq_true rfl)) eX10_valueOf_0.2.2.2.2.2.2.2.2.2.2.2.2.2.2.1 ⟨Nat.zero_le _, Nat.zero_le _⟩) (fun r_2 u H locs hp hP hD hS => ?_)
    have hPD := PDm (ws' := (wd_X10_valueOf cI cC cZ cB cJ a_m oJ uD dY iJ lJ jQ jR jW jK pJ bM aY jO gR gY mK jZ iY bG mJ jB mQ lY eJ bY bW aG jG bQ dG jY m_length qG uW eY aJ aB bU dN aR aE bJ aW bT gJ dU bL bR bO mY pW m_x jA pY oY pR)) hP hD 6 rfl rfl rfl
    have hP := hPD.1
    have hD := hPD.2
    exact W.iret (v := r_2) hx hb hr (fun t ht hW => ⟨⟨r_2, (), rfl, hp, by rw [ht]; exact hP, va_K.moved hW.alike hK, hD⟩, hS.F ht⟩) hS.2.2 eX10_valueOf_0.2.2.2.2.2.2.2.2.2.2.2.2.2.2.2
  by_cases hc4 : p0 = 119
  · have hp := hp.2.2.2.2.1 hc4
    refine lv_lookup (tgt := 96) hx hb eX10_valueOf_0.2.1 (by decide) (by first | (rw [hc4]; done) | (rw [hc4]; rfl)) (by decide) ?_
    refine lv_aload_n hx hb eX10_valueOf_86.2.2.2.2.2.2.1 rfl (lv_at hl 0 rfl) ?_
    refine va_get (D := (dC, dI)) (ci := 10) (v := .ref iJ) (C := RX10) (T := TX10) (N := 51) hx hb hts i_X10 hown hK hP 0 rfl rfl 4 (Nat.le_of_ble_eq_true rfl) (hts _ q_690) (fun _ h9 => h9) rfl eX10_valueOf_86.2.2.2.2.2.2.2.1 ?_
    refine lv_aload_n hx hb eX10_valueOf_86.2.2.2.2.2.2.2.2.1 rfl (lv_at hl 0 rfl) ?_
    refine va_get (D := (dC, dI)) (ci := 10) (v := .int aR) (C := RX10) (T := TX10) (N := 51) hx hb hts i_X10 hown hK hP 0 rfl rfl 27 (Nat.le_of_ble_eq_true rfl) (hts _ q_699) (fun _ h9 => h9) rfl eX10_valueOf_86.2.2.2.2.2.2.2.2.2.1 ?_
    have hin := hp.1
    have hp := hp.2
    refine va_iald hx hb hK hP 3 0 rfl rfl hin eX10_valueOf_86.2.2.2.2.2.2.2.2.2.2.1 ?_
    exact W.iret (v := pY aR.toNatClampNeg) hx hb hr (fun t ht hW => ⟨⟨pY aR.toNatClampNeg, (), rfl, hp, by rw [ht]; exact hP, va_K.moved hW.alike hK, hD⟩, hS.F ht⟩) hS.2.2 eX10_valueOf_86.2.2.2.2.2.2.2.2.2.2.2.1
  by_cases hc5 : p0 = 121
  · have hp := hp.2.2.2.2.2.1 hc5
    refine lv_lookup (tgt := 86) hx hb eX10_valueOf_0.2.1 (by decide) (by first | (rw [hc5]; done) | (rw [hc5]; rfl)) (by decide) ?_
    refine lv_aload_n hx hb eX10_valueOf_86.1 rfl (lv_at hl 0 rfl) ?_
    refine va_get (D := (dC, dI)) (ci := 10) (v := .ref dY) (C := RX10) (T := TX10) (N := 51) hx hb hts i_X10 hown hK hP 0 rfl rfl 3 (Nat.le_of_ble_eq_true rfl) (hts _ q_689) (fun _ h9 => h9) rfl eX10_valueOf_86.2.1 ?_
    refine lv_aload_n hx hb eX10_valueOf_86.2.2.1 rfl (lv_at hl 0 rfl) ?_
    refine va_get (D := (dC, dI)) (ci := 10) (v := .int aR) (C := RX10) (T := TX10) (N := 51) hx hb hts i_X10 hown hK hP 0 rfl rfl 27 (Nat.le_of_ble_eq_true rfl) (hts _ q_699) (fun _ h9 => h9) rfl eX10_valueOf_86.2.2.2.1 ?_
    have hin := hp.1
    have hp := hp.2
    refine va_iald hx hb hK hP 2 0 rfl rfl hin eX10_valueOf_86.2.2.2.2.1 ?_
    exact W.iret (v := jA aR.toNatClampNeg) hx hb hr (fun t ht hW => ⟨⟨jA aR.toNatClampNeg, (), rfl, hp, by rw [ht]; exact hP, va_K.moved hW.alike hK, hD⟩, hS.F ht⟩) hS.2.2 eX10_valueOf_86.2.2.2.2.2.1
  have hp := hp.2.2.2.2.2.2 hc0 hc1 hc2 hc3 hc4 hc5
  have key : W p l e rm_X10_valueOf s m args below meth c H locs 0 0 (MQ below (q_X10_valueOf dC dI cI cC cZ cB cJ A a_m oJ uD dY iJ lJ jQ jR jW jK pJ bM aY jO gR gY mK jZ iY bG mJ jB mQ lY eJ bY bW aG jG bQ dG jY m_length qG uW eY aJ aB bU dN aR aE bJ aW bT gJ dU bL bR bO mY pW m_x jA pY oY pR post) args s 0 0 A) (F0 m 116 ls []) := by
    refine lv_aload_n hx hb eX10_valueOf_112.2.2.1 rfl (lv_at hl 0 rfl) ?_
    refine va_get (D := (dC, dI)) (ci := 10) (v := .int bJ) (C := RX10) (T := TX10) (N := 51) hx hb hts i_X10 hown hK hP 0 rfl rfl 29 (Nat.le_of_ble_eq_true rfl) (hts _ q_710) (fun _ h9 => h9) rfl eX10_valueOf_112.2.2.2.1 ?_
    exact W.iret (v := bJ) hx hb hr (fun t ht hW => ⟨⟨bJ, (), rfl, hp, by rw [ht]; exact hP, va_K.moved hW.alike hK, hD⟩, hS.F ht⟩) hS.2.2 eX10_valueOf_112.2.2.2.2
  exact lv_lookup (tgt := 116) (off := 115) hx hb eX10_valueOf_0.2.1 (by decide) (by show Op.lookupswitch.offset [(100, 59), (107, 110), (115, 105), (117, 72), (119, 95), (121, 85)] _ _ = _; first | (rw [lv_osw (a := 100) hc0 rfl, lv_osw (a := 107) hc1 rfl, lv_osw (a := 115) hc2 rfl, lv_osw (a := 117) hc3 rfl, lv_osw (a := 119) hc4 rfl, lv_osw (a := 121) hc5 rfl]; done) | (rw [lv_osw (a := 100) hc0 rfl, lv_osw (a := 107) hc1 rfl, lv_osw (a := 115) hc2 rfl, lv_osw (a := 117) hc3 rfl, lv_osw (a := 119) hc4 rfl, lv_osw (a := 121) hc5 rfl]; rfl)) (by decide) key
noncomputable abbrev wd_X10_thing (cI cC cZ cB cJ : ClassId) (a_m oJ uD dY iJ lJ jQ jR jW jK pJ bM aY jO gR gY mK jZ iY bG mJ jB mQ lY eJ bY : Nat) (bW aG jG bQ dG : Int32) (jY : Nat) (m_length qG uW eY aJ aB bU dN aR aE bJ aW bT gJ dU bL bR bO mY pW : Int32) (m_x jA pY oY pR rG rQ : Nat → Int32) : va_W := [(a_m, .inr (10, [.ref oJ, .int bW, .ref uD, .ref dY, .ref iJ, .ref lJ, .int aG, .ref jQ, .ref jR, .ref jW, .ref jK, .int jG, .ref pJ, .int bQ, .int dG, rdv jK jO jY, .int m_length, .int qG, .int uW, .int eY, .ref bM, .ref aY, .int aJ, .int aB, .ref jO, .int bU, .int dN, .int aR, .int aE, .int bJ, .int aW, .ref gR, .int bT, .ref gY, .ref mK, .int gJ, .ref jZ, .int dU, .ref iY, .ref bG, .int bL, .int bR, .int bO, .ref mJ, .ref jB, .ref mQ, .int mY, .int pW, .ref lY, .ref eJ, .ref bY])), (uD, .inl (cI, 16, .inl m_x)), (dY, .inl (cI, 16, .inl jA)), (iJ, .inl (cI, 16, .inl pY)), (jQ, .inl (cI, 8, .inl oY)), (jR, .inl (cI, 8, .inl pR)), (jK, .inl (cB, 80, .inl rG)), (jO, .inl (cB, 40, .inl rQ))]
noncomputable abbrev q_X10_thing (dC : Nat → ClassId) (dI : Nat → Nat → Nat) (cI cC cZ cB cJ : ClassId) (A : Nat → Prop) (a_m oJ uD dY iJ lJ jQ jR jW jK pJ bM aY jO gR gY mK jZ iY bG mJ jB mQ lY eJ bY : Nat) (bW aG jG bQ dG : Int32) (jY : Nat) (m_length qG aJ aB bU dN aR aE bJ aW bT gJ dU bL bR bO mY pW : Int32) (m_x jA pY oY pR rG rQ : Nat → Int32) (post : Int32 → Int32 → Int32 → Prop) : Array Value → State → Outcome → State → Prop := va_Qi (fun (r : Int32) (u : Int32 × Int32) => post r u.1 u.2) (fun u t => gB (dC, dI) (tyl cI cC cZ cB cJ) A (wd_X10_thing cI cC cZ cB cJ a_m oJ uD dY iJ lJ jQ jR jW jK pJ bM aY jO gR gY mK jZ iY bG mJ jB mQ lY eJ bY bW aG jG bQ dG jY m_length qG u.1 u.2 aJ aB bU dN aR aE bJ aW bT gJ dU bL bR bO mY pW m_x jA pY oY pR rG rQ) t) A
noncomputable abbrev rm_X10_thing (rn : Nat) : Room := { frames := 6 * rn + 3, cells := 0, slots := 0, locals := 200 * rn + 64 }
noncomputable abbrev TY_X10 : Type := (Int32 → Int32 → Int32 → Prop) → Int32 → Nat → Int32 → Int32 → Int32 → Int32 → Int32 → Int32 → Int32 → Int32 → Int32 → (Nat → Int32) → (Nat → Int32) → (Nat → Int32) → (Nat → Int32) → (Nat → Int32) → (Nat → Int32) → (Nat → Int32) → Prop
noncomputable def CT_X10_thing (l : Launch) (W : TY_X10) (fr lo : Nat) : Prop := ∀ (dC : Nat → ClassId) (dI : Nat → Nat → Nat) (cI cC cZ cB cJ : ClassId) (a_m oJ uD dY iJ lJ jQ jR jW jK pJ bM aY jO gR gY mK jZ iY bG mJ jB mQ lY eJ bY sz : Nat) (p0 bW aG jG bQ dG : Int32) (jY : Nat) (m_length qG uW eY aJ aB bU dN aR aE bJ aW bT gJ dU bL bR bO mY pW : Int32) (m_x jA pY oY pR rG rQ : Nat → Int32) (post : Int32 → Int32 → Int32 → Prop), W post p0 jY m_length qG uW eY dN aR aE bJ aW m_x jA pY oY pR rG rQ → Met l yX10_thing (gw yX10_thing cX10_thing 4 (some .int)) { frames := fr, cells := 0, slots := 0, locals := lo } (va_Pc [.ref a_m, .int p0] (gPre (dC, dI) (tyl cI cC cZ cB cJ) (wd_X10_thing cI cC cZ cB cJ a_m oJ uD dY iJ lJ jQ jR jW jK pJ bM aY jO gR gY mK jZ iY bG mJ jB mQ lY eJ bY bW aG jG bQ dG jY m_length qG uW eY aJ aB bU dN aR aE bJ aW bT gJ dU bL bR bO mY pW m_x jA pY oY pR rG rQ) sz)) (q_X10_thing dC dI cI cC cZ cB cJ (va_A (wd_X10_thing cI cC cZ cB cJ a_m oJ uD dY iJ lJ jQ jR jW jK pJ bM aY jO gR gY mK jZ iY bG mJ jB mQ lY eJ bY bW aG jG bQ dG jY m_length qG uW eY aJ aB bU dN aR aE bJ aW bT gJ dU bL bR bO mY pW m_x jA pY oY pR rG rQ) sz) a_m oJ uD dY iJ lJ jQ jR jW jK pJ bM aY jO gR gY mK jZ iY bG mJ jB mQ lY eJ bY bW aG jG bQ dG jY m_length qG aJ aB bU dN aR aE bJ aW bT gJ dU bL bR bO mY pW m_x jA pY oY pR rG rQ post) 0 0 (va_A (wd_X10_thing cI cC cZ cB cJ a_m oJ uD dY iJ lJ jQ jR jW jK pJ bM aY jO gR gY mK jZ iY bG mJ jB mQ lY eJ bY bW aG jG bQ dG jY m_length qG uW eY aJ aB bU dN aR aE bJ aW bT gJ dU bL bR bO mY pW m_x jA pY oY pR rG rQ) sz)
noncomputable def CT_X10_held (l : Launch) (W : TY_X10) (fr lo : Nat) : Prop := ∀ (dC : Nat → ClassId) (dI : Nat → Nat → Nat) (cI cC cZ cB cJ : ClassId) (a_m oJ uD dY iJ lJ jQ jR jW jK pJ bM aY jO gR gY mK jZ iY bG mJ jB mQ lY eJ bY sz : Nat) (p0 bW aG jG bQ dG : Int32) (jY : Nat) (m_length qG uW eY aJ aB bU dN aR aE bJ aW bT gJ dU bL bR bO mY pW : Int32) (m_x jA pY oY pR rG rQ : Nat → Int32) (post : Int32 → Int32 → Int32 → Prop), W post p0 jY m_length qG uW eY dN aR aE bJ aW m_x jA pY oY pR rG rQ → Met l yX10_held (gw yX10_held cX10_held 3 (some .int)) { frames := fr, cells := 0, slots := 0, locals := lo } (va_Pc [.ref a_m, .int p0] (gPre (dC, dI) (tyl cI cC cZ cB cJ) (wd_X10_thing cI cC cZ cB cJ a_m oJ uD dY iJ lJ jQ jR jW jK pJ bM aY jO gR gY mK jZ iY bG mJ jB mQ lY eJ bY bW aG jG bQ dG jY m_length qG uW eY aJ aB bU dN aR aE bJ aW bT gJ dU bL bR bO mY pW m_x jA pY oY pR rG rQ) sz)) (q_X10_thing dC dI cI cC cZ cB cJ (va_A (wd_X10_thing cI cC cZ cB cJ a_m oJ uD dY iJ lJ jQ jR jW jK pJ bM aY jO gR gY mK jZ iY bG mJ jB mQ lY eJ bY bW aG jG bQ dG jY m_length qG uW eY aJ aB bU dN aR aE bJ aW bT gJ dU bL bR bO mY pW m_x jA pY oY pR rG rQ) sz) a_m oJ uD dY iJ lJ jQ jR jW jK pJ bM aY jO gR gY mK jZ iY bG mJ jB mQ lY eJ bY bW aG jG bQ dG jY m_length qG aJ aB bU dN aR aE bJ aW bT gJ dU bL bR bO mY pW m_x jA pY oY pR rG rQ post) 0 0 (va_A (wd_X10_thing cI cC cZ cB cJ a_m oJ uD dY iJ lJ jQ jR jW jK pJ bM aY jO gR gY mK jZ iY bG mJ jB mQ lY eJ bY bW aG jG bQ dG jY m_length qG uW eY aJ aB bU dN aR aE bJ aW bT gJ dU bL bR bO mY pW m_x jA pY oY pR rG rQ) sz)
section S_X10_thing
variable {p : Program} {l : Launch} {e : Env} {s : State} {m : MethodId} {args : Array Value} {below : List Frame} {meth : Method} {c : Code} {dC : Nat → ClassId} {dI : Nat → Nat → Nat} {cI cC cZ cB cJ : ClassId} {A : Nat → Prop} {a_m oJ uD dY iJ lJ jQ jR jW jK pJ bM aY jO gR gY mK jZ iY bG mJ jB mQ lY eJ bY : Nat} {bW aG jG bQ dG : Int32} {jY : Nat} {m_length qG aJ aB bU dN aR aE bJ aW bT gJ dU bL bR bO mY pW : Int32} {m_x jA pY oY pR rG rQ : Nat → Int32} {post : Int32 → Int32 → Int32 → Prop} {rn : Nat} {WT WH : TY_X10}
noncomputable def ws_X10_thing_136 (WT WH : TY_X10) (post : Int32 → Int32 → Int32 → Prop) (jY : Nat) (m_length qG dN aR aE bJ aW : Int32) (m_x jA pY oY pR rG rQ : Nat → Int32) (x2 uW eY : Int32) : Prop := ∀ v_6 : Int32, v_6 = uW + 1 → (dN = 0 → post 0 v_6 eY) ∧ (¬ dN = 0 → wp_X10_valueOf (fun r_7 => post r_7 v_6 eY) x2 aR aE bJ aW m_x jA pY oY pR)
set_option maxHeartbeats 4000000 in
set_option maxRecDepth 100000 in
theorem ks_X10_thing_136 (C0 : gc cX10_thing (some .int) 4 RX10 (dC, dI) (tyl cI cC cZ cB cJ) A p s m args meth c) (hT : CT_X10_thing l WT (6 * rn - 3) (200 * rn - 136)) (hH : CT_X10_held l WH (6 * rn) (200 * rn - 65)) : ∀ (x2 uW eY : Int32) (H : Heap) (locs : List Loc) (ls : Array Slot), (ws_X10_thing_136 WT WH post jY m_length qG dN aR aE bJ aW m_x jA pY oY pR rG rQ) x2 uW eY → va_P (dC, dI) classes (wd_X10_thing cI cC cZ cB cJ a_m oJ uD dY iJ lJ jQ jR jW jK pJ bM aY jO gR gY mK jZ iY bG mJ jB mQ lY eJ bY bW aG jG bQ dG jY m_length qG uW eY aJ aB bU dN aR aE bJ aW bT gJ dU bL bR bO mY pW m_x jA pY oY pR rG rQ) H → va_D A (wd_X10_thing cI cC cZ cB cJ a_m oJ uD dY iJ lJ jQ jR jW jK pJ bM aY jO gR gY mK jZ iY bG mJ jB mQ lY eJ bY bW aG jG bQ dG jY m_length qG uW eY aJ aB bU dN aR aE bJ aW bT gJ dU bL bR bO mY pW m_x jA pY oY pR rG rQ) → va_S A s.heap H locs → lv_has ls 4 [(0, .ref a_m), (2, .int x2)] → W p l e (rm_X10_thing rn) s m args below meth c H locs 0 0 (MQ below (q_X10_thing dC dI cI cC cZ cB cJ A a_m oJ uD dY iJ lJ jQ jR jW jK pJ bM aY jO gR gY mK jZ iY bG mJ jB mQ lY eJ bY bW aG jG bQ dG jY m_length qG aJ aB bU dN aR aE bJ aW bT gJ dU bL bR bO mY pW m_x jA pY oY pR rG rQ post) args s 0 0 A) (F0 m 136 ls []) := by
  obtain ⟨hx, hb, hr, hml, hown, hts, hlocks, hA, hK, hN, tL, tM, hZL, hTL, hZM, hTM, hZX⟩ := id C0
  intro x2 uW eY H locs ls hp hP hD hS hl
  unfold ws_X10_thing_136 at hp
  refine lv_aload_n hx hb eX10_thing_128.2.2.2.2.1 rfl (lv_at hl 0 rfl) ?_
  refine lv_dup hx hb eX10_thing_128.2.2.2.2.2.1 rfl ?_
  refine va_get (D := (dC, dI)) (ci := 10) (v := .int uW) (C := RX10) (T := TX10) (N := 51) hx hb hts i_X10 hown hK hP 0 rfl rfl 18 (Nat.le_of_ble_eq_true rfl) (hts _ q_648) (fun _ h9 => h9) rfl eX10_thing_128.2.2.2.2.2.2.1 ?_
  refine lv_iconst (v := 1) hx hb eX10_thing_128.2.2.2.2.2.2.2.1 ic_1 ?_
  refine lv_iadd hx hb eX10_thing_128.2.2.2.2.2.2.2.2.1 ?_
  refine lv_topi (fun v_6 ev_6 => ?_)
  have hp := hp v_6 ev_6
  refine va_put (D := (dC, dI)) (ci := 10) (v := .int v_6) (ty := .int) (C := RX10) (T := TX10) (N := 51) hx hb hts i_X10 tyX10 tyX10_ok nmX10 hown hK hP hD hS 0 rfl rfl 18 (Nat.le_of_ble_eq_true rfl) (hts _ q_648) (fun _ h9 => h9) rfl (tyX10_ok 18 (Nat.le_of_ble_eq_true rfl)) rfl rfl (Nat.le_of_ble_eq_true rfl) eX10_thing_128.2.2.2.2.2.2.2.2.2.1 (fun H locs hP hD hS => ?_)
  have hP : va_P (dC, dI) classes (wd_X10_thing cI cC cZ cB cJ a_m oJ uD dY iJ lJ jQ jR jW jK pJ bM aY jO gR gY mK jZ iY bG mJ jB mQ lY eJ bY bW aG jG bQ dG jY m_length qG v_6 eY aJ aB bU dN aR aE bJ aW bT gJ dU bL bR bO mY pW m_x jA pY oY pR rG rQ) H := hP
  have hD : va_D A (wd_X10_thing cI cC cZ cB cJ a_m oJ uD dY iJ lJ jQ jR jW jK pJ bM aY jO gR gY mK jZ iY bG mJ jB mQ lY eJ bY bW aG jG bQ dG jY m_length qG v_6 eY aJ aB bU dN aR aE bJ aW bT gJ dU bL bR bO mY pW m_x jA pY oY pR rG rQ) := hD
  refine lv_aload_n hx hb eX10_thing_128.2.2.2.2.2.2.2.2.2.2.1 rfl (lv_at hl 0 rfl) ?_
  refine va_get (D := (dC, dI)) (ci := 10) (v := .int dN) (C := RX10) (T := TX10) (N := 51) hx hb hts i_X10 hown hK hP 0 rfl rfl 26 (Nat.le_of_ble_eq_true rfl) (hts _ q_711) (fun _ h9 => h9) rfl eX10_thing_128.2.2.2.2.2.2.2.2.2.2.2.1 ?_
  refine lv_if_eq (tgt := 161) hx hb eX10_thing_128.2.2.2.2.2.2.2.2.2.2.2.2.1 (by decide) (fun hc => ?_) (fun hc => ?_)
  · have hp := hp.1 hc
    refine lv_iconst (v := 0) hx hb eX10_thing_158.2.1 ic_0 ?_
    exact W.iret (v := 0) hx hb hr (fun t ht hW => ⟨⟨0, (v_6, eY), rfl, hp, by rw [ht]; exact hP, va_K.moved hW.alike hK, hD⟩, hS.F ht⟩) hS.2.2 eX10_thing_158.2.2
  · have hp := hp.2 hc
    refine lv_aload_n hx hb eX10_thing_128.2.2.2.2.2.2.2.2.2.2.2.2.2.1 rfl (lv_at hl 0 rfl) ?_
    refine lv_iload_n hx hb eX10_thing_128.2.2.2.2.2.2.2.2.2.2.2.2.2.2.1 rfl (lv_at hl 1 rfl) ?_
    have hm := mgk (wc := (wd_X10_valueOf cI cC cZ cB cJ a_m oJ uD dY iJ lJ jQ jR jW jK pJ bM aY jO gR gY mK jZ iY bG mJ jB mQ lY eJ bY bW aG jG bQ dG jY m_length qG v_6 eY aJ aB bU dN aR aE bJ aW bT gJ dU bL bR bO mY pW m_x jA pY oY pR)) hP mk_205 8 rfl rfl rfl
    refine g_calli hP hD hS hA (mixT mk_205) (mixF mk_205) hm.1 hm.2 (nd_F _) (dis_g _) (g_runV (As := [.int x2]) (rest := []) C0 hP hD hS (mixT mk_205) hm.1 (nd_T _) 0 10 rfl rfl (c_X10_valueOf l dC dI cI cC cZ cB cJ a_m oJ uD dY iJ lJ jQ jR jW jK pJ bM aY jO gR gY mK jZ iY bG mJ jB mQ lY eJ bY H.size x2 bW aG jG bQ dG jY m_length qG v_6 eY aJ aB bU dN aR aE bJ aW bT gJ dU bL bR bO mY pW m_x jA pY oY pR _ hp) q_712 q_715 q_713 q_714 q_642 h_X10_valueOf rfl rfl ⟨(show 2 + 1 ≤ 6 * rn + 3 by omega), (show 8 + (2 + 11) + (43) ≤ 200 * rn + 64 by omega)⟩ rfl rfl hl.1 rfl (lv_room (Nat.le_of_ble_eq_true rfl)) eX10_thing_128.2.2.2.2.2.2.2.2.2.2.2.2.2.2.2 ⟨Nat.zero_le _, Nat.zero_le _⟩) (fun r_7 u H locs hp hP hD hS => ?_)
    have hPD := PDm (ws' := (wd_X10_thing cI cC cZ cB cJ a_m oJ uD dY iJ lJ jQ jR jW jK pJ bM aY jO gR gY mK jZ iY bG mJ jB mQ lY eJ bY bW aG jG bQ dG jY m_length qG v_6 eY aJ aB bU dN aR aE bJ aW bT gJ dU bL bR bO mY pW m_x jA pY oY pR rG rQ)) hP hD 8 rfl rfl rfl
    have hP := hPD.1
    have hD := hPD.2
    refine lv_goto (tgt := 162) hx hb eX10_thing_158.1 (by decide) ?_
    exact W.iret (v := r_7) hx hb hr (fun t ht hW => ⟨⟨r_7, (v_6, eY), rfl, hp, by rw [ht]; exact hP, va_K.moved hW.alike hK, hD⟩, hS.F ht⟩) hS.2.2 eX10_thing_158.2.2
noncomputable def ws_X10_thing_67 (WT WH : TY_X10) (post : Int32 → Int32 → Int32 → Prop) (jY : Nat) (m_length qG dN aR aE bJ aW : Int32) (m_x jA pY oY pR rG rQ : Nat → Int32) (x2 uW eY : Int32) : Prop := wp_X10_in (fun r_5 => (r_5 = 0 → (x2 = 100 → ws_X10_thing_136 WT WH post jY m_length qG dN aR aE bJ aW m_x jA pY oY pR rG rQ x2 uW eY) ∧ (¬ x2 = 100 → (x2 = 117 → ws_X10_thing_136 WT WH post jY m_length qG dN aR aE bJ aW m_x jA pY oY pR rG rQ x2 uW eY) ∧ (¬ x2 = 117 → (x2 = 121 → ws_X10_thing_136 WT WH post jY m_length qG dN aR aE bJ aW m_x jA pY oY pR rG rQ x2 uW eY) ∧ (¬ x2 = 121 → (x2 = 119 → ws_X10_thing_136 WT WH post jY m_length qG dN aR aE bJ aW m_x jA pY oY pR rG rQ x2 uW eY) ∧ (¬ x2 = 119 → (x2 = 115 → ws_X10_thing_136 WT WH post jY m_length qG dN aR aE bJ aW m_x jA pY oY pR rG rQ x2 uW eY) ∧ (¬ x2 = 115 → (x2 = 107 → ws_X10_thing_136 WT WH post jY m_length qG dN aR aE bJ aW m_x jA pY oY pR rG rQ x2 uW eY) ∧ (¬ x2 = 107 → (x2 = 111 → ws_X10_thing_136 WT WH post jY m_length qG dN aR aE bJ aW m_x jA pY oY pR rG rQ x2 uW eY) ∧ (¬ x2 = 111 → wp_X10_fault (fun aLh => post 0 uW aLh) uW eY)))))))) ∧ (¬ r_5 = 0 → wp_X10_number (fun r_9 aB2 zZ => post r_9 aB2 zZ) 3 jY m_length qG uW eY rG rQ)) x2 48 57
set_option maxHeartbeats 4000000 in
set_option maxRecDepth 100000 in
theorem ks_X10_thing_67 (C0 : gc cX10_thing (some .int) 4 RX10 (dC, dI) (tyl cI cC cZ cB cJ) A p s m args meth c) (hT : CT_X10_thing l WT (6 * rn - 3) (200 * rn - 136)) (hH : CT_X10_held l WH (6 * rn) (200 * rn - 65)) : ∀ (x2 uW eY : Int32) (H : Heap) (locs : List Loc) (ls : Array Slot), (ws_X10_thing_67 WT WH post jY m_length qG dN aR aE bJ aW m_x jA pY oY pR rG rQ) x2 uW eY → va_P (dC, dI) classes (wd_X10_thing cI cC cZ cB cJ a_m oJ uD dY iJ lJ jQ jR jW jK pJ bM aY jO gR gY mK jZ iY bG mJ jB mQ lY eJ bY bW aG jG bQ dG jY m_length qG uW eY aJ aB bU dN aR aE bJ aW bT gJ dU bL bR bO mY pW m_x jA pY oY pR rG rQ) H → va_D A (wd_X10_thing cI cC cZ cB cJ a_m oJ uD dY iJ lJ jQ jR jW jK pJ bM aY jO gR gY mK jZ iY bG mJ jB mQ lY eJ bY bW aG jG bQ dG jY m_length qG uW eY aJ aB bU dN aR aE bJ aW bT gJ dU bL bR bO mY pW m_x jA pY oY pR rG rQ) → va_S A s.heap H locs → lv_has ls 4 [(0, .ref a_m), (2, .int x2)] → W p l e (rm_X10_thing rn) s m args below meth c H locs 0 0 (MQ below (q_X10_thing dC dI cI cC cZ cB cJ A a_m oJ uD dY iJ lJ jQ jR jW jK pJ bM aY jO gR gY mK jZ iY bG mJ jB mQ lY eJ bY bW aG jG bQ dG jY m_length qG aJ aB bU dN aR aE bJ aW bT gJ dU bL bR bO mY pW m_x jA pY oY pR rG rQ post) args s 0 0 A) (F0 m 67 ls []) := by
  obtain ⟨hx, hb, hr, hml, hown, hts, hlocks, hA, hK, hN, tL, tM, hZL, hTL, hZM, hTM, hZX⟩ := id C0
  intro x2 uW eY H locs ls hp hP hD hS hl
  unfold ws_X10_thing_67 at hp
  refine lv_iload_n hx hb eX10_thing_67.1 rfl (lv_at hl 1 rfl) ?_
  refine lv_bipush (v := 48) hx hb eX10_thing_67.2.1 bp_48 ?_
  refine lv_bipush (v := 57) hx hb eX10_thing_67.2.2.1 bp_57 ?_
  have hm := mgk (wc := (wd_X10_in cI cC cZ cB cJ)) hP aAW 8 rfl rfl rfl
  refine g_calli hP hD hS hA (mixT aAW) (mixF aAW) hm.1 hm.2 (nd_F _) (dis_g _) (g_runS (As := [.int x2, .int 48, .int 57]) (rest := []) C0 hP hD hS (mixT aAW) hm.1 (nd_T _) (c_X10_in l dC dI cI cC cZ cB cJ H.size x2 48 57 _ hp) q_641 q_644 q_643 q_642 h_X10_in rfl rfl ⟨(show 0 + 1 ≤ 6 * rn + 3 by omega), (show 8 + (3 + 11) + (0) ≤ 200 * rn + 64 by omega)⟩ rfl rfl hl.1 rfl (lv_room (Nat.le_of_ble_eq_true rfl)) eX10_thing_67.2.2.2.1 ⟨Nat.zero_le _, Nat.zero_le _⟩) (fun r_5 u H locs hp hP hD hS => ?_)
  have hPD := PDm (ws' := (wd_X10_thing cI cC cZ cB cJ a_m oJ uD dY iJ lJ jQ jR jW jK pJ bM aY jO gR gY mK jZ iY bG mJ jB mQ lY eJ bY bW aG jG bQ dG jY m_length qG uW eY aJ aB bU dN aR aE bJ aW bT gJ dU bL bR bO mY pW m_x jA pY oY pR rG rQ)) hP hD 8 rfl rfl rfl
  have hP := hPD.1
  have hD := hPD.2
  refine lv_if_eq (tgt := 84) hx hb eX10_thing_67.2.2.2.2.1 (by decide) (fun hc => ?_) (fun hc => ?_)
  · have hp := hp.1 hc
    refine lv_iload_n hx hb eX10_thing_67.2.2.2.2.2.2.2.2.2.1 rfl (lv_at hl 1 rfl) ?_
    refine lv_bipush (v := 100) hx hb eX10_thing_67.2.2.2.2.2.2.2.2.2.2.1 bp_100 ?_
    refine lv_icmp_eq (tgt := 136) hx hb eX10_thing_67.2.2.2.2.2.2.2.2.2.2.2.1 (by decide) (fun hc => ?_) (fun hc => ?_)
    · have hp := hp.1 hc
      exact ks_X10_thing_136 C0 hT hH x2 uW eY H locs ls hp hP hD hS (lv_sub hl [0, 1] rfl)
    · have hp := hp.2 hc
      refine lv_iload_n hx hb eX10_thing_67.2.2.2.2.2.2.2.2.2.2.2.2.1 rfl (lv_at hl 1 rfl) ?_
      refine lv_bipush (v := 117) hx hb eX10_thing_67.2.2.2.2.2.2.2.2.2.2.2.2.2.1 bp_117 ?_
      refine lv_icmp_eq (tgt := 136) hx hb eX10_thing_67.2.2.2.2.2.2.2.2.2.2.2.2.2.2.1 (by decide) (fun hc => ?_) (fun hc => ?_)
      · have hp := hp.1 hc
        exact ks_X10_thing_136 C0 hT hH x2 uW eY H locs ls hp hP hD hS (lv_sub hl [0, 1] rfl)
      · have hp := hp.2 hc
        refine lv_iload_n hx hb eX10_thing_67.2.2.2.2.2.2.2.2.2.2.2.2.2.2.2 rfl (lv_at hl 1 rfl) ?_
        refine lv_bipush (v := 121) hx hb eX10_thing_97.1 bp_121 ?_
        refine lv_icmp_eq (tgt := 136) hx hb eX10_thing_97.2.1 (by decide) (fun hc => ?_) (fun hc => ?_)
        · have hp := hp.1 hc
          exact ks_X10_thing_136 C0 hT hH x2 uW eY H locs ls hp hP hD hS (lv_sub hl [0, 1] rfl)
        · have hp := hp.2 hc
          refine lv_iload_n hx hb eX10_thing_97.2.2.1 rfl (lv_at hl 1 rfl) ?_
          refine lv_bipush (v := 119) hx hb eX10_thing_97.2.2.2.1 bp_119 ?_
          refine lv_icmp_eq (tgt := 136) hx hb eX10_thing_97.2.2.2.2.1 (by decide) (fun hc => ?_) (fun hc => ?_)
          · have hp := hp.1 hc
            exact ks_X10_thing_136 C0 hT hH x2 uW eY H locs ls hp hP hD hS (lv_sub hl [0, 1] rfl)
          · have hp := hp.2 hc
            refine lv_iload_n hx hb eX10_thing_97.2.2.2.2.2.1 rfl (lv_at hl 1 rfl) ?_
            refine lv_bipush (v := 115) hx hb eX10_thing_97.2.2.2.2.2.2.1 bp_115 ?_
            refine lv_icmp_eq (tgt := 136) hx hb eX10_thing_97.2.2.2.2.2.2.2.1 (by decide) (fun hc => ?_) (fun hc => ?_)
            · have hp := hp.1 hc
              exact ks_X10_thing_136 C0 hT hH x2 uW eY H locs ls hp hP hD hS (lv_sub hl [0, 1] rfl)
            · have hp := hp.2 hc
              refine lv_iload_n hx hb eX10_thing_97.2.2.2.2.2.2.2.2.1 rfl (lv_at hl 1 rfl) ?_
              refine lv_bipush (v := 107) hx hb eX10_thing_97.2.2.2.2.2.2.2.2.2.1 bp_107 ?_
              refine lv_icmp_eq (tgt := 136) hx hb eX10_thing_97.2.2.2.2.2.2.2.2.2.2.1 (by decide) (fun hc => ?_) (fun hc => ?_)
              · have hp := hp.1 hc
                exact ks_X10_thing_136 C0 hT hH x2 uW eY H locs ls hp hP hD hS (lv_sub hl [0, 1] rfl)
              · have hp := hp.2 hc
                refine lv_iload_n hx hb eX10_thing_97.2.2.2.2.2.2.2.2.2.2.2.1 rfl (lv_at hl 1 rfl) ?_
                refine lv_bipush (v := 111) hx hb eX10_thing_97.2.2.2.2.2.2.2.2.2.2.2.2.1 bp_111 ?_
                refine lv_icmp_eq (tgt := 136) hx hb eX10_thing_97.2.2.2.2.2.2.2.2.2.2.2.2.2.1 (by decide) (fun hc => ?_) (fun hc => ?_)
                · have hp := hp.1 hc
                  exact ks_X10_thing_136 C0 hT hH x2 uW eY H locs ls hp hP hD hS (lv_sub hl [0, 1] rfl)
                · have hp := hp.2 hc
                  refine lv_aload_n hx hb eX10_thing_97.2.2.2.2.2.2.2.2.2.2.2.2.2.2.1 rfl (lv_at hl 0 rfl) ?_
                  refine lv_aload_n hx hb eX10_thing_97.2.2.2.2.2.2.2.2.2.2.2.2.2.2.2 rfl (lv_at hl 0 rfl) ?_
                  refine va_get (D := (dC, dI)) (ci := 10) (v := .int uW) (C := RX10) (T := TX10) (N := 51) hx hb hts i_X10 hown hK hP 0 rfl rfl 18 (Nat.le_of_ble_eq_true rfl) (hts _ q_648) (fun _ h9 => h9) rfl eX10_thing_128.1 ?_
                  have hm := mgk (wc := (wd_X10_fault cI cC cZ cB cJ a_m oJ uD dY iJ lJ jQ jR jW jK pJ bM aY jO gR gY mK jZ iY bG mJ jB mQ lY eJ bY bW aG jG bQ dG jY m_length qG uW eY aJ aB bU dN aR aE bJ aW bT gJ dU bL bR bO mY pW)) hP aBV 8 rfl rfl rfl
                  refine g_callv hP hD hS hA (mixT aBV) (mixF aBV) hm.1 hm.2 (nd_F _) (dis_g _) (g_runV (As := [.int uW]) (rest := []) C0 hP hD hS (mixT aBV) hm.1 (nd_T _) 0 10 rfl rfl (c_X10_fault l dC dI cI cC cZ cB cJ a_m oJ uD dY iJ lJ jQ jR jW jK pJ bM aY jO gR gY mK jZ iY bG mJ jB mQ lY eJ bY H.size uW bW aG jG bQ dG jY m_length qG uW eY aJ aB bU dN aR aE bJ aW bT gJ dU bL bR bO mY pW _ hp) q_654 q_657 q_655 q_656 q_642 h_X10_fault rfl rfl ⟨(show 1 + 1 ≤ 6 * rn + 3 by omega), (show 8 + (2 + 11) + (20) ≤ 200 * rn + 64 by omega)⟩ rfl rfl hl.1 rfl (lv_room (Nat.le_of_ble_eq_true rfl)) eX10_thing_128.2.1 ⟨Nat.zero_le _, Nat.zero_le _⟩) (fun u H locs hp hP hD hS => ?_)
                  obtain ⟨aLh, rfl⟩ : ∃ z, z = u := ⟨_, rfl⟩
                  have hPD := PDm (ws' := (wd_X10_thing cI cC cZ cB cJ a_m oJ uD dY iJ lJ jQ jR jW jK pJ bM aY jO gR gY mK jZ iY bG mJ jB mQ lY eJ bY bW aG jG bQ dG jY m_length qG uW aLh aJ aB bU dN aR aE bJ aW bT gJ dU bL bR bO mY pW m_x jA pY oY pR rG rQ)) hP hD 8 rfl rfl rfl
                  have hP := hPD.1
                  have hD := hPD.2
                  refine lv_iconst (v := 0) hx hb eX10_thing_128.2.2.1 ic_0 ?_
                  exact W.iret (v := 0) hx hb hr (fun t ht hW => ⟨⟨0, (uW, aLh), rfl, hp, by rw [ht]; exact hP, va_K.moved hW.alike hK, hD⟩, hS.F ht⟩) hS.2.2 eX10_thing_128.2.2.2.1
  · have hp := hp.2 hc
    refine lv_aload_n hx hb eX10_thing_67.2.2.2.2.2.1 rfl (lv_at hl 0 rfl) ?_
    refine lv_iconst (v := 3) hx hb eX10_thing_67.2.2.2.2.2.2.1 ic_3 ?_
    have hm := mgk (wc := (wd_X10_number cI cC cZ cB cJ a_m oJ uD dY iJ lJ jQ jR jW jK pJ bM aY jO gR gY mK jZ iY bG mJ jB mQ lY eJ bY bW aG jG bQ dG jY m_length qG uW eY aJ aB bU dN aR aE bJ aW bT gJ dU bL bR bO mY pW rG rQ)) hP aAt 8 rfl rfl rfl
    refine g_calli hP hD hS hA (mixT aAt) (mixF aAt) hm.1 hm.2 (nd_F _) (dis_g _) (g_runV (As := [.int 3]) (rest := []) C0 hP hD hS (mixT aAt) hm.1 (nd_T _) 0 10 rfl rfl (c_X10_number l dC dI cI cC cZ cB cJ a_m oJ uD dY iJ lJ jQ jR jW jK pJ bM aY jO gR gY mK jZ iY bG mJ jB mQ lY eJ bY H.size 3 bW aG jG bQ dG jY m_length qG uW eY aJ aB bU dN aR aE bJ aW bT gJ dU bL bR bO mY pW rG rQ _ hp) q_669 q_672 q_670 q_671 q_642 h_X10_number rfl rfl ⟨(show 2 + 1 ≤ 6 * rn + 3 by omega), (show 8 + (4 + 11) + (41) ≤ 200 * rn + 64 by omega)⟩ rfl rfl hl.1 rfl (lv_room (Nat.le_of_ble_eq_true rfl)) eX10_thing_67.2.2.2.2.2.2.2.1 ⟨Nat.zero_le _, Nat.zero_le _⟩) (fun r_9 u H locs hp hP hD hS => ?_)
    obtain ⟨aB2, zZ⟩ := u
    have hPD := PDm (ws' := (wd_X10_thing cI cC cZ cB cJ a_m oJ uD dY iJ lJ jQ jR jW jK pJ bM aY jO gR gY mK jZ iY bG mJ jB mQ lY eJ bY bW aG jG bQ dG jY m_length qG aB2 zZ aJ aB bU dN aR aE bJ aW bT gJ dU bL bR bO mY pW m_x jA pY oY pR rG rQ)) hP hD 8 rfl rfl rfl
    have hP := hPD.1
    have hD := hPD.2
    exact W.iret (v := r_9) hx hb hr (fun t ht hW => ⟨⟨r_9, (aB2, zZ), rfl, hp, by rw [ht]; exact hP, va_K.moved hW.alike hK, hD⟩, hS.F ht⟩) hS.2.2 eX10_thing_67.2.2.2.2.2.2.2.2.1
end S_X10_thing
noncomputable def wp_X10_thing (WT WH : TY_X10) (post : Int32 → Int32 → Int32 → Prop) (p0 : Int32) (jY : Nat) (m_length qG uW eY dN aR aE bJ aW : Int32) (m_x jA pY oY pR rG rQ : Nat → Int32) : Prop := wp_X10_passes (fun r_1 aAT => (r_1 = 0 → wp_X10_fine (fun r_3 => (¬ r_3 = 0 → wp_X10_here (fun r_4 => (¬ r_4 = 40 → ws_X10_thing_67 WT WH post jY m_length qG dN aR aE bJ aW m_x jA pY oY pR rG rQ r_4 aAT eY) ∧ (r_4 = 40 → (4 ≤ p0 → ws_X10_thing_67 WT WH post jY m_length qG dN aR aE bJ aW m_x jA pY oY pR rG rQ r_4 aAT eY) ∧ (¬ 4 ≤ p0 → ∀ v_12 : Int32, v_12 = aAT + 1 → ∀ v_13 : Int32, v_13 = p0 + 1 → WH (fun r_14 m_at_15 m_wrong_16 => wp_X10_need (fun m_at_17 aEC => post r_14 m_at_17 aEC) 41 jY m_length qG m_at_15 m_wrong_16 rG rQ) v_13 jY m_length qG v_12 eY dN aR aE bJ aW m_x jA pY oY pR rG rQ))) jY m_length qG aAT rG rQ) ∧ (r_3 = 0 → post 0 aAT eY)) eY) ∧ (¬ r_1 = 0 → WT (fun r_19 m_at_20 m_wrong_21 => post (-r_19) m_at_20 m_wrong_21) p0 jY m_length qG aAT eY dN aR aE bJ aW m_x jA pY oY pR rG rQ)) 45 jY m_length qG uW eY rG rQ
set_option maxHeartbeats 4000000 in
set_option maxRecDepth 100000 in
theorem c_X10_thing (l : Launch) (rn : Nat) (WT WH : TY_X10) (hT : CT_X10_thing l WT (6 * rn - 3) (200 * rn - 136)) (hH : CT_X10_held l WH (6 * rn) (200 * rn - 65)) (dC : Nat → ClassId) (dI : Nat → Nat → Nat) (cI cC cZ cB cJ : ClassId) (a_m oJ uD dY iJ lJ jQ jR jW jK pJ bM aY jO gR gY mK jZ iY bG mJ jB mQ lY eJ bY sz : Nat) (p0 bW aG jG bQ dG : Int32) (jY : Nat) (m_length qG uW eY aJ aB bU dN aR aE bJ aW bT gJ dU bL bR bO mY pW : Int32) (m_x jA pY oY pR rG rQ : Nat → Int32) (post : Int32 → Int32 → Int32 → Prop) (hw : wp_X10_thing WT WH post p0 jY m_length qG uW eY dN aR aE bJ aW m_x jA pY oY pR rG rQ) : Met l yX10_thing (gw yX10_thing cX10_thing 4 (some .int)) (rm_X10_thing rn) (va_Pc [.ref a_m, .int p0] (gPre (dC, dI) (tyl cI cC cZ cB cJ) (wd_X10_thing cI cC cZ cB cJ a_m oJ uD dY iJ lJ jQ jR jW jK pJ bM aY jO gR gY mK jZ iY bG mJ jB mQ lY eJ bY bW aG jG bQ dG jY m_length qG uW eY aJ aB bU dN aR aE bJ aW bT gJ dU bL bR bO mY pW m_x jA pY oY pR rG rQ) sz)) (q_X10_thing dC dI cI cC cZ cB cJ (va_A (wd_X10_thing cI cC cZ cB cJ a_m oJ uD dY iJ lJ jQ jR jW jK pJ bM aY jO gR gY mK jZ iY bG mJ jB mQ lY eJ bY bW aG jG bQ dG jY m_length qG uW eY aJ aB bU dN aR aE bJ aW bT gJ dU bL bR bO mY pW m_x jA pY oY pR rG rQ) sz) a_m oJ uD dY iJ lJ jQ jR jW jK pJ bM aY jO gR gY mK jZ iY bG mJ jB mQ lY eJ bY bW aG jG bQ dG jY m_length qG aJ aB bU dN aR aE bJ aW bT gJ dU bL bR bO mY pW m_x jA pY oY pR rG rQ post) 0 0 (va_A (wd_X10_thing cI cC cZ cB cJ a_m oJ uD dY iJ lJ jQ jR jW jK pJ bM aY jO gR gY mK jZ iY bG mJ jB mQ lY eJ bY bW aG jG bQ dG jY m_length qG uW eY aJ aB bU dN aR aE bJ aW bT gJ dU bL bR bO mY pW m_x jA pY oY pR rG rQ) sz) := by
  refine g_enter (own := RX10) (dC, dI) (tyl cI cC cZ cB cJ) (wd_X10_thing cI cC cZ cB cJ a_m oJ uD dY iJ lJ jQ jR jW jK pJ bM aY jO gR gY mK jZ iY bG mJ jB mQ lY eJ bY bW aG jG bQ dG jY m_length qG uW eY aJ aB bU dN aR aE bJ aW bT gJ dU bL bR bO mY pW m_x jA pY oY pR rG rQ) sz [.ref a_m, .int p0] (fun A => q_X10_thing dC dI cI cC cZ cB cJ A a_m oJ uD dY iJ lJ jQ jR jW jK pJ bM aY jO gR gY mK jZ iY bG mJ jB mQ lY eJ bY bW aG jG bQ dG jY m_length qG aJ aB bU dN aR aE bJ aW bT gJ dU bL bR bO mY pW m_x jA pY oY pR rG rQ post) pn_RX10 rfl (Nat.le_of_ble_eq_true rfl) ?_
  intro p e s m args below meth c A H locs ls C0 hP hD hS hl
  have hl : lv_has ls 4 [(0, .ref a_m), (1, .int p0)] := hl
  obtain ⟨hx, hb, hr, hml, hown, hts, hlocks, hA, hK, hN, tL, tM, hZL, hTL, hZM, hTM, hZX⟩ := id C0
  have hp := hw
  unfold wp_X10_thing at hp
  refine lv_aload_n hx hb eX10_thing_0.1 rfl (lv_at hl 0 rfl) ?_
  refine lv_bipush (v := 45) hx hb eX10_thing_0.2.1 bp_45 ?_
  have hm := mgk (wc := (wd_X10_passes cI cC cZ cB cJ a_m oJ uD dY iJ lJ jQ jR jW jK pJ bM aY jO gR gY mK jZ iY bG mJ jB mQ lY eJ bY bW aG jG bQ dG jY m_length qG uW eY aJ aB bU dN aR aE bJ aW bT gJ dU bL bR bO mY pW rG rQ)) hP aAt 8 rfl rfl rfl
  refine g_calli hP hD hS hA (mixT aAt) (mixF aAt) hm.1 hm.2 (nd_F _) (dis_g _) (g_runV (As := [.int 45]) (rest := []) C0 hP hD hS (mixT aAt) hm.1 (nd_T _) 0 10 rfl rfl (c_X10_passes l dC dI cI cC cZ cB cJ a_m oJ uD dY iJ lJ jQ jR jW jK pJ bM aY jO gR gY mK jZ iY bG mJ jB mQ lY eJ bY H.size 45 bW aG jG bQ dG jY m_length qG uW eY aJ aB bU dN aR aE bJ aW bT gJ dU bL bR bO mY pW rG rQ _ hp) q_662 q_665 q_663 q_664 q_642 h_X10_passes rfl rfl ⟨(show 1 + 1 ≤ 6 * rn + 3 by omega), (show 8 + (2 + 11) + (20) ≤ 200 * rn + 64 by omega)⟩ rfl rfl hl.1 rfl (lv_room (Nat.le_of_ble_eq_true rfl)) eX10_thing_0.2.2.1 ⟨Nat.zero_le _, Nat.zero_le _⟩) (fun r_1 u H locs hp hP hD hS => ?_)
  obtain ⟨aAT, rfl⟩ : ∃ z, z = u := ⟨_, rfl⟩
  have hPD := PDm (ws' := (wd_X10_thing cI cC cZ cB cJ a_m oJ uD dY iJ lJ jQ jR jW jK pJ bM aY jO gR gY mK jZ iY bG mJ jB mQ lY eJ bY bW aG jG bQ dG jY m_length qG aAT eY aJ aB bU dN aR aE bJ aW bT gJ dU bL bR bO mY pW m_x jA pY oY pR rG rQ)) hP hD 8 rfl rfl rfl
  have hP := hPD.1
  have hD := hPD.2
  refine lv_if_eq (tgt := 16) hx hb eX10_thing_0.2.2.2.1 (by decide) (fun hc => ?_) (fun hc => ?_)
  · have hp := hp.1 hc
    refine lv_aload_n hx hb eX10_thing_15.2.1 rfl (lv_at hl 0 rfl) ?_
    have hm := mgk (wc := (wd_X10_fine cI cC cZ cB cJ a_m oJ uD dY iJ lJ jQ jR jW jK pJ bM aY jO gR gY mK jZ iY bG mJ jB mQ lY eJ bY bW aG jG bQ dG jY m_length qG aAT eY aJ aB bU dN aR aE bJ aW bT gJ dU bL bR bO mY pW)) hP aBV 8 rfl rfl rfl
    refine g_calli hP hD hS hA (mixT aBV) (mixF aBV) hm.1 hm.2 (nd_F _) (dis_g _) (g_runV (As := []) (rest := []) C0 hP hD hS (mixT aBV) hm.1 (nd_T _) 0 10 rfl rfl (c_X10_fine l dC dI cI cC cZ cB cJ a_m oJ uD dY iJ lJ jQ jR jW jK pJ bM aY jO gR gY mK jZ iY bG mJ jB mQ lY eJ bY H.size bW aG jG bQ dG jY m_length qG aAT eY aJ aB bU dN aR aE bJ aW bT gJ dU bL bR bO mY pW _ hp) q_650 q_653 q_651 q_652 q_642 h_X10_fine rfl rfl ⟨(show 0 + 1 ≤ 6 * rn + 3 by omega), (show 8 + (1 + 11) + (0) ≤ 200 * rn + 64 by omega)⟩ rfl rfl hl.1 rfl (lv_room (Nat.le_of_ble_eq_true rfl)) eX10_thing_15.2.2.1 ⟨Nat.zero_le _, Nat.zero_le _⟩) (fun r_3 u H locs hp hP hD hS => ?_)
    have hPD := PDm (ws' := (wd_X10_thing cI cC cZ cB cJ a_m oJ uD dY iJ lJ jQ jR jW jK pJ bM aY jO gR gY mK jZ iY bG mJ jB mQ lY eJ bY bW aG jG bQ dG jY m_length qG aAT eY aJ aB bU dN aR aE bJ aW bT gJ dU bL bR bO mY pW m_x jA pY oY pR rG rQ)) hP hD 8 rfl rfl rfl
    have hP := hPD.1
    have hD := hPD.2
    refine lv_if_ne (tgt := 25) hx hb eX10_thing_15.2.2.2.1 (by decide) (fun hc => ?_) (fun hc => ?_)
    · have hp := hp.1 hc
      refine lv_aload_n hx hb eX10_thing_15.2.2.2.2.2.2.1 rfl (lv_at hl 0 rfl) ?_
      have hm := mgk (wc := (wd_X10_here cI cC cZ cB cJ a_m oJ uD dY iJ lJ jQ jR jW jK pJ bM aY jO gR gY mK jZ iY bG mJ jB mQ lY eJ bY bW aG jG bQ dG jY m_length qG aAT eY aJ aB bU dN aR aE bJ aW bT gJ dU bL bR bO mY pW rG rQ)) hP aAt 8 rfl rfl rfl
      refine g_calli hP hD hS hA (mixT aAt) (mixF aAt) hm.1 hm.2 (nd_F _) (dis_g _) (g_runV (As := []) (rest := []) C0 hP hD hS (mixT aAt) hm.1 (nd_T _) 0 10 rfl rfl (c_X10_here l dC dI cI cC cZ cB cJ a_m oJ uD dY iJ lJ jQ jR jW jK pJ bM aY jO gR gY mK jZ iY bG mJ jB mQ lY eJ bY H.size bW aG jG bQ dG jY m_length qG aAT eY aJ aB bU dN aR aE bJ aW bT gJ dU bL bR bO mY pW rG rQ _ hp) q_658 q_661 q_659 q_660 q_642 h_X10_here rfl rfl ⟨(show 0 + 1 ≤ 6 * rn + 3 by omega), (show 8 + (1 + 11) + (0) ≤ 200 * rn + 64 by omega)⟩ rfl rfl hl.1 rfl (lv_room (Nat.le_of_ble_eq_true rfl)) eX10_thing_15.2.2.2.2.2.2.2.1 ⟨Nat.zero_le _, Nat.zero_le _⟩) (fun r_4 u H locs hp hP hD hS => ?_)
      have hPD := PDm (ws' := (wd_X10_thing cI cC cZ cB cJ a_m oJ uD dY iJ lJ jQ jR jW jK pJ bM aY jO gR gY mK jZ iY bG mJ jB mQ lY eJ bY bW aG jG bQ dG jY m_length qG aAT eY aJ aB bU dN aR aE bJ aW bT gJ dU bL bR bO mY pW m_x jA pY oY pR rG rQ)) hP hD 8 rfl rfl rfl
      have hP := hPD.1
      have hD := hPD.2
      refine lv_istore_n (lv' := [(2, .int r_4), (0, .ref a_m), (1, .int p0)]) hx hb eX10_thing_15.2.2.2.2.2.2.2.2.1 rfl hl (by decide) rfl (fun ls hl => ?_)
      refine lv_iload_n hx hb eX10_thing_15.2.2.2.2.2.2.2.2.2.1 rfl (lv_at hl 0 rfl) ?_
      refine lv_bipush (v := 40) hx hb eX10_thing_15.2.2.2.2.2.2.2.2.2.2.1 bp_40 ?_
      refine lv_icmp_ne (tgt := 67) hx hb eX10_thing_15.2.2.2.2.2.2.2.2.2.2.2.1 (by decide) (fun hc => ?_) (fun hc => ?_)
      · have hp := hp.1 hc
        exact ks_X10_thing_67 C0 hT hH r_4 aAT eY H locs ls hp hP hD hS (lv_sub hl [1, 0] rfl)
      · have hp := hp.2 hc
        refine lv_iload_n hx hb eX10_thing_15.2.2.2.2.2.2.2.2.2.2.2.2.1 rfl (lv_at hl 2 rfl) ?_
        refine lv_iconst (v := 4) hx hb eX10_thing_15.2.2.2.2.2.2.2.2.2.2.2.2.2.1 ic_4 ?_
        refine lv_icmp_ge (tgt := 67) hx hb eX10_thing_15.2.2.2.2.2.2.2.2.2.2.2.2.2.2.1 (by decide) (fun hc => ?_) (fun hc => ?_)
        · have hp := hp.1 hc
          exact ks_X10_thing_67 C0 hT hH r_4 aAT eY H locs ls hp hP hD hS (lv_sub hl [1, 0] rfl)
        · have hp := hp.2 hc
          refine lv_aload_n hx hb eX10_thing_15.2.2.2.2.2.2.2.2.2.2.2.2.2.2.2 rfl (lv_at hl 1 rfl) ?_
          refine lv_dup hx hb eX10_thing_42.1 rfl ?_
          refine va_get (D := (dC, dI)) (ci := 10) (v := .int aAT) (C := RX10) (T := TX10) (N := 51) hx hb hts i_X10 hown hK hP 0 rfl rfl 18 (Nat.le_of_ble_eq_true rfl) (hts _ q_648) (fun _ h9 => h9) rfl eX10_thing_42.2.1 ?_
          refine lv_iconst (v := 1) hx hb eX10_thing_42.2.2.1 ic_1 ?_
          refine lv_iadd hx hb eX10_thing_42.2.2.2.1 ?_
          refine lv_topi (fun v_12 ev_12 => ?_)
          have hp := hp v_12 ev_12
          refine va_put (D := (dC, dI)) (ci := 10) (v := .int v_12) (ty := .int) (C := RX10) (T := TX10) (N := 51) hx hb hts i_X10 tyX10 tyX10_ok nmX10 hown hK hP hD hS 0 rfl rfl 18 (Nat.le_of_ble_eq_true rfl) (hts _ q_648) (fun _ h9 => h9) rfl (tyX10_ok 18 (Nat.le_of_ble_eq_true rfl)) rfl rfl (Nat.le_of_ble_eq_true rfl) eX10_thing_42.2.2.2.2.1 (fun H locs hP hD hS => ?_)
          have hP : va_P (dC, dI) classes (wd_X10_thing cI cC cZ cB cJ a_m oJ uD dY iJ lJ jQ jR jW jK pJ bM aY jO gR gY mK jZ iY bG mJ jB mQ lY eJ bY bW aG jG bQ dG jY m_length qG v_12 eY aJ aB bU dN aR aE bJ aW bT gJ dU bL bR bO mY pW m_x jA pY oY pR rG rQ) H := hP
          have hD : va_D A (wd_X10_thing cI cC cZ cB cJ a_m oJ uD dY iJ lJ jQ jR jW jK pJ bM aY jO gR gY mK jZ iY bG mJ jB mQ lY eJ bY bW aG jG bQ dG jY m_length qG v_12 eY aJ aB bU dN aR aE bJ aW bT gJ dU bL bR bO mY pW m_x jA pY oY pR rG rQ) := hD
          refine lv_aload_n hx hb eX10_thing_42.2.2.2.2.2.1 rfl (lv_at hl 1 rfl) ?_
          refine lv_iload_n hx hb eX10_thing_42.2.2.2.2.2.2.1 rfl (lv_at hl 2 rfl) ?_
          refine lv_iconst (v := 1) hx hb eX10_thing_42.2.2.2.2.2.2.2.1 ic_1 ?_
          refine lv_iadd hx hb eX10_thing_42.2.2.2.2.2.2.2.2.1 ?_
          refine lv_topi (fun v_13 ev_13 => ?_)
          have hp := hp v_13 ev_13
          have hm := mgk (wc := (wd_X10_thing cI cC cZ cB cJ a_m oJ uD dY iJ lJ jQ jR jW jK pJ bM aY jO gR gY mK jZ iY bG mJ jB mQ lY eJ bY bW aG jG bQ dG jY m_length qG v_12 eY aJ aB bU dN aR aE bJ aW bT gJ dU bL bR bO mY pW m_x jA pY oY pR rG rQ)) hP aAY 8 rfl rfl rfl
          refine g_calli hP hD hS hA (mixT aAY) (mixF aAY) hm.1 hm.2 (nd_F _) (dis_g _) (g_runV (As := [.int v_13]) (rest := []) C0 hP hD hS (mixT aAY) hm.1 (nd_T _) 0 10 rfl rfl (hH dC dI cI cC cZ cB cJ a_m oJ uD dY iJ lJ jQ jR jW jK pJ bM aY jO gR gY mK jZ iY bG mJ jB mQ lY eJ bY H.size v_13 bW aG jG bQ dG jY m_length qG v_12 eY aJ aB bU dN aR aE bJ aW bT gJ dU bL bR bO mY pW m_x jA pY oY pR rG rQ _ hp) q_716 q_719 q_717 q_718 q_642 h_X10_held rfl rfl ⟨(show 6 * rn + 1 ≤ 6 * rn + 3 by omega), (show 8 + (3 + 11) + (200 * rn - 65) ≤ 200 * rn + 64 by omega)⟩ rfl rfl hl.1 rfl (lv_room (Nat.le_of_ble_eq_true rfl)) eX10_thing_42.2.2.2.2.2.2.2.2.2.1 ⟨Nat.zero_le _, Nat.zero_le _⟩) (fun r_14 u H locs hp hP hD hS => ?_)
          obtain ⟨m_at_15, m_wrong_16⟩ := u
          have hPD := PDm (ws' := (wd_X10_thing cI cC cZ cB cJ a_m oJ uD dY iJ lJ jQ jR jW jK pJ bM aY jO gR gY mK jZ iY bG mJ jB mQ lY eJ bY bW aG jG bQ dG jY m_length qG m_at_15 m_wrong_16 aJ aB bU dN aR aE bJ aW bT gJ dU bL bR bO mY pW m_x jA pY oY pR rG rQ)) hP hD 8 rfl rfl rfl
          have hP := hPD.1
          have hD := hPD.2
          refine lv_istore_n (lv' := [(3, .int r_14), (2, .int r_4), (0, .ref a_m), (1, .int p0)]) hx hb eX10_thing_42.2.2.2.2.2.2.2.2.2.2.1 rfl hl (by decide) rfl (fun ls hl => ?_)
          refine lv_aload_n hx hb eX10_thing_42.2.2.2.2.2.2.2.2.2.2.2.1 rfl (lv_at hl 2 rfl) ?_
          refine lv_bipush (v := 41) hx hb eX10_thing_42.2.2.2.2.2.2.2.2.2.2.2.2.1 bp_41 ?_
          have hm := mgk (wc := (wd_X10_need cI cC cZ cB cJ a_m oJ uD dY iJ lJ jQ jR jW jK pJ bM aY jO gR gY mK jZ iY bG mJ jB mQ lY eJ bY bW aG jG bQ dG jY m_length qG m_at_15 m_wrong_16 aJ aB bU dN aR aE bJ aW bT gJ dU bL bR bO mY pW rG rQ)) hP aAt 8 rfl rfl rfl
          refine g_callv hP hD hS hA (mixT aAt) (mixF aAt) hm.1 hm.2 (nd_F _) (dis_g _) (g_runV (As := [.int 41]) (rest := []) C0 hP hD hS (mixT aAt) hm.1 (nd_T _) 0 10 rfl rfl (c_X10_need l dC dI cI cC cZ cB cJ a_m oJ uD dY iJ lJ jQ jR jW jK pJ bM aY jO gR gY mK jZ iY bG mJ jB mQ lY eJ bY H.size 41 bW aG jG bQ dG jY m_length qG m_at_15 m_wrong_16 aJ aB bU dN aR aE bJ aW bT gJ dU bL bR bO mY pW rG rQ _ hp) q_673 q_676 q_674 q_675 q_642 h_X10_need rfl rfl ⟨(show 2 + 1 ≤ 6 * rn + 3 by omega), (show 8 + (2 + 11) + (41) ≤ 200 * rn + 64 by omega)⟩ rfl rfl hl.1 rfl (lv_room (Nat.le_of_ble_eq_true rfl)) eX10_thing_42.2.2.2.2.2.2.2.2.2.2.2.2.2.1 ⟨Nat.zero_le _, Nat.zero_le _⟩) (fun u H locs hp hP hD hS => ?_)
          obtain ⟨m_at_17, aEC⟩ := u
          have hPD := PDm (ws' := (wd_X10_thing cI cC cZ cB cJ a_m oJ uD dY iJ lJ jQ jR jW jK pJ bM aY jO gR gY mK jZ iY bG mJ jB mQ lY eJ bY bW aG jG bQ dG jY m_length qG m_at_17 aEC aJ aB bU dN aR aE bJ aW bT gJ dU bL bR bO mY pW m_x jA pY oY pR rG rQ)) hP hD 8 rfl rfl rfl
          have hP := hPD.1
          have hD := hPD.2
          refine lv_iload_n hx hb eX10_thing_42.2.2.2.2.2.2.2.2.2.2.2.2.2.2.1 rfl (lv_at hl 0 rfl) ?_
          exact W.iret (v := r_14) hx hb hr (fun t ht hW => ⟨⟨r_14, (m_at_17, aEC), rfl, hp, by rw [ht]; exact hP, va_K.moved hW.alike hK, hD⟩, hS.F ht⟩) hS.2.2 eX10_thing_42.2.2.2.2.2.2.2.2.2.2.2.2.2.2.2
    · have hp := hp.2 hc
      refine lv_iconst (v := 0) hx hb eX10_thing_15.2.2.2.2.1 ic_0 ?_
      exact W.iret (v := 0) hx hb hr (fun t ht hW => ⟨⟨0, (aAT, eY), rfl, hp, by rw [ht]; exact hP, va_K.moved hW.alike hK, hD⟩, hS.F ht⟩) hS.2.2 eX10_thing_15.2.2.2.2.2.1
  · have hp := hp.2 hc
    refine lv_aload_n hx hb eX10_thing_0.2.2.2.2.1 rfl (lv_at hl 0 rfl) ?_
    refine lv_iload_n hx hb eX10_thing_0.2.2.2.2.2.1 rfl (lv_at hl 1 rfl) ?_
    have hm := mgk (wc := (wd_X10_thing cI cC cZ cB cJ a_m oJ uD dY iJ lJ jQ jR jW jK pJ bM aY jO gR gY mK jZ iY bG mJ jB mQ lY eJ bY bW aG jG bQ dG jY m_length qG aAT eY aJ aB bU dN aR aE bJ aW bT gJ dU bL bR bO mY pW m_x jA pY oY pR rG rQ)) hP aAY 8 rfl rfl rfl
    refine g_calli hP hD hS hA (mixT aAY) (mixF aAY) hm.1 hm.2 (nd_F _) (dis_g _) (g_runV (As := [.int p0]) (rest := []) C0 hP hD hS (mixT aAY) hm.1 (nd_T _) 0 10 rfl rfl (hT dC dI cI cC cZ cB cJ a_m oJ uD dY iJ lJ jQ jR jW jK pJ bM aY jO gR gY mK jZ iY bG mJ jB mQ lY eJ bY H.size p0 bW aG jG bQ dG jY m_length qG aAT eY aJ aB bU dN aR aE bJ aW bT gJ dU bL bR bO mY pW m_x jA pY oY pR rG rQ _ hp) q_720 q_723 q_721 q_722 q_642 h_X10_thing rfl rfl ⟨(show 6 * rn - 3 + 1 ≤ 6 * rn + 3 by omega), (show 8 + (4 + 11) + (200 * rn - 136) ≤ 200 * rn + 64 by omega)⟩ rfl rfl hl.1 rfl (lv_room (Nat.le_of_ble_eq_true rfl)) eX10_thing_0.2.2.2.2.2.2.1 ⟨Nat.zero_le _, Nat.zero_le _⟩) (fun r_19 u H locs hp hP hD hS => ?_)
    obtain ⟨m_at_20, m_wrong_21⟩ := u
    have hPD := PDm (ws' := (wd_X10_thing cI cC cZ cB cJ a_m oJ uD dY iJ lJ jQ jR jW jK pJ bM aY jO gR gY mK jZ iY bG mJ jB mQ lY eJ bY bW aG jG bQ dG jY m_length qG m_at_20 m_wrong_21 aJ aB bU dN aR aE bJ aW bT gJ dU bL bR bO mY pW m_x jA pY oY pR rG rQ)) hP hD 8 rfl rfl rfl
    have hP := hPD.1
    have hD := hPD.2
    refine lv_ineg hx hb eX10_thing_0.2.2.2.2.2.2.2 ?_
    exact W.iret (v := -r_19) hx hb hr (fun t ht hW => ⟨⟨-r_19, (m_at_20, m_wrong_21), rfl, hp, by rw [ht]; exact hP, va_K.moved hW.alike hK, hD⟩, hS.F ht⟩) hS.2.2 eX10_thing_15.1
noncomputable abbrev wd_X10_product (cI cC cZ cB cJ : ClassId) (a_m oJ uD dY iJ lJ jQ jR jW jK pJ bM aY jO gR gY mK jZ iY bG mJ jB mQ lY eJ bY : Nat) (bW aG jG bQ dG : Int32) (jY : Nat) (m_length qG uW eY aJ aB bU dN aR aE bJ aW bT gJ dU bL bR bO mY pW : Int32) (m_x jA pY oY pR rG rQ : Nat → Int32) : va_W := [(a_m, .inr (10, [.ref oJ, .int bW, .ref uD, .ref dY, .ref iJ, .ref lJ, .int aG, .ref jQ, .ref jR, .ref jW, .ref jK, .int jG, .ref pJ, .int bQ, .int dG, rdv jK jO jY, .int m_length, .int qG, .int uW, .int eY, .ref bM, .ref aY, .int aJ, .int aB, .ref jO, .int bU, .int dN, .int aR, .int aE, .int bJ, .int aW, .ref gR, .int bT, .ref gY, .ref mK, .int gJ, .ref jZ, .int dU, .ref iY, .ref bG, .int bL, .int bR, .int bO, .ref mJ, .ref jB, .ref mQ, .int mY, .int pW, .ref lY, .ref eJ, .ref bY])), (uD, .inl (cI, 16, .inl m_x)), (dY, .inl (cI, 16, .inl jA)), (iJ, .inl (cI, 16, .inl pY)), (jQ, .inl (cI, 8, .inl oY)), (jR, .inl (cI, 8, .inl pR)), (jK, .inl (cB, 80, .inl rG)), (jO, .inl (cB, 40, .inl rQ))]
noncomputable abbrev q_X10_product (dC : Nat → ClassId) (dI : Nat → Nat → Nat) (cI cC cZ cB cJ : ClassId) (A : Nat → Prop) (a_m oJ uD dY iJ lJ jQ jR jW jK pJ bM aY jO gR gY mK jZ iY bG mJ jB mQ lY eJ bY : Nat) (bW aG jG bQ dG : Int32) (jY : Nat) (m_length qG aJ aB bU dN aR aE bJ aW bT gJ dU bL bR bO mY pW : Int32) (m_x jA pY oY pR rG rQ : Nat → Int32) (post : Int32 → Int32 → Int32 → Prop) : Array Value → State → Outcome → State → Prop := va_Qi (fun (r : Int32) (u : Int32 × Int32) => post r u.1 u.2) (fun u t => gB (dC, dI) (tyl cI cC cZ cB cJ) A (wd_X10_product cI cC cZ cB cJ a_m oJ uD dY iJ lJ jQ jR jW jK pJ bM aY jO gR gY mK jZ iY bG mJ jB mQ lY eJ bY bW aG jG bQ dG jY m_length qG u.1 u.2 aJ aB bU dN aR aE bJ aW bT gJ dU bL bR bO mY pW m_x jA pY oY pR rG rQ) t) A
noncomputable abbrev rm_X10_product (rn : Nat) : Room := { frames := 6 * rn + 4, cells := 0, slots := 0, locals := 200 * rn + 87 }
section S_X10_product
variable {p : Program} {l : Launch} {e : Env} {s : State} {m : MethodId} {args : Array Value} {below : List Frame} {meth : Method} {c : Code} {dC : Nat → ClassId} {dI : Nat → Nat → Nat} {cI cC cZ cB cJ : ClassId} {A : Nat → Prop} {a_m oJ uD dY iJ lJ jQ jR jW jK pJ bM aY jO gR gY mK jZ iY bG mJ jB mQ lY eJ bY : Nat} {bW aG jG bQ dG : Int32} {jY : Nat} {m_length qG aJ aB bU dN aR aE bJ aW bT gJ dU bL bR bO mY pW : Int32} {m_x jA pY oY pR rG rQ : Nat → Int32} {post : Int32 → Int32 → Int32 → Prop} {rn : Nat} {WT WH : TY_X10}
noncomputable def ws_X10_product_87 (WT WH : TY_X10) (post : Int32 → Int32 → Int32 → Prop) (K6 : Int32 → Int32 → Int32 → Int32 → Prop) (jY : Nat) (m_length qG dN aR aE bJ aW : Int32) (m_x jA pY oY pR rG rQ : Nat → Int32) (x1 k0 uW eY : Int32) : Prop := K6 x1 k0 uW eY
set_option maxHeartbeats 4000000 in
set_option maxRecDepth 100000 in
theorem ks_X10_product_87 (C0 : gc cX10_product (some .int) 5 RX10 (dC, dI) (tyl cI cC cZ cB cJ) A p s m args meth c) (hT : CT_X10_thing l WT (6 * rn - 3) (200 * rn - 136)) (hH : CT_X10_held l WH (6 * rn) (200 * rn - 65)) {K6 : Int32 → Int32 → Int32 → Int32 → Prop} (hK6 : ∀ (x1 : Int32) (x2 : Int32) (uW : Int32) (eY : Int32) (H : Heap) (locs : List Loc) (ls : Array Slot), K6 x1 x2 uW eY → va_P (dC, dI) classes (wd_X10_product cI cC cZ cB cJ a_m oJ uD dY iJ lJ jQ jR jW jK pJ bM aY jO gR gY mK jZ iY bG mJ jB mQ lY eJ bY bW aG jG bQ dG jY m_length qG uW eY aJ aB bU dN aR aE bJ aW bT gJ dU bL bR bO mY pW m_x jA pY oY pR rG rQ) H → va_D A (wd_X10_product cI cC cZ cB cJ a_m oJ uD dY iJ lJ jQ jR jW jK pJ bM aY jO gR gY mK jZ iY bG mJ jB mQ lY eJ bY bW aG jG bQ dG jY m_length qG uW eY aJ aB bU dN aR aE bJ aW bT gJ dU bL bR bO mY pW m_x jA pY oY pR rG rQ) → va_S A s.heap H locs → lv_has ls 5 [(0, .ref a_m), (1, .int x1), (2, .int x2)] → W p l e (rm_X10_product rn) s m args below meth c H locs 0 0 (MQ below (q_X10_product dC dI cI cC cZ cB cJ A a_m oJ uD dY iJ lJ jQ jR jW jK pJ bM aY jO gR gY mK jZ iY bG mJ jB mQ lY eJ bY bW aG jG bQ dG jY m_length qG aJ aB bU dN aR aE bJ aW bT gJ dU bL bR bO mY pW m_x jA pY oY pR rG rQ post) args s 0 0 A) (F0 m 6 ls [])) : ∀ (x1 k0 uW eY : Int32) (H : Heap) (locs : List Loc) (ls : Array Slot), (ws_X10_product_87 WT WH post K6 jY m_length qG dN aR aE bJ aW m_x jA pY oY pR rG rQ) x1 k0 uW eY → va_P (dC, dI) classes (wd_X10_product cI cC cZ cB cJ a_m oJ uD dY iJ lJ jQ jR jW jK pJ bM aY jO gR gY mK jZ iY bG mJ jB mQ lY eJ bY bW aG jG bQ dG jY m_length qG uW eY aJ aB bU dN aR aE bJ aW bT gJ dU bL bR bO mY pW m_x jA pY oY pR rG rQ) H → va_D A (wd_X10_product cI cC cZ cB cJ a_m oJ uD dY iJ lJ jQ jR jW jK pJ bM aY jO gR gY mK jZ iY bG mJ jB mQ lY eJ bY bW aG jG bQ dG jY m_length qG uW eY aJ aB bU dN aR aE bJ aW bT gJ dU bL bR bO mY pW m_x jA pY oY pR rG rQ) → va_S A s.heap H locs → lv_has ls 5 [(0, .ref a_m), (1, .int x1)] → W p l e (rm_X10_product rn) s m args below meth c H locs 0 0 (MQ below (q_X10_product dC dI cI cC cZ cB cJ A a_m oJ uD dY iJ lJ jQ jR jW jK pJ bM aY jO gR gY mK jZ iY bG mJ jB mQ lY eJ bY bW aG jG bQ dG jY m_length qG aJ aB bU dN aR aE bJ aW bT gJ dU bL bR bO mY pW m_x jA pY oY pR rG rQ post) args s 0 0 A) (F0 m 87 ls [.int k0]) := by
  obtain ⟨hx, hb, hr, hml, hown, hts, hlocks, hA, hK, hN, tL, tM, hZL, hTL, hZM, hTM, hZX⟩ := id C0
  intro x1 k0 uW eY H locs ls hp hP hD hS hl
  unfold ws_X10_product_87 at hp
  refine lv_istore_n (lv' := [(2, .int k0), (0, .ref a_m), (1, .int x1)]) hx hb eX10_product_61.2.2.2.2.2.2.2.2.2.2.2.2.2.2.1 rfl hl (by decide) rfl (fun ls hl => ?_)
  refine lv_goto (tgt := 6) hx hb eX10_product_61.2.2.2.2.2.2.2.2.2.2.2.2.2.2.2 (by decide) ?_
  exact hK6 x1 k0 uW eY H locs ls hp hP hD hS (lv_sub hl [1, 2, 0] rfl)
noncomputable def ws_X10_product_45 (WT WH : TY_X10) (post : Int32 → Int32 → Int32 → Prop) (K6 : Int32 → Int32 → Int32 → Int32 → Prop) (jY : Nat) (m_length qG dN aR aE bJ aW : Int32) (m_x jA pY oY pR rG rQ : Nat → Int32) (x1 x2 k0 uW eY : Int32) : Prop := ∀ v_7 : Int32, v_7 = uW + 1 → wp_X10_thing WT WH (fun r_8 aAb yJ => (k0 = 0 → (¬ r_8 = 0 → ¬ r_8 = 0 ∧ (∀ v_11 : Int32, v_11 = x2 / r_8 → ws_X10_product_87 WT WH post K6 jY m_length qG dN aR aE bJ aW m_x jA pY oY pR rG rQ x1 v_11 aAb yJ)) ∧ (r_8 = 0 → ws_X10_product_87 WT WH post K6 jY m_length qG dN aR aE bJ aW m_x jA pY oY pR rG rQ x1 0 aAb yJ)) ∧ (¬ k0 = 0 → ∀ v_12 : Int32, v_12 = x2 * r_8 → ws_X10_product_87 WT WH post K6 jY m_length qG dN aR aE bJ aW m_x jA pY oY pR rG rQ x1 v_12 aAb yJ)) x1 jY m_length qG v_7 eY dN aR aE bJ aW m_x jA pY oY pR rG rQ
set_option maxHeartbeats 4000000 in
set_option maxRecDepth 100000 in
theorem ks_X10_product_45 (C0 : gc cX10_product (some .int) 5 RX10 (dC, dI) (tyl cI cC cZ cB cJ) A p s m args meth c) (hT : CT_X10_thing l WT (6 * rn - 3) (200 * rn - 136)) (hH : CT_X10_held l WH (6 * rn) (200 * rn - 65)) {K6 : Int32 → Int32 → Int32 → Int32 → Prop} (hK6 : ∀ (x1 : Int32) (x2 : Int32) (uW : Int32) (eY : Int32) (H : Heap) (locs : List Loc) (ls : Array Slot), K6 x1 x2 uW eY → va_P (dC, dI) classes (wd_X10_product cI cC cZ cB cJ a_m oJ uD dY iJ lJ jQ jR jW jK pJ bM aY jO gR gY mK jZ iY bG mJ jB mQ lY eJ bY bW aG jG bQ dG jY m_length qG uW eY aJ aB bU dN aR aE bJ aW bT gJ dU bL bR bO mY pW m_x jA pY oY pR rG rQ) H → va_D A (wd_X10_product cI cC cZ cB cJ a_m oJ uD dY iJ lJ jQ jR jW jK pJ bM aY jO gR gY mK jZ iY bG mJ jB mQ lY eJ bY bW aG jG bQ dG jY m_length qG uW eY aJ aB bU dN aR aE bJ aW bT gJ dU bL bR bO mY pW m_x jA pY oY pR rG rQ) → va_S A s.heap H locs → lv_has ls 5 [(0, .ref a_m), (1, .int x1), (2, .int x2)] → W p l e (rm_X10_product rn) s m args below meth c H locs 0 0 (MQ below (q_X10_product dC dI cI cC cZ cB cJ A a_m oJ uD dY iJ lJ jQ jR jW jK pJ bM aY jO gR gY mK jZ iY bG mJ jB mQ lY eJ bY bW aG jG bQ dG jY m_length qG aJ aB bU dN aR aE bJ aW bT gJ dU bL bR bO mY pW m_x jA pY oY pR rG rQ post) args s 0 0 A) (F0 m 6 ls [])) : ∀ (x1 x2 k0 uW eY : Int32) (H : Heap) (locs : List Loc) (ls : Array Slot), (ws_X10_product_45 WT WH post K6 jY m_length qG dN aR aE bJ aW m_x jA pY oY pR rG rQ) x1 x2 k0 uW eY → va_P (dC, dI) classes (wd_X10_product cI cC cZ cB cJ a_m oJ uD dY iJ lJ jQ jR jW jK pJ bM aY jO gR gY mK jZ iY bG mJ jB mQ lY eJ bY bW aG jG bQ dG jY m_length qG uW eY aJ aB bU dN aR aE bJ aW bT gJ dU bL bR bO mY pW m_x jA pY oY pR rG rQ) H → va_D A (wd_X10_product cI cC cZ cB cJ a_m oJ uD dY iJ lJ jQ jR jW jK pJ bM aY jO gR gY mK jZ iY bG mJ jB mQ lY eJ bY bW aG jG bQ dG jY m_length qG uW eY aJ aB bU dN aR aE bJ aW bT gJ dU bL bR bO mY pW m_x jA pY oY pR rG rQ) → va_S A s.heap H locs → lv_has ls 5 [(0, .ref a_m), (1, .int x1), (2, .int x2)] → W p l e (rm_X10_product rn) s m args below meth c H locs 0 0 (MQ below (q_X10_product dC dI cI cC cZ cB cJ A a_m oJ uD dY iJ lJ jQ jR jW jK pJ bM aY jO gR gY mK jZ iY bG mJ jB mQ lY eJ bY bW aG jG bQ dG jY m_length qG aJ aB bU dN aR aE bJ aW bT gJ dU bL bR bO mY pW m_x jA pY oY pR rG rQ post) args s 0 0 A) (F0 m 45 ls [.int k0]) := by
  obtain ⟨hx, hb, hr, hml, hown, hts, hlocks, hA, hK, hN, tL, tM, hZL, hTL, hZM, hTM, hZX⟩ := id C0
  intro x1 x2 k0 uW eY H locs ls hp hP hD hS hl
  unfold ws_X10_product_45 at hp
  refine lv_istore_n (lv' := [(3, .int k0), (0, .ref a_m), (1, .int x1), (2, .int x2)]) hx hb eX10_product_32.2.2.2.2.2.2.1 rfl hl (by decide) rfl (fun ls hl => ?_)
  refine lv_aload_n hx hb eX10_product_32.2.2.2.2.2.2.2.1 rfl (lv_at hl 1 rfl) ?_
  refine lv_dup hx hb eX10_product_32.2.2.2.2.2.2.2.2.1 rfl ?_
  refine va_get (D := (dC, dI)) (ci := 10) (v := .int uW) (C := RX10) (T := TX10) (N := 51) hx hb hts i_X10 hown hK hP 0 rfl rfl 18 (Nat.le_of_ble_eq_true rfl) (hts _ q_648) (fun _ h9 => h9) rfl eX10_product_32.2.2.2.2.2.2.2.2.2.1 ?_
  refine lv_iconst (v := 1) hx hb eX10_product_32.2.2.2.2.2.2.2.2.2.2.1 ic_1 ?_
  refine lv_iadd hx hb eX10_product_32.2.2.2.2.2.2.2.2.2.2.2.1 ?_
  refine lv_topi (fun v_7 ev_7 => ?_)
  have hp := hp v_7 ev_7
  refine va_put (D := (dC, dI)) (ci := 10) (v := .int v_7) (ty := .int) (C := RX10) (T := TX10) (N := 51) hx hb hts i_X10 tyX10 tyX10_ok nmX10 hown hK hP hD hS 0 rfl rfl 18 (Nat.le_of_ble_eq_true rfl) (hts _ q_648) (fun _ h9 => h9) rfl (tyX10_ok 18 (Nat.le_of_ble_eq_true rfl)) rfl rfl (Nat.le_of_ble_eq_true rfl) eX10_product_32.2.2.2.2.2.2.2.2.2.2.2.2.1 (fun H locs hP hD hS => ?_)
  have hP : va_P (dC, dI) classes (wd_X10_product cI cC cZ cB cJ a_m oJ uD dY iJ lJ jQ jR jW jK pJ bM aY jO gR gY mK jZ iY bG mJ jB mQ lY eJ bY bW aG jG bQ dG jY m_length qG v_7 eY aJ aB bU dN aR aE bJ aW bT gJ dU bL bR bO mY pW m_x jA pY oY pR rG rQ) H := hP
  have hD : va_D A (wd_X10_product cI cC cZ cB cJ a_m oJ uD dY iJ lJ jQ jR jW jK pJ bM aY jO gR gY mK jZ iY bG mJ jB mQ lY eJ bY bW aG jG bQ dG jY m_length qG v_7 eY aJ aB bU dN aR aE bJ aW bT gJ dU bL bR bO mY pW m_x jA pY oY pR rG rQ) := hD
  refine lv_aload_n hx hb eX10_product_32.2.2.2.2.2.2.2.2.2.2.2.2.2.1 rfl (lv_at hl 1 rfl) ?_
  refine lv_iload_n hx hb eX10_product_32.2.2.2.2.2.2.2.2.2.2.2.2.2.2.1 rfl (lv_at hl 2 rfl) ?_
  have hm := mgk (wc := (wd_X10_thing cI cC cZ cB cJ a_m oJ uD dY iJ lJ jQ jR jW jK pJ bM aY jO gR gY mK jZ iY bG mJ jB mQ lY eJ bY bW aG jG bQ dG jY m_length qG v_7 eY aJ aB bU dN aR aE bJ aW bT gJ dU bL bR bO mY pW m_x jA pY oY pR rG rQ)) hP aAY 8 rfl rfl rfl
  refine g_calli hP hD hS hA (mixT aAY) (mixF aAY) hm.1 hm.2 (nd_F _) (dis_g _) (g_runV (As := [.int x1]) (rest := []) C0 hP hD hS (mixT aAY) hm.1 (nd_T _) 0 10 rfl rfl (c_X10_thing l rn WT WH hT hH dC dI cI cC cZ cB cJ a_m oJ uD dY iJ lJ jQ jR jW jK pJ bM aY jO gR gY mK jZ iY bG mJ jB mQ lY eJ bY H.size x1 bW aG jG bQ dG jY m_length qG v_7 eY aJ aB bU dN aR aE bJ aW bT gJ dU bL bR bO mY pW m_x jA pY oY pR rG rQ _ hp) q_720 q_723 q_721 q_722 q_642 h_X10_thing rfl rfl ⟨(show 6 * rn + 3 + 1 ≤ 6 * rn + 4 by omega), (show 8 + (4 + 11) + (200 * rn + 64) ≤ 200 * rn + 87 by omega)⟩ rfl rfl hl.1 rfl (lv_room (Nat.le_of_ble_eq_true rfl)) eX10_product_32.2.2.2.2.2.2.2.2.2.2.2.2.2.2.2 ⟨Nat.zero_le _, Nat.zero_le _⟩) (fun r_8 u H locs hp hP hD hS => ?_)
  obtain ⟨aAb, yJ⟩ := u
  have hPD := PDm (ws' := (wd_X10_product cI cC cZ cB cJ a_m oJ uD dY iJ lJ jQ jR jW jK pJ bM aY jO gR gY mK jZ iY bG mJ jB mQ lY eJ bY bW aG jG bQ dG jY m_length qG aAb yJ aJ aB bU dN aR aE bJ aW bT gJ dU bL bR bO mY pW m_x jA pY oY pR rG rQ)) hP hD 8 rfl rfl rfl
  have hP := hPD.1
  have hD := hPD.2
  refine lv_istore (lv' := [(4, .int r_8), (3, .int k0), (0, .ref a_m), (1, .int x1), (2, .int x2)]) hx hb eX10_product_61.1 hl (by decide) rfl (fun ls hl => ?_)
  refine lv_iload_n hx hb eX10_product_61.2.1 rfl (lv_at hl 1 rfl) ?_
  refine lv_if_eq (tgt := 74) hx hb eX10_product_61.2.2.1 (by decide) (fun hc => ?_) (fun hc => ?_)
  · have hp := hp.1 hc
    refine lv_iload hx hb eX10_product_61.2.2.2.2.2.2.2.1 (lv_at hl 0 rfl) ?_
    refine lv_if_ne (tgt := 83) hx hb eX10_product_61.2.2.2.2.2.2.2.2.1 (by decide) (fun hc => ?_) (fun hc => ?_)
    · have hp := hp.1 hc
      refine lv_iload_n hx hb eX10_product_61.2.2.2.2.2.2.2.2.2.2.2.1 rfl (lv_at hl 4 rfl) ?_
      refine lv_iload hx hb eX10_product_61.2.2.2.2.2.2.2.2.2.2.2.2.1 (lv_at hl 0 rfl) ?_
      have hne := hp.1
      have hp := hp.2
      refine lv_idiv hx hb eX10_product_61.2.2.2.2.2.2.2.2.2.2.2.2.2.1 hne ?_
      refine lv_topi (fun v_11 ev_11 => ?_)
      have hp := hp v_11 ev_11
      exact ks_X10_product_87 C0 hT hH hK6 x1 v_11 aAb yJ H locs ls hp hP hD hS (lv_sub hl [2, 3] rfl)
    · have hp := hp.2 hc
      refine lv_iconst (v := 0) hx hb eX10_product_61.2.2.2.2.2.2.2.2.2.1 ic_0 ?_
      refine lv_goto (tgt := 87) hx hb eX10_product_61.2.2.2.2.2.2.2.2.2.2.1 (by decide) ?_
      exact ks_X10_product_87 C0 hT hH hK6 x1 0 aAb yJ H locs ls hp hP hD hS (lv_sub hl [2, 3] rfl)
  · have hp := hp.2 hc
    refine lv_iload_n hx hb eX10_product_61.2.2.2.1 rfl (lv_at hl 4 rfl) ?_
    refine lv_iload hx hb eX10_product_61.2.2.2.2.1 (lv_at hl 0 rfl) ?_
    refine lv_imul hx hb eX10_product_61.2.2.2.2.2.1 ?_
    refine lv_topi (fun v_12 ev_12 => ?_)
    have hp := hp v_12 ev_12
    refine lv_goto (tgt := 87) hx hb eX10_product_61.2.2.2.2.2.2.1 (by decide) ?_
    exact ks_X10_product_87 C0 hT hH hK6 x1 v_12 aAb yJ H locs ls hp hP hD hS (lv_sub hl [2, 3] rfl)
noncomputable def ws_X10_product_31 (WT WH : TY_X10) (post : Int32 → Int32 → Int32 → Prop) (K6 : Int32 → Int32 → Int32 → Int32 → Prop) (jY : Nat) (m_length qG dN aR aE bJ aW : Int32) (m_x jA pY oY pR rG rQ : Nat → Int32) (x1 x2 uW eY : Int32) : Prop := wp_X10_here (fun r_6 => (¬ r_6 = 42 → ws_X10_product_45 WT WH post K6 jY m_length qG dN aR aE bJ aW m_x jA pY oY pR rG rQ x1 x2 0 uW eY) ∧ (r_6 = 42 → ws_X10_product_45 WT WH post K6 jY m_length qG dN aR aE bJ aW m_x jA pY oY pR rG rQ x1 x2 1 uW eY)) jY m_length qG uW rG rQ
set_option maxHeartbeats 4000000 in
set_option maxRecDepth 100000 in
theorem ks_X10_product_31 (C0 : gc cX10_product (some .int) 5 RX10 (dC, dI) (tyl cI cC cZ cB cJ) A p s m args meth c) (hT : CT_X10_thing l WT (6 * rn - 3) (200 * rn - 136)) (hH : CT_X10_held l WH (6 * rn) (200 * rn - 65)) {K6 : Int32 → Int32 → Int32 → Int32 → Prop} (hK6 : ∀ (x1 : Int32) (x2 : Int32) (uW : Int32) (eY : Int32) (H : Heap) (locs : List Loc) (ls : Array Slot), K6 x1 x2 uW eY → va_P (dC, dI) classes (wd_X10_product cI cC cZ cB cJ a_m oJ uD dY iJ lJ jQ jR jW jK pJ bM aY jO gR gY mK jZ iY bG mJ jB mQ lY eJ bY bW aG jG bQ dG jY m_length qG uW eY aJ aB bU dN aR aE bJ aW bT gJ dU bL bR bO mY pW m_x jA pY oY pR rG rQ) H → va_D A (wd_X10_product cI cC cZ cB cJ a_m oJ uD dY iJ lJ jQ jR jW jK pJ bM aY jO gR gY mK jZ iY bG mJ jB mQ lY eJ bY bW aG jG bQ dG jY m_length qG uW eY aJ aB bU dN aR aE bJ aW bT gJ dU bL bR bO mY pW m_x jA pY oY pR rG rQ) → va_S A s.heap H locs → lv_has ls 5 [(0, .ref a_m), (1, .int x1), (2, .int x2)] → W p l e (rm_X10_product rn) s m args below meth c H locs 0 0 (MQ below (q_X10_product dC dI cI cC cZ cB cJ A a_m oJ uD dY iJ lJ jQ jR jW jK pJ bM aY jO gR gY mK jZ iY bG mJ jB mQ lY eJ bY bW aG jG bQ dG jY m_length qG aJ aB bU dN aR aE bJ aW bT gJ dU bL bR bO mY pW m_x jA pY oY pR rG rQ post) args s 0 0 A) (F0 m 6 ls [])) : ∀ (x1 x2 uW eY : Int32) (H : Heap) (locs : List Loc) (ls : Array Slot), (ws_X10_product_31 WT WH post K6 jY m_length qG dN aR aE bJ aW m_x jA pY oY pR rG rQ) x1 x2 uW eY → va_P (dC, dI) classes (wd_X10_product cI cC cZ cB cJ a_m oJ uD dY iJ lJ jQ jR jW jK pJ bM aY jO gR gY mK jZ iY bG mJ jB mQ lY eJ bY bW aG jG bQ dG jY m_length qG uW eY aJ aB bU dN aR aE bJ aW bT gJ dU bL bR bO mY pW m_x jA pY oY pR rG rQ) H → va_D A (wd_X10_product cI cC cZ cB cJ a_m oJ uD dY iJ lJ jQ jR jW jK pJ bM aY jO gR gY mK jZ iY bG mJ jB mQ lY eJ bY bW aG jG bQ dG jY m_length qG uW eY aJ aB bU dN aR aE bJ aW bT gJ dU bL bR bO mY pW m_x jA pY oY pR rG rQ) → va_S A s.heap H locs → lv_has ls 5 [(0, .ref a_m), (1, .int x1), (2, .int x2)] → W p l e (rm_X10_product rn) s m args below meth c H locs 0 0 (MQ below (q_X10_product dC dI cI cC cZ cB cJ A a_m oJ uD dY iJ lJ jQ jR jW jK pJ bM aY jO gR gY mK jZ iY bG mJ jB mQ lY eJ bY bW aG jG bQ dG jY m_length qG aJ aB bU dN aR aE bJ aW bT gJ dU bL bR bO mY pW m_x jA pY oY pR rG rQ post) args s 0 0 A) (F0 m 31 ls []) := by
  obtain ⟨hx, hb, hr, hml, hown, hts, hlocks, hA, hK, hN, tL, tM, hZL, hTL, hZM, hTM, hZX⟩ := id C0
  intro x1 x2 uW eY H locs ls hp hP hD hS hl
  unfold ws_X10_product_31 at hp
  refine lv_aload_n hx hb eX10_product_0.2.2.2.2.2.2.2.2.2.2.2.2.2.2.2 rfl (lv_at hl 0 rfl) ?_
  have hm := mgk (wc := (wd_X10_here cI cC cZ cB cJ a_m oJ uD dY iJ lJ jQ jR jW jK pJ bM aY jO gR gY mK jZ iY bG mJ jB mQ lY eJ bY bW aG jG bQ dG jY m_length qG uW eY aJ aB bU dN aR aE bJ aW bT gJ dU bL bR bO mY pW rG rQ)) hP aAt 8 rfl rfl rfl
  refine g_calli hP hD hS hA (mixT aAt) (mixF aAt) hm.1 hm.2 (nd_F _) (dis_g _) (g_runV (As := []) (rest := []) C0 hP hD hS (mixT aAt) hm.1 (nd_T _) 0 10 rfl rfl (c_X10_here l dC dI cI cC cZ cB cJ a_m oJ uD dY iJ lJ jQ jR jW jK pJ bM aY jO gR gY mK jZ iY bG mJ jB mQ lY eJ bY H.size bW aG jG bQ dG jY m_length qG uW eY aJ aB bU dN aR aE bJ aW bT gJ dU bL bR bO mY pW rG rQ _ hp) q_658 q_661 q_659 q_660 q_642 h_X10_here rfl rfl ⟨(show 0 + 1 ≤ 6 * rn + 4 by omega), (show 8 + (1 + 11) + (0) ≤ 200 * rn + 87 by omega)⟩ rfl rfl hl.1 rfl (lv_room (Nat.le_of_ble_eq_true rfl)) eX10_product_32.1 ⟨Nat.zero_le _, Nat.zero_le _⟩) (fun r_6 u H locs hp hP hD hS => ?_)
  have hPD := PDm (ws' := (wd_X10_product cI cC cZ cB cJ a_m oJ uD dY iJ lJ jQ jR jW jK pJ bM aY jO gR gY mK jZ iY bG mJ jB mQ lY eJ bY bW aG jG bQ dG jY m_length qG uW eY aJ aB bU dN aR aE bJ aW bT gJ dU bL bR bO mY pW m_x jA pY oY pR rG rQ)) hP hD 8 rfl rfl rfl
  have hP := hPD.1
  have hD := hPD.2
  refine lv_bipush (v := 42) hx hb eX10_product_32.2.1 bp_42 ?_
  refine lv_icmp_ne (tgt := 44) hx hb eX10_product_32.2.2.1 (by decide) (fun hc => ?_) (fun hc => ?_)
  · have hp := hp.1 hc
    refine lv_iconst (v := 0) hx hb eX10_product_32.2.2.2.2.2.1 ic_0 ?_
    exact ks_X10_product_45 C0 hT hH hK6 x1 x2 0 uW eY H locs ls hp hP hD hS (lv_sub hl [0, 1, 2] rfl)
  · have hp := hp.2 hc
    refine lv_iconst (v := 1) hx hb eX10_product_32.2.2.2.1 ic_1 ?_
    refine lv_goto (tgt := 45) hx hb eX10_product_32.2.2.2.2.1 (by decide) ?_
    exact ks_X10_product_45 C0 hT hH hK6 x1 x2 1 uW eY H locs ls hp hP hD hS (lv_sub hl [0, 1, 2] rfl)
noncomputable def ws_X10_product_6 (WT WH : TY_X10) (post : Int32 → Int32 → Int32 → Prop) (next : Int32 → Int32 → Int32 → Int32 → Prop) (jY : Nat) (m_length qG dN aR aE bJ aW : Int32) (m_x jA pY oY pR rG rQ : Nat → Int32) (x1 x2 uW eY : Int32) : Prop := wp_X10_fine (fun r_4 => (r_4 = 0 → post x2 uW eY) ∧ (¬ r_4 = 0 → wp_X10_here (fun r_5 => (r_5 = 42 → ws_X10_product_31 WT WH post next jY m_length qG dN aR aE bJ aW m_x jA pY oY pR rG rQ x1 x2 uW eY) ∧ (¬ r_5 = 42 → wp_X10_here (fun r_13 => (¬ r_13 = 47 → post x2 uW eY) ∧ (r_13 = 47 → ws_X10_product_31 WT WH post next jY m_length qG dN aR aE bJ aW m_x jA pY oY pR rG rQ x1 x2 uW eY)) jY m_length qG uW rG rQ)) jY m_length qG uW rG rQ)) eY
noncomputable def wb_X10_product_6 (WT WH : TY_X10) (post : Int32 → Int32 → Int32 → Prop) (jY : Nat) (m_length qG dN aR aE bJ aW : Int32) (m_x jA pY oY pR rG rQ : Nat → Int32) : Nat → Int32 → Int32 → Int32 → Int32 → Prop := fun n => Nat.rec (motive := fun _ => Int32 → Int32 → Int32 → Int32 → Prop) (fun _ _ _ _ => False) (fun _ ih => ws_X10_product_6 WT WH post ih jY m_length qG dN aR aE bJ aW m_x jA pY oY pR rG rQ) n
set_option maxHeartbeats 4000000 in
set_option maxRecDepth 100000 in
theorem ks_X10_product_6 (C0 : gc cX10_product (some .int) 5 RX10 (dC, dI) (tyl cI cC cZ cB cJ) A p s m args meth c) (hT : CT_X10_thing l WT (6 * rn - 3) (200 * rn - 136)) (hH : CT_X10_held l WH (6 * rn) (200 * rn - 65)) {next : Int32 → Int32 → Int32 → Int32 → Prop} (hKn : ∀ (x1 : Int32) (x2 : Int32) (uW : Int32) (eY : Int32) (H : Heap) (locs : List Loc) (ls : Array Slot), next x1 x2 uW eY → va_P (dC, dI) classes (wd_X10_product cI cC cZ cB cJ a_m oJ uD dY iJ lJ jQ jR jW jK pJ bM aY jO gR gY mK jZ iY bG mJ jB mQ lY eJ bY bW aG jG bQ dG jY m_length qG uW eY aJ aB bU dN aR aE bJ aW bT gJ dU bL bR bO mY pW m_x jA pY oY pR rG rQ) H → va_D A (wd_X10_product cI cC cZ cB cJ a_m oJ uD dY iJ lJ jQ jR jW jK pJ bM aY jO gR gY mK jZ iY bG mJ jB mQ lY eJ bY bW aG jG bQ dG jY m_length qG uW eY aJ aB bU dN aR aE bJ aW bT gJ dU bL bR bO mY pW m_x jA pY oY pR rG rQ) → va_S A s.heap H locs → lv_has ls 5 [(0, .ref a_m), (1, .int x1), (2, .int x2)] → W p l e (rm_X10_product rn) s m args below meth c H locs 0 0 (MQ below (q_X10_product dC dI cI cC cZ cB cJ A a_m oJ uD dY iJ lJ jQ jR jW jK pJ bM aY jO gR gY mK jZ iY bG mJ jB mQ lY eJ bY bW aG jG bQ dG jY m_length qG aJ aB bU dN aR aE bJ aW bT gJ dU bL bR bO mY pW m_x jA pY oY pR rG rQ post) args s 0 0 A) (F0 m 6 ls [])) : ∀ (x1 x2 uW eY : Int32) (H : Heap) (locs : List Loc) (ls : Array Slot), (ws_X10_product_6 WT WH post next jY m_length qG dN aR aE bJ aW m_x jA pY oY pR rG rQ) x1 x2 uW eY → va_P (dC, dI) classes (wd_X10_product cI cC cZ cB cJ a_m oJ uD dY iJ lJ jQ jR jW jK pJ bM aY jO gR gY mK jZ iY bG mJ jB mQ lY eJ bY bW aG jG bQ dG jY m_length qG uW eY aJ aB bU dN aR aE bJ aW bT gJ dU bL bR bO mY pW m_x jA pY oY pR rG rQ) H → va_D A (wd_X10_product cI cC cZ cB cJ a_m oJ uD dY iJ lJ jQ jR jW jK pJ bM aY jO gR gY mK jZ iY bG mJ jB mQ lY eJ bY bW aG jG bQ dG jY m_length qG uW eY aJ aB bU dN aR aE bJ aW bT gJ dU bL bR bO mY pW m_x jA pY oY pR rG rQ) → va_S A s.heap H locs → lv_has ls 5 [(0, .ref a_m), (1, .int x1), (2, .int x2)] → W p l e (rm_X10_product rn) s m args below meth c H locs 0 0 (MQ below (q_X10_product dC dI cI cC cZ cB cJ A a_m oJ uD dY iJ lJ jQ jR jW jK pJ bM aY jO gR gY mK jZ iY bG mJ jB mQ lY eJ bY bW aG jG bQ dG jY m_length qG aJ aB bU dN aR aE bJ aW bT gJ dU bL bR bO mY pW m_x jA pY oY pR rG rQ post) args s 0 0 A) (F0 m 6 ls []) := by
  obtain ⟨hx, hb, hr, hml, hown, hts, hlocks, hA, hK, hN, tL, tM, hZL, hTL, hZM, hTM, hZX⟩ := id C0
  intro x1 x2 uW eY H locs ls hp hP hD hS hl
  unfold ws_X10_product_6 at hp
  refine lv_aload_n hx hb eX10_product_0.2.2.2.2.1 rfl (lv_at hl 0 rfl) ?_
  have hm := mgk (wc := (wd_X10_fine cI cC cZ cB cJ a_m oJ uD dY iJ lJ jQ jR jW jK pJ bM aY jO gR gY mK jZ iY bG mJ jB mQ lY eJ bY bW aG jG bQ dG jY m_length qG uW eY aJ aB bU dN aR aE bJ aW bT gJ dU bL bR bO mY pW)) hP aBV 8 rfl rfl rfl
  refine g_calli hP hD hS hA (mixT aBV) (mixF aBV) hm.1 hm.2 (nd_F _) (dis_g _) (g_runV (As := []) (rest := []) C0 hP hD hS (mixT aBV) hm.1 (nd_T _) 0 10 rfl rfl (c_X10_fine l dC dI cI cC cZ cB cJ a_m oJ uD dY iJ lJ jQ jR jW jK pJ bM aY jO gR gY mK jZ iY bG mJ jB mQ lY eJ bY H.size bW aG jG bQ dG jY m_length qG uW eY aJ aB bU dN aR aE bJ aW bT gJ dU bL bR bO mY pW _ hp) q_650 q_653 q_651 q_652 q_642 h_X10_fine rfl rfl ⟨(show 0 + 1 ≤ 6 * rn + 4 by omega), (show 8 + (1 + 11) + (0) ≤ 200 * rn + 87 by omega)⟩ rfl rfl hl.1 rfl (lv_room (Nat.le_of_ble_eq_true rfl)) eX10_product_0.2.2.2.2.2.1 ⟨Nat.zero_le _, Nat.zero_le _⟩) (fun r_4 u H locs hp hP hD hS => ?_)
  have hPD := PDm (ws' := (wd_X10_product cI cC cZ cB cJ a_m oJ uD dY iJ lJ jQ jR jW jK pJ bM aY jO gR gY mK jZ iY bG mJ jB mQ lY eJ bY bW aG jG bQ dG jY m_length qG uW eY aJ aB bU dN aR aE bJ aW bT gJ dU bL bR bO mY pW m_x jA pY oY pR rG rQ)) hP hD 8 rfl rfl rfl
  have hP := hPD.1
  have hD := hPD.2
  refine lv_if_eq (tgt := 91) hx hb eX10_product_0.2.2.2.2.2.2.1 (by decide) (fun hc => ?_) (fun hc => ?_)
  · have hp := hp.1 hc
    refine lv_iload_n hx hb eX10_product_91.1 rfl (lv_at hl 2 rfl) ?_
    exact W.iret (v := x2) hx hb hr (fun t ht hW => ⟨⟨x2, (uW, eY), rfl, hp, by rw [ht]; exact hP, va_K.moved hW.alike hK, hD⟩, hS.F ht⟩) hS.2.2 eX10_product_91.2
  · have hp := hp.2 hc
    refine lv_aload_n hx hb eX10_product_0.2.2.2.2.2.2.2.1 rfl (lv_at hl 0 rfl) ?_
    have hm := mgk (wc := (wd_X10_here cI cC cZ cB cJ a_m oJ uD dY iJ lJ jQ jR jW jK pJ bM aY jO gR gY mK jZ iY bG mJ jB mQ lY eJ bY bW aG jG bQ dG jY m_length qG uW eY aJ aB bU dN aR aE bJ aW bT gJ dU bL bR bO mY pW rG rQ)) hP aAt 8 rfl rfl rfl
    refine g_calli hP hD hS hA (mixT aAt) (mixF aAt) hm.1 hm.2 (nd_F _) (dis_g _) (g_runV (As := []) (rest := []) C0 hP hD hS (mixT aAt) hm.1 (nd_T _) 0 10 rfl rfl (c_X10_here l dC dI cI cC cZ cB cJ a_m oJ uD dY iJ lJ jQ jR jW jK pJ bM aY jO gR gY mK jZ iY bG mJ jB mQ lY eJ bY H.size bW aG jG bQ dG jY m_length qG uW eY aJ aB bU dN aR aE bJ aW bT gJ dU bL bR bO mY pW rG rQ _ hp) q_658 q_661 q_659 q_660 q_642 h_X10_here rfl rfl ⟨(show 0 + 1 ≤ 6 * rn + 4 by omega), (show 8 + (1 + 11) + (0) ≤ 200 * rn + 87 by omega)⟩ rfl rfl hl.1 rfl (lv_room (Nat.le_of_ble_eq_true rfl)) eX10_product_0.2.2.2.2.2.2.2.2.1 ⟨Nat.zero_le _, Nat.zero_le _⟩) (fun r_5 u H locs hp hP hD hS => ?_)
    have hPD := PDm (ws' := (wd_X10_product cI cC cZ cB cJ a_m oJ uD dY iJ lJ jQ jR jW jK pJ bM aY jO gR gY mK jZ iY bG mJ jB mQ lY eJ bY bW aG jG bQ dG jY m_length qG uW eY aJ aB bU dN aR aE bJ aW bT gJ dU bL bR bO mY pW m_x jA pY oY pR rG rQ)) hP hD 8 rfl rfl rfl
    have hP := hPD.1
    have hD := hPD.2
    refine lv_bipush (v := 42) hx hb eX10_product_0.2.2.2.2.2.2.2.2.2.1 bp_42 ?_
    refine lv_icmp_eq (tgt := 31) hx hb eX10_product_0.2.2.2.2.2.2.2.2.2.2.1 (by decide) (fun hc => ?_) (fun hc => ?_)
    · have hp := hp.1 hc
      exact ks_X10_product_31 C0 hT hH hKn x1 x2 uW eY H locs ls hp hP hD hS (lv_sub hl [0, 1, 2] rfl)
    · have hp := hp.2 hc
      refine lv_aload_n hx hb eX10_product_0.2.2.2.2.2.2.2.2.2.2.2.1 rfl (lv_at hl 0 rfl) ?_
      have hm := mgk (wc := (wd_X10_here cI cC cZ cB cJ a_m oJ uD dY iJ lJ jQ jR jW jK pJ bM aY jO gR gY mK jZ iY bG mJ jB mQ lY eJ bY bW aG jG bQ dG jY m_length qG uW eY aJ aB bU dN aR aE bJ aW bT gJ dU bL bR bO mY pW rG rQ)) hP aAt 8 rfl rfl rfl
      refine g_calli hP hD hS hA (mixT aAt) (mixF aAt) hm.1 hm.2 (nd_F _) (dis_g _) (g_runV (As := []) (rest := []) C0 hP hD hS (mixT aAt) hm.1 (nd_T _) 0 10 rfl rfl (c_X10_here l dC dI cI cC cZ cB cJ a_m oJ uD dY iJ lJ jQ jR jW jK pJ bM aY jO gR gY mK jZ iY bG mJ jB mQ lY eJ bY H.size bW aG jG bQ dG jY m_length qG uW eY aJ aB bU dN aR aE bJ aW bT gJ dU bL bR bO mY pW rG rQ _ hp) q_658 q_661 q_659 q_660 q_642 h_X10_here rfl rfl ⟨(show 0 + 1 ≤ 6 * rn + 4 by omega), (show 8 + (1 + 11) + (0) ≤ 200 * rn + 87 by omega)⟩ rfl rfl hl.1 rfl (lv_room (Nat.le_of_ble_eq_true rfl)) eX10_product_0.2.2.2.2.2.2.2.2.2.2.2.2.1 ⟨Nat.zero_le _, Nat.zero_le _⟩) (fun r_13 u H locs hp hP hD hS => ?_)
      have hPD := PDm (ws' := (wd_X10_product cI cC cZ cB cJ a_m oJ uD dY iJ lJ jQ jR jW jK pJ bM aY jO gR gY mK jZ iY bG mJ jB mQ lY eJ bY bW aG jG bQ dG jY m_length qG uW eY aJ aB bU dN aR aE bJ aW bT gJ dU bL bR bO mY pW m_x jA pY oY pR rG rQ)) hP hD 8 rfl rfl rfl
      have hP := hPD.1
      have hD := hPD.2
      refine lv_bipush (v := 47) hx hb eX10_product_0.2.2.2.2.2.2.2.2.2.2.2.2.2.1 bp_47 ?_
      refine lv_icmp_ne (tgt := 91) hx hb eX10_product_0.2.2.2.2.2.2.2.2.2.2.2.2.2.2.1 (by decide) (fun hc => ?_) (fun hc => ?_)
      · have hp := hp.1 hc
        refine lv_iload_n hx hb eX10_product_91.1 rfl (lv_at hl 2 rfl) ?_
        exact W.iret (v := x2) hx hb hr (fun t ht hW => ⟨⟨x2, (uW, eY), rfl, hp, by rw [ht]; exact hP, va_K.moved hW.alike hK, hD⟩, hS.F ht⟩) hS.2.2 eX10_product_91.2
      · have hp := hp.2 hc
        exact ks_X10_product_31 C0 hT hH hKn x1 x2 uW eY H locs ls hp hP hD hS (lv_sub hl [0, 1, 2] rfl)
set_option maxHeartbeats 4000000 in
set_option maxRecDepth 100000 in
theorem kb_X10_product_6 (C0 : gc cX10_product (some .int) 5 RX10 (dC, dI) (tyl cI cC cZ cB cJ) A p s m args meth c) (hT : CT_X10_thing l WT (6 * rn - 3) (200 * rn - 136)) (hH : CT_X10_held l WH (6 * rn) (200 * rn - 65)) : ∀ (n : Nat), ∀ (x1 x2 uW eY : Int32) (H : Heap) (locs : List Loc) (ls : Array Slot), (wb_X10_product_6 WT WH post jY m_length qG dN aR aE bJ aW m_x jA pY oY pR rG rQ n) x1 x2 uW eY → va_P (dC, dI) classes (wd_X10_product cI cC cZ cB cJ a_m oJ uD dY iJ lJ jQ jR jW jK pJ bM aY jO gR gY mK jZ iY bG mJ jB mQ lY eJ bY bW aG jG bQ dG jY m_length qG uW eY aJ aB bU dN aR aE bJ aW bT gJ dU bL bR bO mY pW m_x jA pY oY pR rG rQ) H → va_D A (wd_X10_product cI cC cZ cB cJ a_m oJ uD dY iJ lJ jQ jR jW jK pJ bM aY jO gR gY mK jZ iY bG mJ jB mQ lY eJ bY bW aG jG bQ dG jY m_length qG uW eY aJ aB bU dN aR aE bJ aW bT gJ dU bL bR bO mY pW m_x jA pY oY pR rG rQ) → va_S A s.heap H locs → lv_has ls 5 [(0, .ref a_m), (1, .int x1), (2, .int x2)] → W p l e (rm_X10_product rn) s m args below meth c H locs 0 0 (MQ below (q_X10_product dC dI cI cC cZ cB cJ A a_m oJ uD dY iJ lJ jQ jR jW jK pJ bM aY jO gR gY mK jZ iY bG mJ jB mQ lY eJ bY bW aG jG bQ dG jY m_length qG aJ aB bU dN aR aE bJ aW bT gJ dU bL bR bO mY pW m_x jA pY oY pR rG rQ post) args s 0 0 A) (F0 m 6 ls []) := by
  intro n
  induction n with
  | zero =>
    intro x1 x2 uW eY H locs ls hp
    exact False.elim hp
  | succ n ih =>
    intro x1 x2 uW eY H locs ls hp
    exact ks_X10_product_6 C0 hT hH ih x1 x2 uW eY H locs ls hp
end S_X10_product
noncomputable def wp_X10_product (WT WH : TY_X10) (post : Int32 → Int32 → Int32 → Prop) (p0 : Int32) (jY : Nat) (m_length qG uW eY dN aR aE bJ aW : Int32) (m_x jA pY oY pR rG rQ : Nat → Int32) : Prop := wp_X10_thing WT WH (fun r_1 aAT zF => ∃ n : Nat, wb_X10_product_6 WT WH post jY m_length qG dN aR aE bJ aW m_x jA pY oY pR rG rQ n p0 r_1 aAT zF) p0 jY m_length qG uW eY dN aR aE bJ aW m_x jA pY oY pR rG rQ
set_option maxHeartbeats 4000000 in
set_option maxRecDepth 100000 in
theorem c_X10_product (l : Launch) (rn : Nat) (WT WH : TY_X10) (hT : CT_X10_thing l WT (6 * rn - 3) (200 * rn - 136)) (hH : CT_X10_held l WH (6 * rn) (200 * rn - 65)) (dC : Nat → ClassId) (dI : Nat → Nat → Nat) (cI cC cZ cB cJ : ClassId) (a_m oJ uD dY iJ lJ jQ jR jW jK pJ bM aY jO gR gY mK jZ iY bG mJ jB mQ lY eJ bY sz : Nat) (p0 bW aG jG bQ dG : Int32) (jY : Nat) (m_length qG uW eY aJ aB bU dN aR aE bJ aW bT gJ dU bL bR bO mY pW : Int32) (m_x jA pY oY pR rG rQ : Nat → Int32) (post : Int32 → Int32 → Int32 → Prop) (hw : wp_X10_product WT WH post p0 jY m_length qG uW eY dN aR aE bJ aW m_x jA pY oY pR rG rQ) : Met l yX10_product (gw yX10_product cX10_product 5 (some .int)) (rm_X10_product rn) (va_Pc [.ref a_m, .int p0] (gPre (dC, dI) (tyl cI cC cZ cB cJ) (wd_X10_product cI cC cZ cB cJ a_m oJ uD dY iJ lJ jQ jR jW jK pJ bM aY jO gR gY mK jZ iY bG mJ jB mQ lY eJ bY bW aG jG bQ dG jY m_length qG uW eY aJ aB bU dN aR aE bJ aW bT gJ dU bL bR bO mY pW m_x jA pY oY pR rG rQ) sz)) (q_X10_product dC dI cI cC cZ cB cJ (va_A (wd_X10_product cI cC cZ cB cJ a_m oJ uD dY iJ lJ jQ jR jW jK pJ bM aY jO gR gY mK jZ iY bG mJ jB mQ lY eJ bY bW aG jG bQ dG jY m_length qG uW eY aJ aB bU dN aR aE bJ aW bT gJ dU bL bR bO mY pW m_x jA pY oY pR rG rQ) sz) a_m oJ uD dY iJ lJ jQ jR jW jK pJ bM aY jO gR gY mK jZ iY bG mJ jB mQ lY eJ bY bW aG jG bQ dG jY m_length qG aJ aB bU dN aR aE bJ aW bT gJ dU bL bR bO mY pW m_x jA pY oY pR rG rQ post) 0 0 (va_A (wd_X10_product cI cC cZ cB cJ a_m oJ uD dY iJ lJ jQ jR jW jK pJ bM aY jO gR gY mK jZ iY bG mJ jB mQ lY eJ bY bW aG jG bQ dG jY m_length qG uW eY aJ aB bU dN aR aE bJ aW bT gJ dU bL bR bO mY pW m_x jA pY oY pR rG rQ) sz) := by
  refine g_enter (own := RX10) (dC, dI) (tyl cI cC cZ cB cJ) (wd_X10_product cI cC cZ cB cJ a_m oJ uD dY iJ lJ jQ jR jW jK pJ bM aY jO gR gY mK jZ iY bG mJ jB mQ lY eJ bY bW aG jG bQ dG jY m_length qG uW eY aJ aB bU dN aR aE bJ aW bT gJ dU bL bR bO mY pW m_x jA pY oY pR rG rQ) sz [.ref a_m, .int p0] (fun A => q_X10_product dC dI cI cC cZ cB cJ A a_m oJ uD dY iJ lJ jQ jR jW jK pJ bM aY jO gR gY mK jZ iY bG mJ jB mQ lY eJ bY bW aG jG bQ dG jY m_length qG aJ aB bU dN aR aE bJ aW bT gJ dU bL bR bO mY pW m_x jA pY oY pR rG rQ post) pn_RX10 rfl (Nat.le_of_ble_eq_true rfl) ?_
  intro p e s m args below meth c A H locs ls C0 hP hD hS hl
  have hl : lv_has ls 5 [(0, .ref a_m), (1, .int p0)] := hl
  obtain ⟨hx, hb, hr, hml, hown, hts, hlocks, hA, hK, hN, tL, tM, hZL, hTL, hZM, hTM, hZX⟩ := id C0
  have hp := hw
  unfold wp_X10_product at hp
  refine lv_aload_n hx hb eX10_product_0.1 rfl (lv_at hl 0 rfl) ?_
  refine lv_iload_n hx hb eX10_product_0.2.1 rfl (lv_at hl 1 rfl) ?_
  have hm := mgk (wc := (wd_X10_thing cI cC cZ cB cJ a_m oJ uD dY iJ lJ jQ jR jW jK pJ bM aY jO gR gY mK jZ iY bG mJ jB mQ lY eJ bY bW aG jG bQ dG jY m_length qG uW eY aJ aB bU dN aR aE bJ aW bT gJ dU bL bR bO mY pW m_x jA pY oY pR rG rQ)) hP aAY 8 rfl rfl rfl
  refine g_calli hP hD hS hA (mixT aAY) (mixF aAY) hm.1 hm.2 (nd_F _) (dis_g _) (g_runV (As := [.int p0]) (rest := []) C0 hP hD hS (mixT aAY) hm.1 (nd_T _) 0 10 rfl rfl (c_X10_thing l rn WT WH hT hH dC dI cI cC cZ cB cJ a_m oJ uD dY iJ lJ jQ jR jW jK pJ bM aY jO gR gY mK jZ iY bG mJ jB mQ lY eJ bY H.size p0 bW aG jG bQ dG jY m_length qG uW eY aJ aB bU dN aR aE bJ aW bT gJ dU bL bR bO mY pW m_x jA pY oY pR rG rQ _ hp) q_720 q_723 q_721 q_722 q_642 h_X10_thing rfl rfl ⟨(show 6 * rn + 3 + 1 ≤ 6 * rn + 4 by omega), (show 8 + (4 + 11) + (200 * rn + 64) ≤ 200 * rn + 87 by omega)⟩ rfl rfl hl.1 rfl (lv_room (Nat.le_of_ble_eq_true rfl)) eX10_product_0.2.2.1 ⟨Nat.zero_le _, Nat.zero_le _⟩) (fun r_1 u H locs hp hP hD hS => ?_)
  obtain ⟨aAT, zF⟩ := u
  have hPD := PDm (ws' := (wd_X10_product cI cC cZ cB cJ a_m oJ uD dY iJ lJ jQ jR jW jK pJ bM aY jO gR gY mK jZ iY bG mJ jB mQ lY eJ bY bW aG jG bQ dG jY m_length qG aAT zF aJ aB bU dN aR aE bJ aW bT gJ dU bL bR bO mY pW m_x jA pY oY pR rG rQ)) hP hD 8 rfl rfl rfl
  have hP := hPD.1
  have hD := hPD.2
  refine lv_istore_n (lv' := [(2, .int r_1), (0, .ref a_m), (1, .int p0)]) hx hb eX10_product_0.2.2.2.1 rfl hl (by decide) rfl (fun ls hl => ?_)
  obtain ⟨n9, hp⟩ := hp
  exact kb_X10_product_6 C0 hT hH n9 p0 r_1 aAT zF H locs ls hp hP hD hS (lv_sub hl [1, 2, 0] rfl)
