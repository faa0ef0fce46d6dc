noncomputable abbrev wd_X9_tell__ (cI cC cZ cB cJ : ClassId) (a_x xG xD wY wJ wQ xI xK xJ tW qT : Nat) (qF : Int32) (jJ : Nat → Int32) : va_W := [(a_x, .inr (9, [.ref xG, .ref xD, .ref wY, .ref wJ, .ref wQ, .ref xI, .ref xK, .ref xJ, .ref tW])), (xK, .inr (6, [.ref qT, .int qF])), (qT, .inl (cI, 16, .inl jJ))]
noncomputable abbrev q_X9_tell__ (dC : Nat → ClassId) (dI : Nat → Nat → Nat) (cI cC cZ cB cJ : ClassId) (A : Nat → Prop) (a_x xG xD wY wJ wQ xI xK xJ tW qT : Nat) (post : Int32 → (Nat → Int32) → Prop) : Array Value → State → Outcome → State → Prop := va_Qv (fun (u : Int32 × (Nat → Int32)) => post u.1 u.2) (fun u t => gB (dC, dI) (tyl cI cC cZ cB cJ) A (wd_X9_tell__ cI cC cZ cB cJ a_x xG xD wY wJ wQ xI xK xJ tW qT u.1 u.2) t) A
noncomputable abbrev rm_X9_tell__ : Room := { frames := 3, cells := 0, slots := 0, locals := 64 }
noncomputable def wp_X9_tell__ (post : Int32 → (Nat → Int32) → Prop) (p0 p1 p2 qF : Int32) (jJ : Nat → Int32) : Prop := wp_X9_tell_ (fun aAa aB0 => wp_X6_add (fun aAq zE => post aAq zE) p2 aAa aB0) p0 p1 qF jJ
set_option maxHeartbeats 4000000 in
set_option maxRecDepth 100000 in
theorem c_X9_tell__ (l : Launch) (dC : Nat → ClassId) (dI : Nat → Nat → Nat) (cI cC cZ cB cJ : ClassId) (a_x xG xD wY wJ wQ xI xK xJ tW qT sz : Nat) (p0 p1 p2 qF : Int32) (jJ : Nat → Int32) (post : Int32 → (Nat → Int32) → Prop) (hw : wp_X9_tell__ post p0 p1 p2 qF jJ) : Met l yX9_tell__ (gw yX9_tell__ cX9_tell__ 4 none) rm_X9_tell__ (va_Pc [.ref a_x, .int p0, .int p1, .int p2] (gPre (dC, dI) (tyl cI cC cZ cB cJ) (wd_X9_tell__ cI cC cZ cB cJ a_x xG xD wY wJ wQ xI xK xJ tW qT qF jJ) sz)) (q_X9_tell__ dC dI cI cC cZ cB cJ (va_A (wd_X9_tell__ cI cC cZ cB cJ a_x xG xD wY wJ wQ xI xK xJ tW qT qF jJ) sz) a_x xG xD wY wJ wQ xI xK xJ tW qT post) 0 0 (va_A (wd_X9_tell__ cI cC cZ cB cJ a_x xG xD wY wJ wQ xI xK xJ tW qT qF jJ) sz) := by
  refine g_enter (own := RX9) (dC, dI) (tyl cI cC cZ cB cJ) (wd_X9_tell__ cI cC cZ cB cJ a_x xG xD wY wJ wQ xI xK xJ tW qT qF jJ) sz [.ref a_x, .int p0, .int p1, .int p2] (fun A => q_X9_tell__ dC dI cI cC cZ cB cJ A a_x xG xD wY wJ wQ xI xK xJ tW qT post) pn_RX9 rfl (Nat.le_of_ble_eq_true rfl) ?_
  intro p e s m args below meth c A H locs ls C0 hP hD hS hl
  have hl : lv_has ls 4 [(0, .ref a_x), (1, .int p0), (2, .int p1), (3, .int p2)] := hl
  obtain ⟨hx, hb, hr, hml, hown, hts, hlocks, hA, hK, hN, tL, tM, hZL, hTL, hZM, hTM, hZX⟩ := id C0
  have hp := hw
  unfold wp_X9_tell__ at hp
  refine lv_aload_n hx hb eX9_tell___0.1 rfl (lv_at hl 0 rfl) ?_
  refine lv_iload_n hx hb eX9_tell___0.2.1 rfl (lv_at hl 1 rfl) ?_
  refine lv_iload_n hx hb eX9_tell___0.2.2.1 rfl (lv_at hl 2 rfl) ?_
  have hm := mgk (wc := (wd_X9_tell_ cI cC cZ cB cJ a_x xG xD wY wJ wQ xI xK xJ tW qT qF jJ)) hP aBD 3 rfl rfl rfl
  refine g_callv hP hD hS hA (mixT aBD) (mixF aBD) hm.1 hm.2 (nd_F _) (dis_g _) (g_runV (As := [.int p0, .int p1]) (rest := []) C0 hP hD hS (mixT aBD) hm.1 (nd_T _) 0 9 rfl rfl (c_X9_tell_ l dC dI cI cC cZ cB cJ a_x xG xD wY wJ wQ xI xK xJ tW qT H.size p0 p1 qF jJ _ hp) q_377 q_380 q_378 q_379 q_256 h_X9_tell_ rfl rfl ⟨Nat.le_of_ble_eq_true rfl, Nat.le_of_ble_eq_true rfl⟩ rfl rfl hl.1 rfl (lv_room (Nat.le_of_ble_eq_true rfl)) eX9_tell___0.2.2.2.1 ⟨Nat.zero_le _, Nat.zero_le _⟩) (fun u H locs hp hP hD hS => ?_)
  obtain ⟨aAa, aB0⟩ := u
  have hPD := PDm (ws' := (wd_X9_tell__ cI cC cZ cB cJ a_x xG xD wY wJ wQ xI xK xJ tW qT aAa aB0)) hP hD 3 rfl rfl rfl
  have hP := hPD.1
  have hD := hPD.2
  refine lv_aload_n hx hb eX9_tell___0.2.2.2.2.1 rfl (lv_at hl 0 rfl) ?_
  refine va_get (D := (dC, dI)) (ci := 9) (v := .ref xK) (C := RX9) (T := TX9) (N := 9) hx hb hts i_X9 hown hK hP 0 rfl rfl 6 (Nat.le_of_ble_eq_true rfl) (hts _ q_363) (fun _ h9 => h9) rfl eX9_tell___0.2.2.2.2.2.1 ?_
  refine lv_iload_n hx hb eX9_tell___0.2.2.2.2.2.2.1 rfl (lv_at hl 3 rfl) ?_
  have hm := mgk (wc := (wd_X6_add cI cC cZ cB cJ xK qT aAa aB0)) hP mk_0 3 rfl rfl rfl
  refine g_callv hP hD hS hA (mixT mk_0) (mixF mk_0) hm.1 hm.2 (nd_F _) (dis_g _) (g_runV (As := [.int p2]) (rest := []) C0 hP hD hS (mixT mk_0) hm.1 (nd_T _) 1 6 rfl rfl (c_X6_add l dC dI cI cC cZ cB cJ xK qT H.size p2 aAa aB0 _ hp) q_369 q_372 q_370 q_371 q_365 h_X6_add rfl rfl ⟨Nat.le_of_ble_eq_true rfl, Nat.le_of_ble_eq_true rfl⟩ rfl rfl hl.1 rfl (lv_room (Nat.le_of_ble_eq_true rfl)) eX9_tell___0.2.2.2.2.2.2.2.1 ⟨Nat.zero_le _, Nat.zero_le _⟩) (fun u H locs hp hP hD hS => ?_)
  obtain ⟨aAq, zE⟩ := u
  have hPD := PDm (ws' := (wd_X9_tell__ cI cC cZ cB cJ a_x xG xD wY wJ wQ xI xK xJ tW qT aAq zE)) hP hD 3 rfl rfl rfl
  have hP := hPD.1
  have hD := hPD.2
  exact W.vret hx hb hr (fun t ht hW => ⟨⟨(aAq, zE), rfl, hp, by rw [ht]; exact hP, va_K.moved hW.alike hK, hD⟩, hS.F ht⟩) hS.2.2 eX9_tell___0.2.2.2.2.2.2.2.2
noncomputable abbrev wd_X9_work (cI cC cZ cB cJ : ClassId) (a_x xG xD wY wJ wQ xI xK xJ tW uE qU uJ uL uI xH tX jE mX pD oO oQ eG uS sW uR qY sY qT : Nat) (oX rJ pN rP : Int32) (rX rO vI : Nat → Int32) (bZ bD bI aI : Int32) (wD gF pE qA nJ nY dQ : Nat → Int32) (jC eO eW dO fJ fY jD nG pG qB sH uP pQ mW : Int32) (qO qQ oF : Nat → Int32) (qF : Int32) (jJ : Nat → Int32) : va_W := [(a_x, .inr (9, [.ref xG, .ref xD, .ref wY, .ref wJ, .ref wQ, .ref xI, .ref xK, .ref xJ, .ref tW])), (xD, .inr (5, [.ref wY, .ref wJ, .ref uE, .ref qU, .ref uJ, .ref uL, .ref uI, .int oX, .int rJ, .int pN, .int rP])), (uE, .inl (cI, 8, .inl rX)), (qU, .inl (cI, 128, .inl rO)), (uJ, .inl (cI, 8, .inl vI)), (wY, .inr (0, [.ref wJ, .ref wQ, .ref xH])), (wJ, .inr (3, [.ref tX, .ref jE, .ref mX, .ref pD, .ref oO, .ref oQ, .ref eG, .int bZ, .int bD, .int bI, .int aI])), (tX, .inl (cI, 16, .inl wD)), (jE, .inl (cI, 16, .inl gF)), (mX, .inl (cI, 16, .inl pE)), (pD, .inl (cI, 16, .inl qA)), (oO, .inl (cI, 8, .inl nJ)), (oQ, .inl (cI, 8, .inl nY)), (eG, .inl (cI, 5, .inl dQ)), (wQ, .inr (2, [.int jC, .int eO, .int eW, .int dO, .int fJ, .int fY, .int jD, .int nG])), (xH, .inr (7, [.ref uS, .ref sW, .ref uR, .ref qY, .ref sY, .int pG, .int qB, .int sH, .int uP, .int pQ, .int mW])), (uS, .inl (cI, 7, .inl qO)), (uR, .inl (cI, 40, .inl qQ)), (qY, .inl (cI, 40, .inl oF)), (xK, .inr (6, [.ref qT, .int qF])), (qT, .inl (cI, 16, .inl jJ))]
noncomputable abbrev q_X9_work (dC : Nat → ClassId) (dI : Nat → Nat → Nat) (cI cC cZ cB cJ : ClassId) (A : Nat → Prop) (a_x xG xD wY wJ wQ xI xK xJ tW uE qU uJ uL uI xH tX jE mX pD oO oQ eG uS sW uR qY sY qT : Nat) (bZ bD bI aI : Int32) (wD gF pE qA nJ nY dQ : Nat → Int32) (jC eO eW dO fJ fY jD nG pG qB sH uP pQ mW : Int32) (oF : Nat → Int32) (post : Int32 → Int32 → Int32 → Int32 → Int32 → (Nat → Int32) → (Nat → Int32) → (Nat → Int32) → (Nat → Int32) → (Nat → Int32) → Int32 → (Nat → Int32) → Prop) : Array Value → State → Outcome → State → Prop := va_Qi (fun (r : Int32) (u : Int32 × Int32 × Int32 × Int32 × (Nat → Int32) × (Nat → Int32) × (Nat → Int32) × (Nat → Int32) × (Nat → Int32) × Int32 × (Nat → Int32)) => post r u.1 u.2.1 u.2.2.1 u.2.2.2.1 u.2.2.2.2.1 u.2.2.2.2.2.1 u.2.2.2.2.2.2.1 u.2.2.2.2.2.2.2.1 u.2.2.2.2.2.2.2.2.1 u.2.2.2.2.2.2.2.2.2.1 u.2.2.2.2.2.2.2.2.2.2) (fun u t => gB (dC, dI) (tyl cI cC cZ cB cJ) A (wd_X9_work cI cC cZ cB cJ a_x xG xD wY wJ wQ xI xK xJ tW uE qU uJ uL uI xH tX jE mX pD oO oQ eG uS sW uR qY sY qT u.1 u.2.1 u.2.2.1 u.2.2.2.1 u.2.2.2.2.1 u.2.2.2.2.2.1 u.2.2.2.2.2.2.1 bZ bD bI aI wD gF pE qA nJ nY dQ jC eO eW dO fJ fY jD nG pG qB sH uP pQ mW u.2.2.2.2.2.2.2.1 u.2.2.2.2.2.2.2.2.1 oF u.2.2.2.2.2.2.2.2.2.1 u.2.2.2.2.2.2.2.2.2.2) t) A
noncomputable abbrev rm_X9_work : Room := { frames := 5, cells := 0, slots := 0, locals := 115 }
noncomputable def wp_X9_work (post : Int32 → Int32 → Int32 → Int32 → Int32 → (Nat → Int32) → (Nat → Int32) → (Nat → Int32) → (Nat → Int32) → (Nat → Int32) → Int32 → (Nat → Int32) → Prop) (p0 oX rJ pN rP : Int32) (rX rO vI : Nat → Int32) (bZ bD : Int32) (wD gF pE qA nJ nY dQ : Nat → Int32) (jC eO eW dO fJ fY jD pG : Int32) (qO qQ oF : Nat → Int32) (qF : Int32) (jJ : Nat → Int32) : Prop := wp_X3_areStandings (fun r_1 => (¬ r_1 = 0 → wp_X5_look (fun xR yA => wp_X5_timeAll (fun aDo aCY aCZ => wp_X5_workSeconds (fun r_7 aB5 aBb aBw aF5 => wp_X9_tell__ (fun ro_size_12 ro_numbers_13 => post r_7 xR aB5 aBb aBw yA aDo aF5 aCY aCZ ro_size_12 ro_numbers_13) aB5 aBb aBw qF jJ) p0 xR rJ pN rP yA aDo vI bZ bD nJ nY dQ fJ) xR yA rO bZ bD wD gF pE nJ nY dO pG qO qQ oF) oX rX bZ bD wD gF qA nJ nY dQ jC eO eW fY jD) ∧ (r_1 = 0 → post (-1) oX rJ pN rP rX rO vI qO qQ qF jJ)) p0 bD
set_option maxHeartbeats 4000000 in
set_option maxRecDepth 100000 in
theorem c_X9_work (l : Launch) (dC : Nat → ClassId) (dI : Nat → Nat → Nat) (cI cC cZ cB cJ : ClassId) (a_x xG xD wY wJ wQ xI xK xJ tW uE qU uJ uL uI xH tX jE mX pD oO oQ eG uS sW uR qY sY qT sz : Nat) (p0 oX rJ pN rP : Int32) (rX rO vI : Nat → Int32) (bZ bD bI aI : Int32) (wD gF pE qA nJ nY dQ : Nat → Int32) (jC eO eW dO fJ fY jD nG pG qB sH uP pQ mW : Int32) (qO qQ oF : Nat → Int32) (qF : Int32) (jJ : Nat → Int32) (post : Int32 → Int32 → Int32 → Int32 → Int32 → (Nat → Int32) → (Nat → Int32) → (Nat → Int32) → (Nat → Int32) → (Nat → Int32) → Int32 → (Nat → Int32) → Prop) (hw : wp_X9_work post p0 oX rJ pN rP rX rO vI bZ bD wD gF pE qA nJ nY dQ jC eO eW dO fJ fY jD pG qO qQ oF qF jJ) : Met l yX9_work (gw yX9_work cX9_work 3 (some .int)) rm_X9_work (va_Pc [.ref a_x, .int p0] (gPre (dC, dI) (tyl cI cC cZ cB cJ) (wd_X9_work cI cC cZ cB cJ a_x xG xD wY wJ wQ xI xK xJ tW uE qU uJ uL uI xH tX jE mX pD oO oQ eG uS sW uR qY sY qT oX rJ pN rP rX rO vI bZ bD bI aI wD gF pE qA nJ nY dQ jC eO eW dO fJ fY jD nG pG qB sH uP pQ mW qO qQ oF qF jJ) sz)) (q_X9_work dC dI cI cC cZ cB cJ (va_A (wd_X9_work cI cC cZ cB cJ a_x xG xD wY wJ wQ xI xK xJ tW uE qU uJ uL uI xH tX jE mX pD oO oQ eG uS sW uR qY sY qT oX rJ pN rP rX rO vI bZ bD bI aI wD gF pE qA nJ nY dQ jC eO eW dO fJ fY jD nG pG qB sH uP pQ mW qO qQ oF qF jJ) sz) a_x xG xD wY wJ wQ xI xK xJ tW uE qU uJ uL uI xH tX jE mX pD oO oQ eG uS sW uR qY sY qT bZ bD bI aI wD gF pE qA nJ nY dQ jC eO eW dO fJ fY jD nG pG qB sH uP pQ mW oF post) 0 0 (va_A (wd_X9_work cI cC cZ cB cJ a_x xG xD wY wJ wQ xI xK xJ tW uE qU uJ uL uI xH tX jE mX pD oO oQ eG uS sW uR qY sY qT oX rJ pN rP rX rO vI bZ bD bI aI wD gF pE qA nJ nY dQ jC eO eW dO fJ fY jD nG pG qB sH uP pQ mW qO qQ oF qF jJ) sz) := by
  refine g_enter (own := RX9) (dC, dI) (tyl cI cC cZ cB cJ) (wd_X9_work cI cC cZ cB cJ a_x xG xD wY wJ wQ xI xK xJ tW uE qU uJ uL uI xH tX jE mX pD oO oQ eG uS sW uR qY sY qT oX rJ pN rP rX rO vI bZ bD bI aI wD gF pE qA nJ nY dQ jC eO eW dO fJ fY jD nG pG qB sH uP pQ mW qO qQ oF qF jJ) sz [.ref a_x, .int p0] (fun A => q_X9_work dC dI cI cC cZ cB cJ A a_x xG xD wY wJ wQ xI xK xJ tW uE qU uJ uL uI xH tX jE mX pD oO oQ eG uS sW uR qY sY qT bZ bD bI aI wD gF pE qA nJ nY dQ jC eO eW dO fJ fY jD nG pG qB sH uP pQ mW oF post) pn_RX9 rfl (Nat.le_of_ble_eq_true rfl) ?_
  intro p e s m args below meth c A H locs ls C0 hP hD hS hl
  have hl : lv_has ls 3 [(0, .ref a_x), (1, .int p0)] := hl
  obtain ⟨hx, hb, hr, hml, hown, hts, hlocks, hA, hK, hN, tL, tM, hZL, hTL, hZM, hTM, hZX⟩ := id C0
  have hp := hw
  unfold wp_X9_work at hp
  refine lv_aload_n hx hb eX9_work_0.1 rfl (lv_at hl 0 rfl) ?_
  refine va_get (D := (dC, dI)) (ci := 9) (v := .ref wJ) (C := RX9) (T := TX9) (N := 9) hx hb hts i_X9 hown hK hP 0 rfl rfl 3 (Nat.le_of_ble_eq_true rfl) (hts _ q_74) (fun _ h9 => h9) rfl eX9_work_0.2.1 ?_
  refine lv_iload_n hx hb eX9_work_0.2.2.1 rfl (lv_at hl 1 rfl) ?_
  have hm := mgk (wc := (wd_X3_areStandings cI cC cZ cB cJ wJ tX jE mX pD oO oQ eG bZ bD bI aI)) hP mk_142 21 rfl rfl rfl
  refine g_calli hP hD hS hA (mixT mk_142) (mixF mk_142) hm.1 hm.2 (nd_F _) (dis_g _) (g_runV (As := [.int p0]) (rest := []) C0 hP hD hS (mixT mk_142) hm.1 (nd_T _) 6 3 rfl rfl (c_X3_areStandings l dC dI cI cC cZ cB cJ wJ tX jE mX pD oO oQ eG H.size p0 bZ bD bI aI _ hp) q_483 q_486 q_484 q_485 q_48 h_X3_areStandings rfl rfl ⟨Nat.le_of_ble_eq_true rfl, Nat.le_of_ble_eq_true rfl⟩ rfl rfl hl.1 rfl (lv_room (Nat.le_of_ble_eq_true rfl)) eX9_work_0.2.2.2.1 ⟨Nat.zero_le _, Nat.zero_le _⟩) (fun r_1 u H locs hp hP hD hS => ?_)
  have hPD := PDm (ws' := (wd_X9_work cI cC cZ cB cJ a_x xG xD wY wJ wQ xI xK xJ tW uE qU uJ uL uI xH tX jE mX pD oO oQ eG uS sW uR qY sY qT oX rJ pN rP rX rO vI bZ bD bI aI wD gF pE qA nJ nY dQ jC eO eW dO fJ fY jD nG pG qB sH uP pQ mW qO qQ oF qF jJ)) hP hD 21 rfl rfl rfl
  have hP := hPD.1
  have hD := hPD.2
  refine lv_if_ne (tgt := 13) hx hb eX9_work_0.2.2.2.2.1 (by decide) (fun hc => ?_) (fun hc => ?_)
  · have hp := hp.1 hc
    refine lv_aload_n hx hb eX9_work_0.2.2.2.2.2.2.2.1 rfl (lv_at hl 0 rfl) ?_
    refine va_get (D := (dC, dI)) (ci := 9) (v := .ref xD) (C := RX9) (T := TX9) (N := 9) hx hb hts i_X9 hown hK hP 0 rfl rfl 1 (Nat.le_of_ble_eq_true rfl) (hts _ q_444) (fun _ h9 => h9) rfl eX9_work_0.2.2.2.2.2.2.2.2.1 ?_
    have hm := mgk (wc := (wd_X5_look cI cC cZ cB cJ xD wY wJ uE qU uJ uL uI wQ xH tX jE mX pD oO oQ eG oX rJ pN rP rX bZ bD bI aI wD gF qA nJ nY dQ jC eO eW dO fJ fY jD nG)) hP mk_143 21 rfl rfl rfl
    refine g_callv hP hD hS hA (mixT mk_143) (mixF mk_143) hm.1 hm.2 (nd_F _) (dis_g _) (g_runV (As := []) (rest := []) C0 hP hD hS (mixT mk_143) hm.1 (nd_T _) 1 5 rfl rfl (c_X5_look l dC dI cI cC cZ cB cJ xD wY wJ uE qU uJ uL uI wQ xH tX jE mX pD oO oQ eG H.size oX rJ pN rP rX bZ bD bI aI wD gF qA nJ nY dQ jC eO eW dO fJ fY jD nG _ hp) q_445 q_448 q_446 q_447 q_431 h_X5_look rfl rfl ⟨Nat.le_of_ble_eq_true rfl, Nat.le_of_ble_eq_true rfl⟩ rfl rfl hl.1 rfl (lv_room (Nat.le_of_ble_eq_true rfl)) eX9_work_0.2.2.2.2.2.2.2.2.2.1 ⟨Nat.zero_le _, Nat.zero_le _⟩) (fun u H locs hp hP hD hS => ?_)
    obtain ⟨xR, yA⟩ := u
    have hPD := PDm (ws' := (wd_X9_work cI cC cZ cB cJ a_x xG xD wY wJ wQ xI xK xJ tW uE qU uJ uL uI xH tX jE mX pD oO oQ eG uS sW uR qY sY qT xR rJ pN rP yA rO vI bZ bD bI aI wD gF pE qA nJ nY dQ jC eO eW dO fJ fY jD nG pG qB sH uP pQ mW qO qQ oF qF jJ)) hP hD 21 rfl rfl rfl
    have hP := hPD.1
    have hD := hPD.2
    refine lv_aload_n hx hb eX9_work_0.2.2.2.2.2.2.2.2.2.2.1 rfl (lv_at hl 0 rfl) ?_
    refine va_get (D := (dC, dI)) (ci := 9) (v := .ref xD) (C := RX9) (T := TX9) (N := 9) hx hb hts i_X9 hown hK hP 0 rfl rfl 1 (Nat.le_of_ble_eq_true rfl) (hts _ q_444) (fun _ h9 => h9) rfl eX9_work_0.2.2.2.2.2.2.2.2.2.2.2.1 ?_
    have hm := mgk (wc := (wd_X5_timeAll cI cC cZ cB cJ xD wY wJ uE qU uJ uL uI wQ xH tX jE mX pD oO oQ eG uS sW uR qY sY xR rJ pN rP yA rO bZ bD bI aI wD gF pE nJ nY jC eO eW dO fJ fY jD nG pG qB sH uP pQ mW qO qQ oF)) hP mk_144 21 rfl rfl rfl
    refine g_callv hP hD hS hA (mixT mk_144) (mixF mk_144) hm.1 hm.2 (nd_F _) (dis_g _) (g_runV (As := []) (rest := []) C0 hP hD hS (mixT mk_144) hm.1 (nd_T _) 1 5 rfl rfl (c_X5_timeAll l dC dI cI cC cZ cB cJ xD wY wJ uE qU uJ uL uI wQ xH tX jE mX pD oO oQ eG uS sW uR qY sY H.size xR rJ pN rP yA rO bZ bD bI aI wD gF pE nJ nY jC eO eW dO fJ fY jD nG pG qB sH uP pQ mW qO qQ oF _ hp) q_524 q_527 q_525 q_526 q_431 h_X5_timeAll rfl rfl ⟨Nat.le_of_ble_eq_true rfl, Nat.le_of_ble_eq_true rfl⟩ rfl rfl hl.1 rfl (lv_room (Nat.le_of_ble_eq_true rfl)) eX9_work_0.2.2.2.2.2.2.2.2.2.2.2.2.1 ⟨Nat.zero_le _, Nat.zero_le _⟩) (fun u H locs hp hP hD hS => ?_)
    obtain ⟨aDo, aCY, aCZ⟩ := u
    have hPD := PDm (ws' := (wd_X9_work cI cC cZ cB cJ a_x xG xD wY wJ wQ xI xK xJ tW uE qU uJ uL uI xH tX jE mX pD oO oQ eG uS sW uR qY sY qT xR rJ pN rP yA aDo vI bZ bD bI aI wD gF pE qA nJ nY dQ jC eO eW dO fJ fY jD nG pG qB sH uP pQ mW aCY aCZ oF qF jJ)) hP hD 21 rfl rfl rfl
    have hP := hPD.1
    have hD := hPD.2
    refine lv_aload_n hx hb eX9_work_0.2.2.2.2.2.2.2.2.2.2.2.2.2.1 rfl (lv_at hl 0 rfl) ?_
    refine va_get (D := (dC, dI)) (ci := 9) (v := .ref xD) (C := RX9) (T := TX9) (N := 9) hx hb hts i_X9 hown hK hP 0 rfl rfl 1 (Nat.le_of_ble_eq_true rfl) (hts _ q_444) (fun _ h9 => h9) rfl eX9_work_0.2.2.2.2.2.2.2.2.2.2.2.2.2.2.1 ?_
    refine lv_iload_n hx hb eX9_work_0.2.2.2.2.2.2.2.2.2.2.2.2.2.2.2 rfl (lv_at hl 1 rfl) ?_
    have hm := mgk (wc := (wd_X5_workSeconds cI cC cZ cB cJ xD wY wJ uE qU uJ uL uI wQ xH tX jE mX pD oO oQ eG xR rJ pN rP yA aDo vI bZ bD bI aI nJ nY dQ jC eO eW dO fJ fY jD nG)) hP mk_145 21 rfl rfl rfl
    refine g_calli hP hD hS hA (mixT mk_145) (mixF mk_145) hm.1 hm.2 (nd_F _) (dis_g _) (g_runV (As := [.int p0]) (rest := []) C0 hP hD hS (mixT mk_145) hm.1 (nd_T _) 1 5 rfl rfl (c_X5_workSeconds l dC dI cI cC cZ cB cJ xD wY wJ uE qU uJ uL uI wQ xH tX jE mX pD oO oQ eG H.size p0 xR rJ pN rP yA aDo vI bZ bD bI aI nJ nY dQ jC eO eW dO fJ fY jD nG _ hp) q_528 q_531 q_529 q_530 q_431 h_X5_workSeconds rfl rfl ⟨Nat.le_of_ble_eq_true rfl, Nat.le_of_ble_eq_true rfl⟩ rfl rfl hl.1 rfl (lv_room (Nat.le_of_ble_eq_true rfl)) eX9_work_32.1 ⟨Nat.zero_le _, Nat.zero_le _⟩) (fun r_7 u H locs hp hP hD hS => ?_)
    obtain ⟨aB5, aBb, aBw, aF5⟩ := u
    have hPD := PDm (ws' := (wd_X9_work cI cC cZ cB cJ a_x xG xD wY wJ wQ xI xK xJ tW uE qU uJ uL uI xH tX jE mX pD oO oQ eG uS sW uR qY sY qT xR aB5 aBb aBw yA aDo aF5 bZ bD bI aI wD gF pE qA nJ nY dQ jC eO eW dO fJ fY jD nG pG qB sH uP pQ mW aCY aCZ oF qF jJ)) hP hD 21 rfl rfl rfl
    have hP := hPD.1
    have hD := hPD.2
    refine lv_istore_n (lv' := [(2, .int r_7), (0, .ref a_x), (1, .int p0)]) hx hb eX9_work_32.2.1 rfl hl (by decide) rfl (fun ls hl => ?_)
    refine lv_aload_n hx hb eX9_work_32.2.2.1 rfl (lv_at hl 1 rfl) ?_
    refine lv_aload_n hx hb eX9_work_32.2.2.2.1 rfl (lv_at hl 1 rfl) ?_
    refine va_get (D := (dC, dI)) (ci := 9) (v := .ref xD) (C := RX9) (T := TX9) (N := 9) hx hb hts i_X9 hown hK hP 0 rfl rfl 1 (Nat.le_of_ble_eq_true rfl) (hts _ q_444) (fun _ h9 => h9) rfl eX9_work_32.2.2.2.2.1 ?_
    refine va_get (D := (dC, dI)) (ci := 5) (v := .int aB5) (C := RX5) (T := TX5) (N := 11) hx hb hts i_X5 hown hK hP 1 rfl rfl 8 (Nat.le_of_ble_eq_true rfl) (hts _ q_532) (fun _ h9 => h9) rfl eX9_work_32.2.2.2.2.2.1 ?_
    refine lv_aload_n hx hb eX9_work_32.2.2.2.2.2.2.1 rfl (lv_at hl 1 rfl) ?_
    refine va_get (D := (dC, dI)) (ci := 9) (v := .ref xD) (C := RX9) (T := TX9) (N := 9) hx hb hts i_X9 hown hK hP 0 rfl rfl 1 (Nat.le_of_ble_eq_true rfl) (hts _ q_444) (fun _ h9 => h9) rfl eX9_work_32.2.2.2.2.2.2.2.1 ?_
    refine va_get (D := (dC, dI)) (ci := 5) (v := .int aBb) (C := RX5) (T := TX5) (N := 11) hx hb hts i_X5 hown hK hP 1 rfl rfl 9 (Nat.le_of_ble_eq_true rfl) (hts _ q_533) (fun _ h9 => h9) rfl eX9_work_32.2.2.2.2.2.2.2.2.1 ?_
    refine lv_aload_n hx hb eX9_work_32.2.2.2.2.2.2.2.2.2.1 rfl (lv_at hl 1 rfl) ?_
    refine va_get (D := (dC, dI)) (ci := 9) (v := .ref xD) (C := RX9) (T := TX9) (N := 9) hx hb hts i_X9 hown hK hP 0 rfl rfl 1 (Nat.le_of_ble_eq_true rfl) (hts _ q_444) (fun _ h9 => h9) rfl eX9_work_32.2.2.2.2.2.2.2.2.2.2.1 ?_
    refine va_get (D := (dC, dI)) (ci := 5) (v := .int aBw) (C := RX5) (T := TX5) (N := 11) hx hb hts i_X5 hown hK hP 1 rfl rfl 10 (Nat.le_of_ble_eq_true rfl) (hts _ q_534) (fun _ h9 => h9) rfl eX9_work_32.2.2.2.2.2.2.2.2.2.2.2.1 ?_
    have hm := mgk (wc := (wd_X9_tell__ cI cC cZ cB cJ a_x xG xD wY wJ wQ xI xK xJ tW qT qF jJ)) hP mk_146 21 rfl rfl rfl
    refine g_callv hP hD hS hA (mixT mk_146) (mixF mk_146) hm.1 hm.2 (nd_F _) (dis_g _) (g_runV (As := [.int aB5, .int aBb, .int aBw]) (rest := []) C0 hP hD hS (mixT mk_146) hm.1 (nd_T _) 0 9 rfl rfl (c_X9_tell__ l dC dI cI cC cZ cB cJ a_x xG xD wY wJ wQ xI xK xJ tW qT H.size aB5 aBb aBw qF jJ _ hp) q_535 q_538 q_536 q_537 q_256 h_X9_tell__ rfl rfl ⟨Nat.le_of_ble_eq_true rfl, Nat.le_of_ble_eq_true rfl⟩ rfl rfl hl.1 rfl (lv_room (Nat.le_of_ble_eq_true rfl)) eX9_work_32.2.2.2.2.2.2.2.2.2.2.2.2.1 ⟨Nat.zero_le _, Nat.zero_le _⟩) (fun u H locs hp hP hD hS => ?_)
    obtain ⟨ro_size_12, ro_numbers_13⟩ := u
    have hPD := PDm (ws' := (wd_X9_work cI cC cZ cB cJ a_x xG xD wY wJ wQ xI xK xJ tW uE qU uJ uL uI xH tX jE mX pD oO oQ eG uS sW uR qY sY qT xR aB5 aBb aBw yA aDo aF5 bZ bD bI aI wD gF pE qA nJ nY dQ jC eO eW dO fJ fY jD nG pG qB sH uP pQ mW aCY aCZ oF ro_size_12 ro_numbers_13)) hP hD 21 rfl rfl rfl
    have hP := hPD.1
    have hD := hPD.2
    refine lv_iload_n hx hb eX9_work_32.2.2.2.2.2.2.2.2.2.2.2.2.2.1 rfl (lv_at hl 0 rfl) ?_
    exact W.iret (v := r_7) hx hb hr (fun t ht hW => ⟨⟨r_7, (xR, aB5, aBb, aBw, yA, aDo, aF5, aCY, aCZ, ro_size_12, ro_numbers_13), rfl, hp, by rw [ht]; exact hP, va_K.moved hW.alike hK, hD⟩, hS.F ht⟩) hS.2.2 eX9_work_32.2.2.2.2.2.2.2.2.2.2.2.2.2.2
  · have hp := hp.2 hc
    refine lv_iconst (v := (-1)) hx hb eX9_work_0.2.2.2.2.2.1 ic_m1 ?_
    exact W.iret (v := (-1)) hx hb hr (fun t ht hW => ⟨⟨(-1), (oX, rJ, pN, rP, rX, rO, vI, qO, qQ, qF, jJ), rfl, hp, by rw [ht]; exact hP, va_K.moved hW.alike hK, hD⟩, hS.F ht⟩) hS.2.2 eX9_work_0.2.2.2.2.2.2.1
noncomputable abbrev wd_X9_soonest (cI cC cZ cB cJ : ClassId) (a_x xG xD wY wJ wQ xI xK xJ tW uE qU uJ uL uI xH tX jE mX pD oO oQ eG uS sW uR qY sY qT : Nat) (oX rJ pN rP : Int32) (rX rO vI : Nat → Int32) (bZ bD bI aI : Int32) (wD gF pE qA nJ nY dQ : Nat → Int32) (jC eO eW dO fJ fY jD nG pG qB sH uP pQ mW : Int32) (qO qQ oF : Nat → Int32) (qF : Int32) (jJ : Nat → Int32) : va_W := [(a_x, .inr (9, [.ref xG, .ref xD, .ref wY, .ref wJ, .ref wQ, .ref xI, .ref xK, .ref xJ, .ref tW])), (xD, .inr (5, [.ref wY, .ref wJ, .ref uE, .ref qU, .ref uJ, .ref uL, .ref uI, .int oX, .int rJ, .int pN, .int rP])), (uE, .inl (cI, 8, .inl rX)), (qU, .inl (cI, 128, .inl rO)), (uJ, .inl (cI, 8, .inl vI)), (wY, .inr (0, [.ref wJ, .ref wQ, .ref xH])), (wJ, .inr (3, [.ref tX, .ref jE, .ref mX, .ref pD, .ref oO, .ref oQ, .ref eG, .int bZ, .int bD, .int bI, .int aI])), (tX, .inl (cI, 16, .inl wD)), (jE, .inl (cI, 16, .inl gF)), (mX, .inl (cI, 16, .inl pE)), (pD, .inl (cI, 16, .inl qA)), (oO, .inl (cI, 8, .inl nJ)), (oQ, .inl (cI, 8, .inl nY)), (eG, .inl (cI, 5, .inl dQ)), (wQ, .inr (2, [.int jC, .int eO, .int eW, .int dO, .int fJ, .int fY, .int jD, .int nG])), (xH, .inr (7, [.ref uS, .ref sW, .ref uR, .ref qY, .ref sY, .int pG, .int qB, .int sH, .int uP, .int pQ, .int mW])), (uS, .inl (cI, 7, .inl qO)), (uR, .inl (cI, 40, .inl qQ)), (qY, .inl (cI, 40, .inl oF)), (xK, .inr (6, [.ref qT, .int qF])), (qT, .inl (cI, 16, .inl jJ))]
noncomputable abbrev q_X9_soonest (dC : Nat → ClassId) (dI : Nat → Nat → Nat) (cI cC cZ cB cJ : ClassId) (A : Nat → Prop) (a_x xG xD wY wJ wQ xI xK xJ tW uE qU uJ uL uI xH tX jE mX pD oO oQ eG uS sW uR qY sY qT : Nat) (bZ bD bI aI : Int32) (wD gF pE qA nJ nY dQ : Nat → Int32) (jC eO eW dO fJ fY jD nG pG qB sH uP pQ mW : Int32) (oF : Nat → Int32) (post : Int32 → Int32 → Int32 → Int32 → Int32 → (Nat → Int32) → (Nat → Int32) → (Nat → Int32) → (Nat → Int32) → (Nat → Int32) → Int32 → (Nat → Int32) → Prop) : Array Value → State → Outcome → State → Prop := va_Qi (fun (r : Int32) (u : Int32 × Int32 × Int32 × Int32 × (Nat → Int32) × (Nat → Int32) × (Nat → Int32) × (Nat → Int32) × (Nat → Int32) × Int32 × (Nat → Int32)) => post r u.1 u.2.1 u.2.2.1 u.2.2.2.1 u.2.2.2.2.1 u.2.2.2.2.2.1 u.2.2.2.2.2.2.1 u.2.2.2.2.2.2.2.1 u.2.2.2.2.2.2.2.2.1 u.2.2.2.2.2.2.2.2.2.1 u.2.2.2.2.2.2.2.2.2.2) (fun u t => gB (dC, dI) (tyl cI cC cZ cB cJ) A (wd_X9_soonest cI cC cZ cB cJ a_x xG xD wY wJ wQ xI xK xJ tW uE qU uJ uL uI xH tX jE mX pD oO oQ eG uS sW uR qY sY qT u.1 u.2.1 u.2.2.1 u.2.2.2.1 u.2.2.2.2.1 u.2.2.2.2.2.1 u.2.2.2.2.2.2.1 bZ bD bI aI wD gF pE qA nJ nY dQ jC eO eW dO fJ fY jD nG pG qB sH uP pQ mW u.2.2.2.2.2.2.2.1 u.2.2.2.2.2.2.2.2.1 oF u.2.2.2.2.2.2.2.2.2.1 u.2.2.2.2.2.2.2.2.2.2) t) A
noncomputable abbrev rm_X9_soonest : Room := { frames := 5, cells := 0, slots := 0, locals := 115 }
section S_X9_soonest
variable {p : Program} {l : Launch} {e : Env} {s : State} {m : MethodId} {args : Array Value} {below : List Frame} {meth : Method} {c : Code} {dC : Nat → ClassId} {dI : Nat → Nat → Nat} {cI cC cZ cB cJ : ClassId} {A : Nat → Prop} {a_x xG xD wY wJ wQ xI xK xJ tW uE qU uJ uL uI xH tX jE mX pD oO oQ eG uS sW uR qY sY qT : Nat} {bZ bD bI aI : Int32} {wD gF pE qA nJ nY dQ : Nat → Int32} {jC eO eW dO fJ fY jD nG pG qB sH uP pQ mW : Int32} {oF : Nat → Int32} {post : Int32 → Int32 → Int32 → Int32 → Int32 → (Nat → Int32) → (Nat → Int32) → (Nat → Int32) → (Nat → Int32) → (Nat → Int32) → Int32 → (Nat → Int32) → Prop}
noncomputable def ws_X9_soonest_100 (post : Int32 → Int32 → Int32 → Int32 → Int32 → (Nat → Int32) → (Nat → Int32) → (Nat → Int32) → (Nat → Int32) → (Nat → Int32) → Int32 → (Nat → Int32) → Prop) (K33 : Int32 → Int32 → Int32 → Int32 → Int32 → Int32 → Int32 → (Nat → Int32) → (Nat → Int32) → (Nat → Int32) → (Nat → Int32) → (Nat → Int32) → Int32 → (Nat → Int32) → Prop) (bZ bD : Int32) (wD gF pE qA nJ nY dQ : Nat → Int32) (jC eO eW dO fJ fY jD pG : Int32) (oF : Nat → Int32) (x1 x2 x3 oX rJ pN rP : Int32) (rX rO vI qO qQ : Nat → Int32) (qF : Int32) (jJ : Nat → Int32) : Prop := ∀ v_16 : Int32, v_16 = x3 + 1 → K33 x1 x2 v_16 oX rJ pN rP rX rO vI qO qQ qF jJ
set_option maxHeartbeats 4000000 in
set_option maxRecDepth 100000 in
theorem ks_X9_soonest_100 (C0 : gc cX9_soonest (some .int) 5 RX9 (dC, dI) (tyl cI cC cZ cB cJ) A p s m args meth c) {K33 : Int32 → Int32 → Int32 → Int32 → Int32 → Int32 → Int32 → (Nat → Int32) → (Nat → Int32) → (Nat → Int32) → (Nat → Int32) → (Nat → Int32) → Int32 → (Nat → Int32) → Prop} (hK33 : ∀ (x1 : Int32) (x2 : Int32) (x3 : Int32) (oX : Int32) (rJ : Int32) (pN : Int32) (rP : Int32) (rX : Nat → Int32) (rO : Nat → Int32) (vI : Nat → Int32) (qO : Nat → Int32) (qQ : Nat → Int32) (qF : Int32) (jJ : Nat → Int32) (H : Heap) (locs : List Loc) (ls : Array Slot), K33 x1 x2 x3 oX rJ pN rP rX rO vI qO qQ qF jJ → va_P (dC, dI) classes (wd_X9_soonest cI cC cZ cB cJ a_x xG xD wY wJ wQ xI xK xJ tW uE qU uJ uL uI xH tX jE mX pD oO oQ eG uS sW uR qY sY qT oX rJ pN rP rX rO vI bZ bD bI aI wD gF pE qA nJ nY dQ jC eO eW dO fJ fY jD nG pG qB sH uP pQ mW qO qQ oF qF jJ) H → va_D A (wd_X9_soonest cI cC cZ cB cJ a_x xG xD wY wJ wQ xI xK xJ tW uE qU uJ uL uI xH tX jE mX pD oO oQ eG uS sW uR qY sY qT oX rJ pN rP rX rO vI bZ bD bI aI wD gF pE qA nJ nY dQ jC eO eW dO fJ fY jD nG pG qB sH uP pQ mW qO qQ oF qF jJ) → va_S A s.heap H locs → lv_has ls 5 [(0, .ref a_x), (1, .int x1), (2, .int x2), (3, .int x3)] → W p l e rm_X9_soonest s m args below meth c H locs 0 0 (MQ below (q_X9_soonest dC dI cI cC cZ cB cJ A a_x xG xD wY wJ wQ xI xK xJ tW uE qU uJ uL uI xH tX jE mX pD oO oQ eG uS sW uR qY sY qT bZ bD bI aI wD gF pE qA nJ nY dQ jC eO eW dO fJ fY jD nG pG qB sH uP pQ mW oF post) args s 0 0 A) (F0 m 33 ls [])) : ∀ (x1 x2 x3 oX rJ pN rP : Int32) (rX rO vI qO qQ : Nat → Int32) (qF : Int32) (jJ : Nat → Int32) (H : Heap) (locs : List Loc) (ls : Array Slot), (ws_X9_soonest_100 post K33 bZ bD wD gF pE qA nJ nY dQ jC eO eW dO fJ fY jD pG oF) x1 x2 x3 oX rJ pN rP rX rO vI qO qQ qF jJ → va_P (dC, dI) classes (wd_X9_soonest cI cC cZ cB cJ a_x xG xD wY wJ wQ xI xK xJ tW uE qU uJ uL uI xH tX jE mX pD oO oQ eG uS sW uR qY sY qT oX rJ pN rP rX rO vI bZ bD bI aI wD gF pE qA nJ nY dQ jC eO eW dO fJ fY jD nG pG qB sH uP pQ mW qO qQ oF qF jJ) H → va_D A (wd_X9_soonest cI cC cZ cB cJ a_x xG xD wY wJ wQ xI xK xJ tW uE qU uJ uL uI xH tX jE mX pD oO oQ eG uS sW uR qY sY qT oX rJ pN rP rX rO vI bZ bD bI aI wD gF pE qA nJ nY dQ jC eO eW dO fJ fY jD nG pG qB sH uP pQ mW qO qQ oF qF jJ) → va_S A s.heap H locs → lv_has ls 5 [(0, .ref a_x), (1, .int x1), (2, .int x2), (3, .int x3)] → W p l e rm_X9_soonest s m args below meth c H locs 0 0 (MQ below (q_X9_soonest dC dI cI cC cZ cB cJ A a_x xG xD wY wJ wQ xI xK xJ tW uE qU uJ uL uI xH tX jE mX pD oO oQ eG uS sW uR qY sY qT bZ bD bI aI wD gF pE qA nJ nY dQ jC eO eW dO fJ fY jD nG pG qB sH uP pQ mW oF post) args s 0 0 A) (F0 m 100 ls []) := by
  obtain ⟨hx, hb, hr, hml, hown, hts, hlocks, hA, hK, hN, tL, tM, hZL, hTL, hZM, hTM, hZX⟩ := id C0
  intro x1 x2 x3 oX rJ pN rP rX rO vI qO qQ qF jJ H locs ls hp hP hD hS hl
  unfold ws_X9_soonest_100 at hp
  obtain ⟨v_16, ev_16⟩ : ∃ y : Int32, y = x3 + 1 := ⟨_, rfl⟩
  refine lv_iinc (v := v_16) (lv' := [(3, .int v_16), (0, .ref a_x), (1, .int x1), (2, .int x2)]) hx hb eX9_soonest_95.2.2.2.2.1 hl (k := 3) rfl (by rw [ev_16]; rfl) (by decide) rfl (fun ls hl => ?_)
  have hp := hp v_16 ev_16
  refine lv_goto (tgt := 33) hx hb eX9_soonest_95.2.2.2.2.2.1 (by decide) ?_
  exact hK33 x1 x2 v_16 oX rJ pN rP rX rO vI qO qQ qF jJ H locs ls hp hP hD hS (lv_sub hl [1, 2, 3, 0] rfl)
noncomputable def ws_X9_soonest_95 (post : Int32 → Int32 → Int32 → Int32 → Int32 → (Nat → Int32) → (Nat → Int32) → (Nat → Int32) → (Nat → Int32) → (Nat → Int32) → Int32 → (Nat → Int32) → Prop) (K33 : Int32 → Int32 → Int32 → Int32 → Int32 → Int32 → Int32 → (Nat → Int32) → (Nat → Int32) → (Nat → Int32) → (Nat → Int32) → (Nat → Int32) → Int32 → (Nat → Int32) → Prop) (bZ bD : Int32) (wD gF pE qA nJ nY dQ : Nat → Int32) (jC eO eW dO fJ fY jD pG : Int32) (oF : Nat → Int32) (x3 x4 oX rJ pN rP : Int32) (rX rO vI qO qQ : Nat → Int32) (qF : Int32) (jJ : Nat → Int32) : Prop := ws_X9_soonest_100 post K33 bZ bD wD gF pE qA nJ nY dQ jC eO eW dO fJ fY jD pG oF x3 x4 x3 oX rJ pN rP rX rO vI qO qQ qF jJ
set_option maxHeartbeats 4000000 in
set_option maxRecDepth 100000 in
theorem ks_X9_soonest_95 (C0 : gc cX9_soonest (some .int) 5 RX9 (dC, dI) (tyl cI cC cZ cB cJ) A p s m args meth c) {K33 : Int32 → Int32 → Int32 → Int32 → Int32 → Int32 → Int32 → (Nat → Int32) → (Nat → Int32) → (Nat → Int32) → (Nat → Int32) → (Nat → Int32) → Int32 → (Nat → Int32) → Prop} (hK33 : ∀ (x1 : Int32) (x2 : Int32) (x3 : Int32) (oX : Int32) (rJ : Int32) (pN : Int32) (rP : Int32) (rX : Nat → Int32) (rO : Nat → Int32) (vI : Nat → Int32) (qO : Nat → Int32) (qQ : Nat → Int32) (qF : Int32) (jJ : Nat → Int32) (H : Heap) (locs : List Loc) (ls : Array Slot), K33 x1 x2 x3 oX rJ pN rP rX rO vI qO qQ qF jJ → va_P (dC, dI) classes (wd_X9_soonest cI cC cZ cB cJ a_x xG xD wY wJ wQ xI xK xJ tW uE qU uJ uL uI xH tX jE mX pD oO oQ eG uS sW uR qY sY qT oX rJ pN rP rX rO vI bZ bD bI aI wD gF pE qA nJ nY dQ jC eO eW dO fJ fY jD nG pG qB sH uP pQ mW qO qQ oF qF jJ) H → va_D A (wd_X9_soonest cI cC cZ cB cJ a_x xG xD wY wJ wQ xI xK xJ tW uE qU uJ uL uI xH tX jE mX pD oO oQ eG uS sW uR qY sY qT oX rJ pN rP rX rO vI bZ bD bI aI wD gF pE qA nJ nY dQ jC eO eW dO fJ fY jD nG pG qB sH uP pQ mW qO qQ oF qF jJ) → va_S A s.heap H locs → lv_has ls 5 [(0, .ref a_x), (1, .int x1), (2, .int x2), (3, .int x3)] → W p l e rm_X9_soonest s m args below meth c H locs 0 0 (MQ below (q_X9_soonest dC dI cI cC cZ cB cJ A a_x xG xD wY wJ wQ xI xK xJ tW uE qU uJ uL uI xH tX jE mX pD oO oQ eG uS sW uR qY sY qT bZ bD bI aI wD gF pE qA nJ nY dQ jC eO eW dO fJ fY jD nG pG qB sH uP pQ mW oF post) args s 0 0 A) (F0 m 33 ls [])) : ∀ (x3 x4 oX rJ pN rP : Int32) (rX rO vI qO qQ : Nat → Int32) (qF : Int32) (jJ : Nat → Int32) (H : Heap) (locs : List Loc) (ls : Array Slot), (ws_X9_soonest_95 post K33 bZ bD wD gF pE qA nJ nY dQ jC eO eW dO fJ fY jD pG oF) x3 x4 oX rJ pN rP rX rO vI qO qQ qF jJ → va_P (dC, dI) classes (wd_X9_soonest cI cC cZ cB cJ a_x xG xD wY wJ wQ xI xK xJ tW uE qU uJ uL uI xH tX jE mX pD oO oQ eG uS sW uR qY sY qT oX rJ pN rP rX rO vI bZ bD bI aI wD gF pE qA nJ nY dQ jC eO eW dO fJ fY jD nG pG qB sH uP pQ mW qO qQ oF qF jJ) H → va_D A (wd_X9_soonest cI cC cZ cB cJ a_x xG xD wY wJ wQ xI xK xJ tW uE qU uJ uL uI xH tX jE mX pD oO oQ eG uS sW uR qY sY qT oX rJ pN rP rX rO vI bZ bD bI aI wD gF pE qA nJ nY dQ jC eO eW dO fJ fY jD nG pG qB sH uP pQ mW qO qQ oF qF jJ) → va_S A s.heap H locs → lv_has ls 5 [(0, .ref a_x), (3, .int x3), (4, .int x4)] → W p l e rm_X9_soonest s m args below meth c H locs 0 0 (MQ below (q_X9_soonest dC dI cI cC cZ cB cJ A a_x xG xD wY wJ wQ xI xK xJ tW uE qU uJ uL uI xH tX jE mX pD oO oQ eG uS sW uR qY sY qT bZ bD bI aI wD gF pE qA nJ nY dQ jC eO eW dO fJ fY jD nG pG qB sH uP pQ mW oF post) args s 0 0 A) (F0 m 95 ls []) := by
  obtain ⟨hx, hb, hr, hml, hown, hts, hlocks, hA, hK, hN, tL, tM, hZL, hTL, hZM, hTM, hZX⟩ := id C0
  intro x3 x4 oX rJ pN rP rX rO vI qO qQ qF jJ H locs ls hp hP hD hS hl
  unfold ws_X9_soonest_95 at hp
  refine lv_iload_n hx hb eX9_soonest_95.1 rfl (lv_at hl 1 rfl) ?_
  refine lv_istore_n (lv' := [(1, .int x3), (0, .ref a_x), (3, .int x3), (4, .int x4)]) hx hb eX9_soonest_95.2.1 rfl hl (by decide) rfl (fun ls hl => ?_)
  refine lv_iload hx hb eX9_soonest_95.2.2.1 (lv_at hl 3 rfl) ?_
  refine lv_istore_n (lv' := [(2, .int x4), (1, .int x3), (0, .ref a_x), (3, .int x3), (4, .int x4)]) hx hb eX9_soonest_95.2.2.2.1 rfl hl (by decide) rfl (fun ls hl => ?_)
  exact ks_X9_soonest_100 C0 hK33 x3 x4 x3 oX rJ pN rP rX rO vI qO qQ qF jJ H locs ls hp hP hD hS (lv_sub hl [2, 1, 0, 3] rfl)
noncomputable def ws_X9_soonest_33 (post : Int32 → Int32 → Int32 → Int32 → Int32 → (Nat → Int32) → (Nat → Int32) → (Nat → Int32) → (Nat → Int32) → (Nat → Int32) → Int32 → (Nat → Int32) → Prop) (next : Int32 → Int32 → Int32 → Int32 → Int32 → Int32 → Int32 → (Nat → Int32) → (Nat → Int32) → (Nat → Int32) → (Nat → Int32) → (Nat → Int32) → Int32 → (Nat → Int32) → Prop) (bZ bD : Int32) (wD gF pE qA nJ nY dQ : Nat → Int32) (jC eO eW dO fJ fY jD pG : Int32) (oF : Nat → Int32) (x1 x2 x3 oX rJ pN rP : Int32) (rX rO vI qO qQ : Nat → Int32) (qF : Int32) (jJ : Nat → Int32) : Prop := wp_X3_allStandings (fun r_12 => (r_12 ≤ x3 → wp_X9_tell (fun ro_size_13 ro_numbers_14 => post x2 oX rJ pN rP rX rO vI qO qQ ro_size_13 ro_numbers_14) x1 qF jJ) ∧ (¬ r_12 ≤ x3 → wp_X5_reachedBy (fun r_15 => (¬ (oX &&& (r_15 ^^^ (-1))) = 0 → ws_X9_soonest_100 post next bZ bD wD gF pE qA nJ nY dQ jC eO eW dO fJ fY jD pG oF x1 x2 x3 oX rJ pN rP rX rO vI qO qQ qF jJ) ∧ ((oX &&& (r_15 ^^^ (-1))) = 0 → wp_X5_workSeconds (fun r_17 aCC aBx aCD aEv => (r_17 < x2 → ws_X9_soonest_95 post next bZ bD wD gF pE qA nJ nY dQ jC eO eW dO fJ fY jD pG oF x3 r_17 oX aCC aBx aCD rX rO aEv qO qQ qF jJ) ∧ (¬ r_17 < x2 → (¬ r_17 = x2 → ws_X9_soonest_100 post next bZ bD wD gF pE qA nJ nY dQ jC eO eW dO fJ fY jD pG oF x1 x2 x3 oX aCC aBx aCD rX rO aEv qO qQ qF jJ) ∧ (r_17 = x2 → wp_X9_isFewer (fun r_22 => (r_22 = 0 → ws_X9_soonest_100 post next bZ bD wD gF pE qA nJ nY dQ jC eO eW dO fJ fY jD pG oF x1 x2 x3 oX aCC aBx aCD rX rO aEv qO qQ qF jJ) ∧ (¬ r_22 = 0 → ws_X9_soonest_95 post next bZ bD wD gF pE qA nJ nY dQ jC eO eW dO fJ fY jD pG oF x3 r_17 oX aCC aBx aCD rX rO aEv qO qQ qF jJ)) x3 x1))) x3 oX rJ pN rP rX rO vI bZ bD nJ nY dQ fJ)) x3 rX bD)) bD
noncomputable def wb_X9_soonest_33 (post : Int32 → Int32 → Int32 → Int32 → Int32 → (Nat → Int32) → (Nat → Int32) → (Nat → Int32) → (Nat → Int32) → (Nat → Int32) → Int32 → (Nat → Int32) → Prop) (bZ bD : Int32) (wD gF pE qA nJ nY dQ : Nat → Int32) (jC eO eW dO fJ fY jD pG : Int32) (oF : Nat → Int32) : Nat → Int32 → Int32 → Int32 → Int32 → Int32 → Int32 → Int32 → (Nat → Int32) → (Nat → Int32) → (Nat → Int32) → (Nat → Int32) → (Nat → Int32) → Int32 → (Nat → Int32) → Prop := fun n => Nat.rec (motive := fun _ => Int32 → Int32 → Int32 → Int32 → Int32 → Int32 → Int32 → (Nat → Int32) → (Nat → Int32) → (Nat → Int32) → (Nat → Int32) → (Nat → Int32) → Int32 → (Nat → Int32) → Prop) (fun _ _ _ _ _ _ _ _ _ _ _ _ _ _ => False) (fun _ ih => ws_X9_soonest_33 post ih bZ bD wD gF pE qA nJ nY dQ jC eO eW dO fJ fY jD pG oF) n
set_option maxHeartbeats 4000000 in
set_option maxRecDepth 100000 in
theorem ks_X9_soonest_33 (C0 : gc cX9_soonest (some .int) 5 RX9 (dC, dI) (tyl cI cC cZ cB cJ) A p s m args meth c) {next : Int32 → Int32 → Int32 → Int32 → Int32 → Int32 → Int32 → (Nat → Int32) → (Nat → Int32) → (Nat → Int32) → (Nat → Int32) → (Nat → Int32) → Int32 → (Nat → Int32) → Prop} (hKn : ∀ (x1 : Int32) (x2 : Int32) (x3 : Int32) (oX : Int32) (rJ : Int32) (pN : Int32) (rP : Int32) (rX : Nat → Int32) (rO : Nat → Int32) (vI : Nat → Int32) (qO : Nat → Int32) (qQ : Nat → Int32) (qF : Int32) (jJ : Nat → Int32) (H : Heap) (locs : List Loc) (ls : Array Slot), next x1 x2 x3 oX rJ pN rP rX rO vI qO qQ qF jJ → va_P (dC, dI) classes (wd_X9_soonest cI cC cZ cB cJ a_x xG xD wY wJ wQ xI xK xJ tW uE qU uJ uL uI xH tX jE mX pD oO oQ eG uS sW uR qY sY qT oX rJ pN rP rX rO vI bZ bD bI aI wD gF pE qA nJ nY dQ jC eO eW dO fJ fY jD nG pG qB sH uP pQ mW qO qQ oF qF jJ) H → va_D A (wd_X9_soonest cI cC cZ cB cJ a_x xG xD wY wJ wQ xI xK xJ tW uE qU uJ uL uI xH tX jE mX pD oO oQ eG uS sW uR qY sY qT oX rJ pN rP rX rO vI bZ bD bI aI wD gF pE qA nJ nY dQ jC eO eW dO fJ fY jD nG pG qB sH uP pQ mW qO qQ oF qF jJ) → va_S A s.heap H locs → lv_has ls 5 [(0, .ref a_x), (1, .int x1), (2, .int x2), (3, .int x3)] → W p l e rm_X9_soonest s m args below meth c H locs 0 0 (MQ below (q_X9_soonest dC dI cI cC cZ cB cJ A a_x xG xD wY wJ wQ xI xK xJ tW uE qU uJ uL uI xH tX jE mX pD oO oQ eG uS sW uR qY sY qT bZ bD bI aI wD gF pE qA nJ nY dQ jC eO eW dO fJ fY jD nG pG qB sH uP pQ mW oF post) args s 0 0 A) (F0 m 33 ls [])) : ∀ (x1 x2 x3 oX rJ pN rP : Int32) (rX rO vI qO qQ : Nat → Int32) (qF : Int32) (jJ : Nat → Int32) (H : Heap) (locs : List Loc) (ls : Array Slot), (ws_X9_soonest_33 post next bZ bD wD gF pE qA nJ nY dQ jC eO eW dO fJ fY jD pG oF) x1 x2 x3 oX rJ pN rP rX rO vI qO qQ qF jJ → va_P (dC, dI) classes (wd_X9_soonest cI cC cZ cB cJ a_x xG xD wY wJ wQ xI xK xJ tW uE qU uJ uL uI xH tX jE mX pD oO oQ eG uS sW uR qY sY qT oX rJ pN rP rX rO vI bZ bD bI aI wD gF pE qA nJ nY dQ jC eO eW dO fJ fY jD nG pG qB sH uP pQ mW qO qQ oF qF jJ) H → va_D A (wd_X9_soonest cI cC cZ cB cJ a_x xG xD wY wJ wQ xI xK xJ tW uE qU uJ uL uI xH tX jE mX pD oO oQ eG uS sW uR qY sY qT oX rJ pN rP rX rO vI bZ bD bI aI wD gF pE qA nJ nY dQ jC eO eW dO fJ fY jD nG pG qB sH uP pQ mW qO qQ oF qF jJ) → va_S A s.heap H locs → lv_has ls 5 [(0, .ref a_x), (1, .int x1), (2, .int x2), (3, .int x3)] → W p l e rm_X9_soonest s m args below meth c H locs 0 0 (MQ below (q_X9_soonest dC dI cI cC cZ cB cJ A a_x xG xD wY wJ wQ xI xK xJ tW uE qU uJ uL uI xH tX jE mX pD oO oQ eG uS sW uR qY sY qT bZ bD bI aI wD gF pE qA nJ nY dQ jC eO eW dO fJ fY jD nG pG qB sH uP pQ mW oF post) args s 0 0 A) (F0 m 33 ls []) := by
  obtain ⟨hx, hb, hr, hml, hown, hts, hlocks, hA, hK, hN, tL, tM, hZL, hTL, hZM, hTM, hZX⟩ := id C0
  intro x1 x2 x3 oX rJ pN rP rX rO vI qO qQ qF jJ H locs ls hp hP hD hS hl
  unfold ws_X9_soonest_33 at hp
  refine lv_iload_n hx hb eX9_soonest_32.2.1 rfl (lv_at hl 3 rfl) ?_
  refine lv_aload_n hx hb eX9_soonest_32.2.2.1 rfl (lv_at hl 0 rfl) ?_
  refine va_get (D := (dC, dI)) (ci := 9) (v := .ref wJ) (C := RX9) (T := TX9) (N := 9) hx hb hts i_X9 hown hK hP 0 rfl rfl 3 (Nat.le_of_ble_eq_true rfl) (hts _ q_74) (fun _ h9 => h9) rfl eX9_soonest_32.2.2.2.1 ?_
  have hm := mgk (wc := (wd_X3_allStandings cI cC cZ cB cJ wJ tX jE mX pD oO oQ eG bZ bD bI aI)) hP mk_142 21 rfl rfl rfl
  refine g_calli hP hD hS hA (mixT mk_142) (mixF mk_142) hm.1 hm.2 (nd_F _) (dis_g _) (g_runV (As := []) (rest := [.int x3]) C0 hP hD hS (mixT mk_142) hm.1 (nd_T _) 6 3 rfl rfl (c_X3_allStandings l dC dI cI cC cZ cB cJ wJ tX jE mX pD oO oQ eG H.size bZ bD bI aI _ hp) q_426 q_463 q_427 q_428 q_48 h_X3_allStandings rfl rfl ⟨Nat.le_of_ble_eq_true rfl, Nat.le_of_ble_eq_true rfl⟩ rfl rfl hl.1 rfl (lv_room (Nat.le_of_ble_eq_true rfl)) eX9_soonest_32.2.2.2.2.1 ⟨Nat.zero_le _, Nat.zero_le _⟩) (fun r_12 u H locs hp hP hD hS => ?_)
  have hPD := PDm (ws' := (wd_X9_soonest cI cC cZ cB cJ a_x xG xD wY wJ wQ xI xK xJ tW uE qU uJ uL uI xH tX jE mX pD oO oQ eG uS sW uR qY sY qT oX rJ pN rP rX rO vI bZ bD bI aI wD gF pE qA nJ nY dQ jC eO eW dO fJ fY jD nG pG qB sH uP pQ mW qO qQ oF qF jJ)) hP hD 21 rfl rfl rfl
  have hP := hPD.1
  have hD := hPD.2
  refine lv_icmp_ge (tgt := 106) hx hb eX9_soonest_32.2.2.2.2.2.1 (by decide) (fun hc => ?_) (fun hc => ?_)
  · have hp := hp.1 hc
    refine lv_aload_n hx hb eX9_soonest_95.2.2.2.2.2.2.1 rfl (lv_at hl 0 rfl) ?_
    refine lv_iload_n hx hb eX9_soonest_95.2.2.2.2.2.2.2.1 rfl (lv_at hl 1 rfl) ?_
    have hm := mgk (wc := (wd_X9_tell cI cC cZ cB cJ a_x xG xD wY wJ wQ xI xK xJ tW qT qF jJ)) hP mk_146 21 rfl rfl rfl
    refine g_callv hP hD hS hA (mixT mk_146) (mixF mk_146) hm.1 hm.2 (nd_F _) (dis_g _) (g_runV (As := [.int x1]) (rest := []) C0 hP hD hS (mixT mk_146) hm.1 (nd_T _) 0 9 rfl rfl (c_X9_tell l dC dI cI cC cZ cB cJ a_x xG xD wY wJ wQ xI xK xJ tW qT H.size x1 qF jJ _ hp) q_373 q_376 q_374 q_375 q_256 h_X9_tell rfl rfl ⟨Nat.le_of_ble_eq_true rfl, Nat.le_of_ble_eq_true rfl⟩ rfl rfl hl.1 rfl (lv_room (Nat.le_of_ble_eq_true rfl)) eX9_soonest_95.2.2.2.2.2.2.2.2.1 ⟨Nat.zero_le _, Nat.zero_le _⟩) (fun u H locs hp hP hD hS => ?_)
    obtain ⟨ro_size_13, ro_numbers_14⟩ := u
    have hPD := PDm (ws' := (wd_X9_soonest cI cC cZ cB cJ a_x xG xD wY wJ wQ xI xK xJ tW uE qU uJ uL uI xH tX jE mX pD oO oQ eG uS sW uR qY sY qT oX rJ pN rP rX rO vI bZ bD bI aI wD gF pE qA nJ nY dQ jC eO eW dO fJ fY jD nG pG qB sH uP pQ mW qO qQ oF ro_size_13 ro_numbers_14)) hP hD 21 rfl rfl rfl
    have hP := hPD.1
    have hD := hPD.2
    refine lv_iload_n hx hb eX9_soonest_95.2.2.2.2.2.2.2.2.2.1 rfl (lv_at hl 2 rfl) ?_
    exact W.iret (v := x2) hx hb hr (fun t ht hW => ⟨⟨x2, (oX, rJ, pN, rP, rX, rO, vI, qO, qQ, ro_size_13, ro_numbers_14), rfl, hp, by rw [ht]; exact hP, va_K.moved hW.alike hK, hD⟩, hS.F ht⟩) hS.2.2 eX9_soonest_95.2.2.2.2.2.2.2.2.2.2
  · have hp := hp.2 hc
    refine lv_aload_n hx hb eX9_soonest_32.2.2.2.2.2.2.1 rfl (lv_at hl 0 rfl) ?_
    refine va_get (D := (dC, dI)) (ci := 9) (v := .ref xD) (C := RX9) (T := TX9) (N := 9) hx hb hts i_X9 hown hK hP 0 rfl rfl 1 (Nat.le_of_ble_eq_true rfl) (hts _ q_444) (fun _ h9 => h9) rfl eX9_soonest_32.2.2.2.2.2.2.2.1 ?_
    refine va_get (D := (dC, dI)) (ci := 5) (v := .int oX) (C := RX5) (T := TX5) (N := 11) hx hb hts i_X5 hown hK hP 1 rfl rfl 7 (Nat.le_of_ble_eq_true rfl) (hts _ q_462) (fun _ h9 => h9) rfl eX9_soonest_32.2.2.2.2.2.2.2.2.1 ?_
    refine lv_aload_n hx hb eX9_soonest_32.2.2.2.2.2.2.2.2.2.1 rfl (lv_at hl 0 rfl) ?_
    refine va_get (D := (dC, dI)) (ci := 9) (v := .ref xD) (C := RX9) (T := TX9) (N := 9) hx hb hts i_X9 hown hK hP 0 rfl rfl 1 (Nat.le_of_ble_eq_true rfl) (hts _ q_444) (fun _ h9 => h9) rfl eX9_soonest_32.2.2.2.2.2.2.2.2.2.2.1 ?_
    refine lv_iload_n hx hb eX9_soonest_32.2.2.2.2.2.2.2.2.2.2.2.1 rfl (lv_at hl 3 rfl) ?_
    have hm := mgk (wc := (wd_X5_reachedBy cI cC cZ cB cJ xD wY wJ uE qU uJ uL uI tX jE mX pD oO oQ eG oX rJ pN rP rX bZ bD bI aI)) hP mk_147 21 rfl rfl rfl
    refine g_calli hP hD hS hA (mixT mk_147) (mixF mk_147) hm.1 hm.2 (nd_F _) (dis_g _) (g_runV (As := [.int x3]) (rest := [.int oX]) C0 hP hD hS (mixT mk_147) hm.1 (nd_T _) 1 5 rfl rfl (c_X5_reachedBy l dC dI cI cC cZ cB cJ xD wY wJ uE qU uJ uL uI tX jE mX pD oO oQ eG H.size x3 oX rJ pN rP rX bZ bD bI aI _ hp) q_430 q_472 q_432 q_433 q_431 h_X5_reachedBy rfl rfl ⟨Nat.le_of_ble_eq_true rfl, Nat.le_of_ble_eq_true rfl⟩ rfl rfl hl.1 rfl (lv_room (Nat.le_of_ble_eq_true rfl)) eX9_soonest_32.2.2.2.2.2.2.2.2.2.2.2.2.1 ⟨Nat.zero_le _, Nat.zero_le _⟩) (fun r_15 u H locs hp hP hD hS => ?_)
    have hPD := PDm (ws' := (wd_X9_soonest cI cC cZ cB cJ a_x xG xD wY wJ wQ xI xK xJ tW uE qU uJ uL uI xH tX jE mX pD oO oQ eG uS sW uR qY sY qT oX rJ pN rP rX rO vI bZ bD bI aI wD gF pE qA nJ nY dQ jC eO eW dO fJ fY jD nG pG qB sH uP pQ mW qO qQ oF qF jJ)) hP hD 21 rfl rfl rfl
    have hP := hPD.1
    have hD := hPD.2
    refine lv_iconst (v := (-1)) hx hb eX9_soonest_32.2.2.2.2.2.2.2.2.2.2.2.2.2.1 ic_m1 ?_
    refine lv_ixor hx hb eX9_soonest_32.2.2.2.2.2.2.2.2.2.2.2.2.2.2.1 ?_
    refine lv_iand hx hb eX9_soonest_32.2.2.2.2.2.2.2.2.2.2.2.2.2.2.2 ?_
    refine lv_if_ne (tgt := 100) hx hb eX9_soonest_62.1 (by decide) (fun hc => ?_) (fun hc => ?_)
    · have hp := hp.1 hc
      exact ks_X9_soonest_100 C0 hKn x1 x2 x3 oX rJ pN rP rX rO vI qO qQ qF jJ H locs ls hp hP hD hS (lv_sub hl [0, 1, 2, 3] rfl)
    · have hp := hp.2 hc
      refine lv_aload_n hx hb eX9_soonest_62.2.1 rfl (lv_at hl 0 rfl) ?_
      refine va_get (D := (dC, dI)) (ci := 9) (v := .ref xD) (C := RX9) (T := TX9) (N := 9) hx hb hts i_X9 hown hK hP 0 rfl rfl 1 (Nat.le_of_ble_eq_true rfl) (hts _ q_444) (fun _ h9 => h9) rfl eX9_soonest_62.2.2.1 ?_
      refine lv_iload_n hx hb eX9_soonest_62.2.2.2.1 rfl (lv_at hl 3 rfl) ?_
      have hm := mgk (wc := (wd_X5_workSeconds cI cC cZ cB cJ xD wY wJ uE qU uJ uL uI wQ xH tX jE mX pD oO oQ eG oX rJ pN rP rX rO vI bZ bD bI aI nJ nY dQ jC eO eW dO fJ fY jD nG)) hP mk_145 21 rfl rfl rfl
      refine g_calli hP hD hS hA (mixT mk_145) (mixF mk_145) hm.1 hm.2 (nd_F _) (dis_g _) (g_runV (As := [.int x3]) (rest := []) C0 hP hD hS (mixT mk_145) hm.1 (nd_T _) 1 5 rfl rfl (c_X5_workSeconds l dC dI cI cC cZ cB cJ xD wY wJ uE qU uJ uL uI wQ xH tX jE mX pD oO oQ eG H.size x3 oX rJ pN rP rX rO vI bZ bD bI aI nJ nY dQ jC eO eW dO fJ fY jD nG _ hp) q_528 q_531 q_529 q_530 q_431 h_X5_workSeconds rfl rfl ⟨Nat.le_of_ble_eq_true rfl, Nat.le_of_ble_eq_true rfl⟩ rfl rfl hl.1 rfl (lv_room (Nat.le_of_ble_eq_true rfl)) eX9_soonest_62.2.2.2.2.1 ⟨Nat.zero_le _, Nat.zero_le _⟩) (fun r_17 u H locs hp hP hD hS => ?_)
      obtain ⟨aCC, aBx, aCD, aEv⟩ := u
      have hPD := PDm (ws' := (wd_X9_soonest cI cC cZ cB cJ a_x xG xD wY wJ wQ xI xK xJ tW uE qU uJ uL uI xH tX jE mX pD oO oQ eG uS sW uR qY sY qT oX aCC aBx aCD rX rO aEv bZ bD bI aI wD gF pE qA nJ nY dQ jC eO eW dO fJ fY jD nG pG qB sH uP pQ mW qO qQ oF qF jJ)) hP hD 21 rfl rfl rfl
      have hP := hPD.1
      have hD := hPD.2
      refine lv_istore (lv' := [(4, .int r_17), (0, .ref a_x), (1, .int x1), (2, .int x2), (3, .int x3)]) hx hb eX9_soonest_62.2.2.2.2.2.1 hl (by decide) rfl (fun ls hl => ?_)
      refine lv_iload hx hb eX9_soonest_62.2.2.2.2.2.2.1 (lv_at hl 0 rfl) ?_
      refine lv_iload_n hx hb eX9_soonest_62.2.2.2.2.2.2.2.1 rfl (lv_at hl 3 rfl) ?_
      refine lv_icmp_lt (tgt := 95) hx hb eX9_soonest_62.2.2.2.2.2.2.2.2.1 (by decide) (fun hc => ?_) (fun hc => ?_)
      · have hp := hp.1 hc
        exact ks_X9_soonest_95 C0 hKn x3 r_17 oX aCC aBx aCD rX rO aEv qO qQ qF jJ H locs ls hp hP hD hS (lv_sub hl [1, 4, 0] rfl)
      · have hp := hp.2 hc
        refine lv_iload hx hb eX9_soonest_62.2.2.2.2.2.2.2.2.2.1 (lv_at hl 0 rfl) ?_
        refine lv_iload_n hx hb eX9_soonest_62.2.2.2.2.2.2.2.2.2.2.1 rfl (lv_at hl 3 rfl) ?_
        refine lv_icmp_ne (tgt := 100) hx hb eX9_soonest_62.2.2.2.2.2.2.2.2.2.2.2.1 (by decide) (fun hc => ?_) (fun hc => ?_)
        · have hp := hp.1 hc
          exact ks_X9_soonest_100 C0 hKn x1 x2 x3 oX aCC aBx aCD rX rO aEv qO qQ qF jJ H locs ls hp hP hD hS (lv_sub hl [1, 2, 3, 4] rfl)
        · have hp := hp.2 hc
          refine lv_iload_n hx hb eX9_soonest_62.2.2.2.2.2.2.2.2.2.2.2.2.1 rfl (lv_at hl 4 rfl) ?_
          refine lv_iload_n hx hb eX9_soonest_62.2.2.2.2.2.2.2.2.2.2.2.2.2.1 rfl (lv_at hl 2 rfl) ?_
          have hm := mgk (wc := (wd_X9_isFewer cI cC cZ cB cJ)) hP mk_148 21 rfl rfl rfl
          refine g_calli hP hD hS hA (mixT mk_148) (mixF mk_148) hm.1 hm.2 (nd_F _) (dis_g _) (g_runS (As := [.int x3, .int x1]) (rest := []) C0 hP hD hS (mixT mk_148) hm.1 (nd_T _) (c_X9_isFewer l dC dI cI cC cZ cB cJ H.size x3 x1 _ hp) q_479 q_481 q_480 q_256 h_X9_isFewer rfl rfl ⟨Nat.le_of_ble_eq_true rfl, Nat.le_of_ble_eq_true rfl⟩ rfl rfl hl.1 rfl (lv_room (Nat.le_of_ble_eq_true rfl)) eX9_soonest_62.2.2.2.2.2.2.2.2.2.2.2.2.2.2.1 ⟨Nat.zero_le _, Nat.zero_le _⟩) (fun r_22 u H locs hp hP hD hS => ?_)
          have hPD := PDm (ws' := (wd_X9_soonest cI cC cZ cB cJ a_x xG xD wY wJ wQ xI xK xJ tW uE qU uJ uL uI xH tX jE mX pD oO oQ eG uS sW uR qY sY qT oX aCC aBx aCD rX rO aEv bZ bD bI aI wD gF pE qA nJ nY dQ jC eO eW dO fJ fY jD nG pG qB sH uP pQ mW qO qQ oF qF jJ)) hP hD 21 rfl rfl rfl
          have hP := hPD.1
          have hD := hPD.2
          refine lv_if_eq (tgt := 100) hx hb eX9_soonest_62.2.2.2.2.2.2.2.2.2.2.2.2.2.2.2 (by decide) (fun hc => ?_) (fun hc => ?_)
          · have hp := hp.1 hc
            exact ks_X9_soonest_100 C0 hKn x1 x2 x3 oX aCC aBx aCD rX rO aEv qO qQ qF jJ H locs ls hp hP hD hS (lv_sub hl [1, 2, 3, 4] rfl)
          · have hp := hp.2 hc
            exact ks_X9_soonest_95 C0 hKn x3 r_17 oX aCC aBx aCD rX rO aEv qO qQ qF jJ H locs ls hp hP hD hS (lv_sub hl [1, 4, 0] rfl)
set_option maxHeartbeats 4000000 in
set_option maxRecDepth 100000 in
theorem kb_X9_soonest_33 (C0 : gc cX9_soonest (some .int) 5 RX9 (dC, dI) (tyl cI cC cZ cB cJ) A p s m args meth c) : ∀ (n : Nat), ∀ (x1 x2 x3 oX rJ pN rP : Int32) (rX rO vI qO qQ : Nat → Int32) (qF : Int32) (jJ : Nat → Int32) (H : Heap) (locs : List Loc) (ls : Array Slot), (wb_X9_soonest_33 post bZ bD wD gF pE qA nJ nY dQ jC eO eW dO fJ fY jD pG oF n) x1 x2 x3 oX rJ pN rP rX rO vI qO qQ qF jJ → va_P (dC, dI) classes (wd_X9_soonest cI cC cZ cB cJ a_x xG xD wY wJ wQ xI xK xJ tW uE qU uJ uL uI xH tX jE mX pD oO oQ eG uS sW uR qY sY qT oX rJ pN rP rX rO vI bZ bD bI aI wD gF pE qA nJ nY dQ jC eO eW dO fJ fY jD nG pG qB sH uP pQ mW qO qQ oF qF jJ) H → va_D A (wd_X9_soonest cI cC cZ cB cJ a_x xG xD wY wJ wQ xI xK xJ tW uE qU uJ uL uI xH tX jE mX pD oO oQ eG uS sW uR qY sY qT oX rJ pN rP rX rO vI bZ bD bI aI wD gF pE qA nJ nY dQ jC eO eW dO fJ fY jD nG pG qB sH uP pQ mW qO qQ oF qF jJ) → va_S A s.heap H locs → lv_has ls 5 [(0, .ref a_x), (1, .int x1), (2, .int x2), (3, .int x3)] → W p l e rm_X9_soonest s m args below meth c H locs 0 0 (MQ below (q_X9_soonest dC dI cI cC cZ cB cJ A a_x xG xD wY wJ wQ xI xK xJ tW uE qU uJ uL uI xH tX jE mX pD oO oQ eG uS sW uR qY sY qT bZ bD bI aI wD gF pE qA nJ nY dQ jC eO eW dO fJ fY jD nG pG qB sH uP pQ mW oF post) args s 0 0 A) (F0 m 33 ls []) := by
  intro n
  induction n with
  | zero =>
    intro x1 x2 x3 oX rJ pN rP rX rO vI qO qQ qF jJ H locs ls hp
    exact False.elim hp
  | succ n ih =>
    intro x1 x2 x3 oX rJ pN rP rX rO vI qO qQ qF jJ H locs ls hp
    exact ks_X9_soonest_33 C0 ih x1 x2 x3 oX rJ pN rP rX rO vI qO qQ qF jJ H locs ls hp
end S_X9_soonest
noncomputable def wp_X9_soonest (post : Int32 → Int32 → Int32 → Int32 → Int32 → (Nat → Int32) → (Nat → Int32) → (Nat → Int32) → (Nat → Int32) → (Nat → Int32) → Int32 → (Nat → Int32) → Prop) (oX rJ pN rP : Int32) (rX rO vI : Nat → Int32) (bZ bD : Int32) (wD gF pE qA nJ nY dQ : Nat → Int32) (jC eO eW dO fJ fY jD pG : Int32) (qO qQ oF : Nat → Int32) (qF : Int32) (jJ : Nat → Int32) : Prop := wp_X5_look (fun xM xQ => wp_X5_timeAll (fun aBd aEw aEx => wp_X3_allStandings (fun r_6 => wp_X5_workSeconds (fun r_7 aB5 aBb aBw aF5 => ∃ n : Nat, wb_X9_soonest_33 post bZ bD wD gF pE qA nJ nY dQ jC eO eW dO fJ fY jD pG oF n r_6 r_7 0 xM aB5 aBb aBw xQ aBd aF5 aEw aEx qF jJ) r_6 xM rJ pN rP xQ aBd vI bZ bD nJ nY dQ fJ) bD) xM xQ rO bZ bD wD gF pE nJ nY dO pG qO qQ oF) oX rX bZ bD wD gF qA nJ nY dQ jC eO eW fY jD
set_option maxHeartbeats 4000000 in
set_option maxRecDepth 100000 in
theorem c_X9_soonest (l : Launch) (dC : Nat → ClassId) (dI : Nat → Nat → Nat) (cI cC cZ cB cJ : ClassId) (a_x xG xD wY wJ wQ xI xK xJ tW uE qU uJ uL uI xH tX jE mX pD oO oQ eG uS sW uR qY sY qT sz : Nat) (oX rJ pN rP : Int32) (rX rO vI : Nat → Int32) (bZ bD bI aI : Int32) (wD gF pE qA nJ nY dQ : Nat → Int32) (jC eO eW dO fJ fY jD nG pG qB sH uP pQ mW : Int32) (qO qQ oF : Nat → Int32) (qF : Int32) (jJ : Nat → Int32) (post : Int32 → Int32 → Int32 → Int32 → Int32 → (Nat → Int32) → (Nat → Int32) → (Nat → Int32) → (Nat → Int32) → (Nat → Int32) → Int32 → (Nat → Int32) → Prop) (hw : wp_X9_soonest post oX rJ pN rP rX rO vI bZ bD wD gF pE qA nJ nY dQ jC eO eW dO fJ fY jD pG qO qQ oF qF jJ) : Met l yX9_soonest (gw yX9_soonest cX9_soonest 5 (some .int)) rm_X9_soonest (va_Pc [.ref a_x] (gPre (dC, dI) (tyl cI cC cZ cB cJ) (wd_X9_soonest cI cC cZ cB cJ a_x xG xD wY wJ wQ xI xK xJ tW uE qU uJ uL uI xH tX jE mX pD oO oQ eG uS sW uR qY sY qT oX rJ pN rP rX rO vI bZ bD bI aI wD gF pE qA nJ nY dQ jC eO eW dO fJ fY jD nG pG qB sH uP pQ mW qO qQ oF qF jJ) sz)) (q_X9_soonest dC dI cI cC cZ cB cJ (va_A (wd_X9_soonest cI cC cZ cB cJ a_x xG xD wY wJ wQ xI xK xJ tW uE qU uJ uL uI xH tX jE mX pD oO oQ eG uS sW uR qY sY qT oX rJ pN rP rX rO vI bZ bD bI aI wD gF pE qA nJ nY dQ jC eO eW dO fJ fY jD nG pG qB sH uP pQ mW qO qQ oF qF jJ) sz) a_x xG xD wY wJ wQ xI xK xJ tW uE qU uJ uL uI xH tX jE mX pD oO oQ eG uS sW uR qY sY qT bZ bD bI aI wD gF pE qA nJ nY dQ jC eO eW dO fJ fY jD nG pG qB sH uP pQ mW oF post) 0 0 (va_A (wd_X9_soonest cI cC cZ cB cJ a_x xG xD wY wJ wQ xI xK xJ tW uE qU uJ uL uI xH tX jE mX pD oO oQ eG uS sW uR qY sY qT oX rJ pN rP rX rO vI bZ bD bI aI wD gF pE qA nJ nY dQ jC eO eW dO fJ fY jD nG pG qB sH uP pQ mW qO qQ oF qF jJ) sz) := by
  refine g_enter (own := RX9) (dC, dI) (tyl cI cC cZ cB cJ) (wd_X9_soonest cI cC cZ cB cJ a_x xG xD wY wJ wQ xI xK xJ tW uE qU uJ uL uI xH tX jE mX pD oO oQ eG uS sW uR qY sY qT oX rJ pN rP rX rO vI bZ bD bI aI wD gF pE qA nJ nY dQ jC eO eW dO fJ fY jD nG pG qB sH uP pQ mW qO qQ oF qF jJ) sz [.ref a_x] (fun A => q_X9_soonest dC dI cI cC cZ cB cJ A a_x xG xD wY wJ wQ xI xK xJ tW uE qU uJ uL uI xH tX jE mX pD oO oQ eG uS sW uR qY sY qT bZ bD bI aI wD gF pE qA nJ nY dQ jC eO eW dO fJ fY jD nG pG qB sH uP pQ mW oF post) pn_RX9 rfl (Nat.le_of_ble_eq_true rfl) ?_
  intro p e s m args below meth c A H locs ls C0 hP hD hS hl
  have hl : lv_has ls 5 [(0, .ref a_x)] := hl
  obtain ⟨hx, hb, hr, hml, hown, hts, hlocks, hA, hK, hN, tL, tM, hZL, hTL, hZM, hTM, hZX⟩ := id C0
  have hp := hw
  unfold wp_X9_soonest at hp
  refine lv_aload_n hx hb eX9_soonest_0.1 rfl (lv_at hl 0 rfl) ?_
  refine va_get (D := (dC, dI)) (ci := 9) (v := .ref xD) (C := RX9) (T := TX9) (N := 9) hx hb hts i_X9 hown hK hP 0 rfl rfl 1 (Nat.le_of_ble_eq_true rfl) (hts _ q_444) (fun _ h9 => h9) rfl eX9_soonest_0.2.1 ?_
  have hm := mgk (wc := (wd_X5_look cI cC cZ cB cJ xD wY wJ uE qU uJ uL uI wQ xH tX jE mX pD oO oQ eG oX rJ pN rP rX bZ bD bI aI wD gF qA nJ nY dQ jC eO eW dO fJ fY jD nG)) hP mk_143 21 rfl rfl rfl
  refine g_callv hP hD hS hA (mixT mk_143) (mixF mk_143) hm.1 hm.2 (nd_F _) (dis_g _) (g_runV (As := []) (rest := []) C0 hP hD hS (mixT mk_143) hm.1 (nd_T _) 1 5 rfl rfl (c_X5_look l dC dI cI cC cZ cB cJ xD wY wJ uE qU uJ uL uI wQ xH tX jE mX pD oO oQ eG H.size oX rJ pN rP rX bZ bD bI aI wD gF qA nJ nY dQ jC eO eW dO fJ fY jD nG _ hp) q_445 q_448 q_446 q_447 q_431 h_X5_look rfl rfl ⟨Nat.le_of_ble_eq_true rfl, Nat.le_of_ble_eq_true rfl⟩ rfl rfl hl.1 rfl (lv_room (Nat.le_of_ble_eq_true rfl)) eX9_soonest_0.2.2.1 ⟨Nat.zero_le _, Nat.zero_le _⟩) (fun u H locs hp hP hD hS => ?_)
  obtain ⟨xM, xQ⟩ := u
  have hPD := PDm (ws' := (wd_X9_soonest cI cC cZ cB cJ a_x xG xD wY wJ wQ xI xK xJ tW uE qU uJ uL uI xH tX jE mX pD oO oQ eG uS sW uR qY sY qT xM rJ pN rP xQ rO vI bZ bD bI aI wD gF pE qA nJ nY dQ jC eO eW dO fJ fY jD nG pG qB sH uP pQ mW qO qQ oF qF jJ)) hP hD 21 rfl rfl rfl
  have hP := hPD.1
  have hD := hPD.2
  refine lv_aload_n hx hb eX9_soonest_0.2.2.2.1 rfl (lv_at hl 0 rfl) ?_
  refine va_get (D := (dC, dI)) (ci := 9) (v := .ref xD) (C := RX9) (T := TX9) (N := 9) hx hb hts i_X9 hown hK hP 0 rfl rfl 1 (Nat.le_of_ble_eq_true rfl) (hts _ q_444) (fun _ h9 => h9) rfl eX9_soonest_0.2.2.2.2.1 ?_
  have hm := mgk (wc := (wd_X5_timeAll cI cC cZ cB cJ xD wY wJ uE qU uJ uL uI wQ xH tX jE mX pD oO oQ eG uS sW uR qY sY xM rJ pN rP xQ rO bZ bD bI aI wD gF pE nJ nY jC eO eW dO fJ fY jD nG pG qB sH uP pQ mW qO qQ oF)) hP mk_144 21 rfl rfl rfl
  refine g_callv hP hD hS hA (mixT mk_144) (mixF mk_144) hm.1 hm.2 (nd_F _) (dis_g _) (g_runV (As := []) (rest := []) C0 hP hD hS (mixT mk_144) hm.1 (nd_T _) 1 5 rfl rfl (c_X5_timeAll l dC dI cI cC cZ cB cJ xD wY wJ uE qU uJ uL uI wQ xH tX jE mX pD oO oQ eG uS sW uR qY sY H.size xM rJ pN rP xQ rO bZ bD bI aI wD gF pE nJ nY jC eO eW dO fJ fY jD nG pG qB sH uP pQ mW qO qQ oF _ hp) q_524 q_527 q_525 q_526 q_431 h_X5_timeAll rfl rfl ⟨Nat.le_of_ble_eq_true rfl, Nat.le_of_ble_eq_true rfl⟩ rfl rfl hl.1 rfl (lv_room (Nat.le_of_ble_eq_true rfl)) eX9_soonest_0.2.2.2.2.2.1 ⟨Nat.zero_le _, Nat.zero_le _⟩) (fun u H locs hp hP hD hS => ?_)
  obtain ⟨aBd, aEw, aEx⟩ := u
  have hPD := PDm (ws' := (wd_X9_soonest cI cC cZ cB cJ a_x xG xD wY wJ wQ xI xK xJ tW uE qU uJ uL uI xH tX jE mX pD oO oQ eG uS sW uR qY sY qT xM rJ pN rP xQ aBd vI bZ bD bI aI wD gF pE qA nJ nY dQ jC eO eW dO fJ fY jD nG pG qB sH uP pQ mW aEw aEx oF qF jJ)) hP hD 21 rfl rfl rfl
  have hP := hPD.1
  have hD := hPD.2
  refine lv_aload_n hx hb eX9_soonest_0.2.2.2.2.2.2.1 rfl (lv_at hl 0 rfl) ?_
  refine va_get (D := (dC, dI)) (ci := 9) (v := .ref wJ) (C := RX9) (T := TX9) (N := 9) hx hb hts i_X9 hown hK hP 0 rfl rfl 3 (Nat.le_of_ble_eq_true rfl) (hts _ q_74) (fun _ h9 => h9) rfl eX9_soonest_0.2.2.2.2.2.2.2.1 ?_
  have hm := mgk (wc := (wd_X3_allStandings cI cC cZ cB cJ wJ tX jE mX pD oO oQ eG bZ bD bI aI)) hP mk_142 21 rfl rfl rfl
  refine g_calli hP hD hS hA (mixT mk_142) (mixF mk_142) hm.1 hm.2 (nd_F _) (dis_g _) (g_runV (As := []) (rest := []) C0 hP hD hS (mixT mk_142) hm.1 (nd_T _) 6 3 rfl rfl (c_X3_allStandings l dC dI cI cC cZ cB cJ wJ tX jE mX pD oO oQ eG H.size bZ bD bI aI _ hp) q_426 q_463 q_427 q_428 q_48 h_X3_allStandings rfl rfl ⟨Nat.le_of_ble_eq_true rfl, Nat.le_of_ble_eq_true rfl⟩ rfl rfl hl.1 rfl (lv_room (Nat.le_of_ble_eq_true rfl)) eX9_soonest_0.2.2.2.2.2.2.2.2.1 ⟨Nat.zero_le _, Nat.zero_le _⟩) (fun r_6 u H locs hp hP hD hS => ?_)
  have hPD := PDm (ws' := (wd_X9_soonest cI cC cZ cB cJ a_x xG xD wY wJ wQ xI xK xJ tW uE qU uJ uL uI xH tX jE mX pD oO oQ eG uS sW uR qY sY qT xM rJ pN rP xQ aBd vI bZ bD bI aI wD gF pE qA nJ nY dQ jC eO eW dO fJ fY jD nG pG qB sH uP pQ mW aEw aEx oF qF jJ)) hP hD 21 rfl rfl rfl
  have hP := hPD.1
  have hD := hPD.2
  refine lv_istore_n (lv' := [(1, .int r_6), (0, .ref a_x)]) hx hb eX9_soonest_0.2.2.2.2.2.2.2.2.2.1 rfl hl (by decide) rfl (fun ls hl => ?_)
  refine lv_aload_n hx hb eX9_soonest_0.2.2.2.2.2.2.2.2.2.2.1 rfl (lv_at hl 1 rfl) ?_
  refine va_get (D := (dC, dI)) (ci := 9) (v := .ref xD) (C := RX9) (T := TX9) (N := 9) hx hb hts i_X9 hown hK hP 0 rfl rfl 1 (Nat.le_of_ble_eq_true rfl) (hts _ q_444) (fun _ h9 => h9) rfl eX9_soonest_0.2.2.2.2.2.2.2.2.2.2.2.1 ?_
  refine lv_iload_n hx hb eX9_soonest_0.2.2.2.2.2.2.2.2.2.2.2.2.1 rfl (lv_at hl 0 rfl) ?_
  have hm := mgk (wc := (wd_X5_workSeconds cI cC cZ cB cJ xD wY wJ uE qU uJ uL uI wQ xH tX jE mX pD oO oQ eG xM rJ pN rP xQ aBd vI bZ bD bI aI nJ nY dQ jC eO eW dO fJ fY jD nG)) hP mk_145 21 rfl rfl rfl
  refine g_calli hP hD hS hA (mixT mk_145) (mixF mk_145) hm.1 hm.2 (nd_F _) (dis_g _) (g_runV (As := [.int r_6]) (rest := []) C0 hP hD hS (mixT mk_145) hm.1 (nd_T _) 1 5 rfl rfl (c_X5_workSeconds l dC dI cI cC cZ cB cJ xD wY wJ uE qU uJ uL uI wQ xH tX jE mX pD oO oQ eG H.size r_6 xM rJ pN rP xQ aBd vI bZ bD bI aI nJ nY dQ jC eO eW dO fJ fY jD nG _ hp) q_528 q_531 q_529 q_530 q_431 h_X5_workSeconds rfl rfl ⟨Nat.le_of_ble_eq_true rfl, Nat.le_of_ble_eq_true rfl⟩ rfl rfl hl.1 rfl (lv_room (Nat.le_of_ble_eq_true rfl)) eX9_soonest_0.2.2.2.2.2.2.2.2.2.2.2.2.2.1 ⟨Nat.zero_le _, Nat.zero_le _⟩) (fun r_7 u H locs hp hP hD hS => ?_)
  obtain ⟨aB5, aBb, aBw, aF5⟩ := u
  have hPD := PDm (ws' := (wd_X9_soonest cI cC cZ cB cJ a_x xG xD wY wJ wQ xI xK xJ tW uE qU uJ uL uI xH tX jE mX pD oO oQ eG uS sW uR qY sY qT xM aB5 aBb aBw xQ aBd aF5 bZ bD bI aI wD gF pE qA nJ nY dQ jC eO eW dO fJ fY jD nG pG qB sH uP pQ mW aEw aEx oF qF jJ)) hP hD 21 rfl rfl rfl
  have hP := hPD.1
  have hD := hPD.2
  refine lv_istore_n (lv' := [(2, .int r_7), (1, .int r_6), (0, .ref a_x)]) hx hb eX9_soonest_0.2.2.2.2.2.2.2.2.2.2.2.2.2.2.1 rfl hl (by decide) rfl (fun ls hl => ?_)
  refine lv_iconst (v := 0) hx hb eX9_soonest_0.2.2.2.2.2.2.2.2.2.2.2.2.2.2.2 ic_0 ?_
  refine lv_istore_n (lv' := [(3, .int 0), (2, .int r_7), (1, .int r_6), (0, .ref a_x)]) hx hb eX9_soonest_32.1 rfl hl (by decide) rfl (fun ls hl => ?_)
  obtain ⟨n9, hp⟩ := hp
  exact kb_X9_soonest_33 C0 n9 r_6 r_7 0 xM aB5 aBb aBw xQ aBd aF5 aEw aEx qF jJ H locs ls hp hP hD hS (lv_sub hl [3, 2, 1, 0] rfl)
noncomputable abbrev wd_X9_pays (cI cC cZ cB cJ : ClassId) (a_x xG xD wY wJ wQ xI xK xJ tW uE qU uJ uL uI xH tX jE mX pD oO oQ eG uS sW uR qY sY qT : Nat) (oX rJ pN rP : Int32) (rX : Nat → Int32) (bZ bD bI aI : Int32) (wD gF pE qA nJ nY dQ : Nat → Int32) (jC eO eW dO fJ fY jD nG pG qB sH uP pQ mW : Int32) (qO qQ oF : Nat → Int32) (qF : Int32) (jJ : Nat → Int32) : va_W := [(a_x, .inr (9, [.ref xG, .ref xD, .ref wY, .ref wJ, .ref wQ, .ref xI, .ref xK, .ref xJ, .ref tW])), (xD, .inr (5, [.ref wY, .ref wJ, .ref uE, .ref qU, .ref uJ, .ref uL, .ref uI, .int oX, .int rJ, .int pN, .int rP])), (uE, .inl (cI, 8, .inl rX)), (wY, .inr (0, [.ref wJ, .ref wQ, .ref xH])), (wJ, .inr (3, [.ref tX, .ref jE, .ref mX, .ref pD, .ref oO, .ref oQ, .ref eG, .int bZ, .int bD, .int bI, .int aI])), (tX, .inl (cI, 16, .inl wD)), (jE, .inl (cI, 16, .inl gF)), (mX, .inl (cI, 16, .inl pE)), (pD, .inl (cI, 16, .inl qA)), (oO, .inl (cI, 8, .inl nJ)), (oQ, .inl (cI, 8, .inl nY)), (eG, .inl (cI, 5, .inl dQ)), (wQ, .inr (2, [.int jC, .int eO, .int eW, .int dO, .int fJ, .int fY, .int jD, .int nG])), (xH, .inr (7, [.ref uS, .ref sW, .ref uR, .ref qY, .ref sY, .int pG, .int qB, .int sH, .int uP, .int pQ, .int mW])), (uS, .inl (cI, 7, .inl qO)), (uR, .inl (cI, 40, .inl qQ)), (qY, .inl (cI, 40, .inl oF)), (xK, .inr (6, [.ref qT, .int qF])), (qT, .inl (cI, 16, .inl jJ))]
noncomputable abbrev q_X9_pays (dC : Nat → ClassId) (dI : Nat → Nat → Nat) (cI cC cZ cB cJ : ClassId) (A : Nat → Prop) (a_x xG xD wY wJ wQ xI xK xJ tW uE qU uJ uL uI xH tX jE mX pD oO oQ eG uS sW uR qY sY qT : Nat) (rJ pN rP bZ bD bI aI : Int32) (wD gF pE qA nJ nY dQ : Nat → Int32) (jC eO eW dO fJ fY jD nG pG qB sH uP pQ mW : Int32) (oF : Nat → Int32) (post : Int32 → Int32 → (Nat → Int32) → (Nat → Int32) → (Nat → Int32) → Int32 → (Nat → Int32) → Prop) : Array Value → State → Outcome → State → Prop := va_Qi (fun (r : Int32) (u : Int32 × (Nat → Int32) × (Nat → Int32) × (Nat → Int32) × Int32 × (Nat → Int32)) => post r u.1 u.2.1 u.2.2.1 u.2.2.2.1 u.2.2.2.2.1 u.2.2.2.2.2) (fun u t => gB (dC, dI) (tyl cI cC cZ cB cJ) A (wd_X9_pays cI cC cZ cB cJ a_x xG xD wY wJ wQ xI xK xJ tW uE qU uJ uL uI xH tX jE mX pD oO oQ eG uS sW uR qY sY qT u.1 rJ pN rP u.2.1 bZ bD bI aI wD gF pE qA nJ nY dQ jC eO eW dO fJ fY jD nG pG qB sH uP pQ mW u.2.2.1 u.2.2.2.1 oF u.2.2.2.2.1 u.2.2.2.2.2) t) A
noncomputable abbrev rm_X9_pays : Room := { frames := 5, cells := 0, slots := 0, locals := 115 }
section S_X9_pays
variable {p : Program} {l : Launch} {e : Env} {s : State} {m : MethodId} {args : Array Value} {below : List Frame} {meth : Method} {c : Code} {dC : Nat → ClassId} {dI : Nat → Nat → Nat} {cI cC cZ cB cJ : ClassId} {A : Nat → Prop} {a_x xG xD wY wJ wQ xI xK xJ tW uE qU uJ uL uI xH tX jE mX pD oO oQ eG uS sW uR qY sY qT : Nat} {rJ pN rP bZ bD bI aI : Int32} {wD gF pE qA nJ nY dQ : Nat → Int32} {jC eO eW dO fJ fY jD nG pG qB sH uP pQ mW : Int32} {oF : Nat → Int32} {post : Int32 → Int32 → (Nat → Int32) → (Nat → Int32) → (Nat → Int32) → Int32 → (Nat → Int32) → Prop}
noncomputable def ws_X9_pays_104 (post : Int32 → Int32 → (Nat → Int32) → (Nat → Int32) → (Nat → Int32) → Int32 → (Nat → Int32) → Prop) (K66 : Int32 → Int32 → Int32 → Int32 → Int32 → Int32 → (Nat → Int32) → (Nat → Int32) → (Nat → Int32) → Int32 → (Nat → Int32) → Prop) (bZ bD : Int32) (wD gF pE qA nJ nY dQ : Nat → Int32) (jC eO eW dO fJ fY jD pG : Int32) (oF : Nat → Int32) (x1 x2 x3 x4 x5 oX : Int32) (rX qO qQ : Nat → Int32) (qF : Int32) (jJ : Nat → Int32) : Prop := ∀ v_12 : Int32, v_12 = x5 + 1 → K66 x1 x2 x3 x4 v_12 oX rX qO qQ qF jJ
set_option maxHeartbeats 4000000 in
set_option maxRecDepth 100000 in
theorem ks_X9_pays_104 (C0 : gc cX9_pays (some .int) 6 RX9 (dC, dI) (tyl cI cC cZ cB cJ) A p s m args meth c) {K66 : Int32 → Int32 → Int32 → Int32 → Int32 → Int32 → (Nat → Int32) → (Nat → Int32) → (Nat → Int32) → Int32 → (Nat → Int32) → Prop} (hK66 : ∀ (x1 : Int32) (x2 : Int32) (x3 : Int32) (x4 : Int32) (x5 : Int32) (oX : Int32) (rX : Nat → Int32) (qO : Nat → Int32) (qQ : Nat → Int32) (qF : Int32) (jJ : Nat → Int32) (H : Heap) (locs : List Loc) (ls : Array Slot), K66 x1 x2 x3 x4 x5 oX rX qO qQ qF jJ → va_P (dC, dI) classes (wd_X9_pays cI cC cZ cB cJ a_x xG xD wY wJ wQ xI xK xJ tW uE qU uJ uL uI xH tX jE mX pD oO oQ eG uS sW uR qY sY qT oX rJ pN rP rX bZ bD bI aI wD gF pE qA nJ nY dQ jC eO eW dO fJ fY jD nG pG qB sH uP pQ mW qO qQ oF qF jJ) H → va_D A (wd_X9_pays cI cC cZ cB cJ a_x xG xD wY wJ wQ xI xK xJ tW uE qU uJ uL uI xH tX jE mX pD oO oQ eG uS sW uR qY sY qT oX rJ pN rP rX bZ bD bI aI wD gF pE qA nJ nY dQ jC eO eW dO fJ fY jD nG pG qB sH uP pQ mW qO qQ oF qF jJ) → va_S A s.heap H locs → lv_has ls 6 [(0, .ref a_x), (1, .int x1), (2, .int x2), (3, .int x3), (4, .int x4), (5, .int x5)] → W p l e rm_X9_pays s m args below meth c H locs 0 0 (MQ below (q_X9_pays dC dI cI cC cZ cB cJ A a_x xG xD wY wJ wQ xI xK xJ tW uE qU uJ uL uI xH tX jE mX pD oO oQ eG uS sW uR qY sY qT rJ pN rP bZ bD bI aI wD gF pE qA nJ nY dQ jC eO eW dO fJ fY jD nG pG qB sH uP pQ mW oF post) args s 0 0 A) (F0 m 66 ls [])) : ∀ (x1 x2 x3 x4 x5 oX : Int32) (rX qO qQ : Nat → Int32) (qF : Int32) (jJ : Nat → Int32) (H : Heap) (locs : List Loc) (ls : Array Slot), (ws_X9_pays_104 post K66 bZ bD wD gF pE qA nJ nY dQ jC eO eW dO fJ fY jD pG oF) x1 x2 x3 x4 x5 oX rX qO qQ qF jJ → va_P (dC, dI) classes (wd_X9_pays cI cC cZ cB cJ a_x xG xD wY wJ wQ xI xK xJ tW uE qU uJ uL uI xH tX jE mX pD oO oQ eG uS sW uR qY sY qT oX rJ pN rP rX bZ bD bI aI wD gF pE qA nJ nY dQ jC eO eW dO fJ fY jD nG pG qB sH uP pQ mW qO qQ oF qF jJ) H → va_D A (wd_X9_pays cI cC cZ cB cJ a_x xG xD wY wJ wQ xI xK xJ tW uE qU uJ uL uI xH tX jE mX pD oO oQ eG uS sW uR qY sY qT oX rJ pN rP rX bZ bD bI aI wD gF pE qA nJ nY dQ jC eO eW dO fJ fY jD nG pG qB sH uP pQ mW qO qQ oF qF jJ) → va_S A s.heap H locs → lv_has ls 6 [(0, .ref a_x), (1, .int x1), (2, .int x2), (3, .int x3), (4, .int x4), (5, .int x5)] → W p l e rm_X9_pays s m args below meth c H locs 0 0 (MQ below (q_X9_pays dC dI cI cC cZ cB cJ A a_x xG xD wY wJ wQ xI xK xJ tW uE qU uJ uL uI xH tX jE mX pD oO oQ eG uS sW uR qY sY qT rJ pN rP bZ bD bI aI wD gF pE qA nJ nY dQ jC eO eW dO fJ fY jD nG pG qB sH uP pQ mW oF post) args s 0 0 A) (F0 m 104 ls []) := by
  obtain ⟨hx, hb, hr, hml, hown, hts, hlocks, hA, hK, hN, tL, tM, hZL, hTL, hZM, hTM, hZX⟩ := id C0
  intro x1 x2 x3 x4 x5 oX rX qO qQ qF jJ H locs ls hp hP hD hS hl
  unfold ws_X9_pays_104 at hp
  obtain ⟨v_12, ev_12⟩ : ∃ y : Int32, y = x5 + 1 := ⟨_, rfl⟩
  refine lv_iinc (v := v_12) (lv' := [(5, .int v_12), (0, .ref a_x), (1, .int x1), (2, .int x2), (3, .int x3), (4, .int x4)]) hx hb eX9_pays_93.2.2.2.2.2.2.2.1 hl (k := 5) rfl (by rw [ev_12]; rfl) (by decide) rfl (fun ls hl => ?_)
  have hp := hp v_12 ev_12
  refine lv_goto (tgt := 66) hx hb eX9_pays_93.2.2.2.2.2.2.2.2.1 (by decide) ?_
  exact hK66 x1 x2 x3 x4 v_12 oX rX qO qQ qF jJ H locs ls hp hP hD hS (lv_sub hl [1, 2, 3, 4, 5, 0] rfl)
noncomputable def ws_X9_pays_66 (post : Int32 → Int32 → (Nat → Int32) → (Nat → Int32) → (Nat → Int32) → Int32 → (Nat → Int32) → Prop) (next : Int32 → Int32 → Int32 → Int32 → Int32 → Int32 → (Nat → Int32) → (Nat → Int32) → (Nat → Int32) → Int32 → (Nat → Int32) → Prop) (bZ bD : Int32) (wD gF pE qA nJ nY dQ : Nat → Int32) (jC eO eW dO fJ fY jD pG : Int32) (oF : Nat → Int32) (x1 x2 x3 x4 x5 oX : Int32) (rX qO qQ : Nat → Int32) (qF : Int32) (jJ : Nat → Int32) : Prop := (bZ ≤ x5 → wp_J6_bitCount_0f7a4 (fun r_6 => wp_X3_downsSeconds (fun r_7 => wp_X9_tell__ (fun ro_size_8 ro_numbers_9 => wp_X0_worthOf (fun r_10 => post r_10 oX rX qO qQ ro_size_8 ro_numbers_9) x2 bZ pE dO) x3 x4 r_7 qF jJ) x1 r_6 nY dQ) x2) ∧ (¬ bZ ≤ x5 → ∀ v_11 : Int32, v_11 = x2 >>> (x5 &&& 31) → ((v_11 &&& 1) = 0 → ws_X9_pays_104 post next bZ bD wD gF pE qA nJ nY dQ jC eO eW dO fJ fY jD pG oF x1 x2 x3 x4 x5 oX rX qO qQ qF jJ) ∧ (¬ (v_11 &&& 1) = 0 → wp_X0_pickSeconds (fun r_13 ru_given_14 ru_stack_15 => ∀ v_16 : Int32, v_16 = x4 + r_13 → ws_X9_pays_104 post next bZ bD wD gF pE qA nJ nY dQ jC eO eW dO fJ fY jD pG oF x1 x2 x3 v_16 x5 oX rX ru_given_14 ru_stack_15 qF jJ) x5 x1 0 0 bZ wD gF pE nJ nY dO pG qO qQ oF))
noncomputable def wb_X9_pays_66 (post : Int32 → Int32 → (Nat → Int32) → (Nat → Int32) → (Nat → Int32) → Int32 → (Nat → Int32) → Prop) (bZ bD : Int32) (wD gF pE qA nJ nY dQ : Nat → Int32) (jC eO eW dO fJ fY jD pG : Int32) (oF : Nat → Int32) : Nat → Int32 → Int32 → Int32 → Int32 → Int32 → Int32 → (Nat → Int32) → (Nat → Int32) → (Nat → Int32) → Int32 → (Nat → Int32) → Prop := fun n => Nat.rec (motive := fun _ => Int32 → Int32 → Int32 → Int32 → Int32 → Int32 → (Nat → Int32) → (Nat → Int32) → (Nat → Int32) → Int32 → (Nat → Int32) → Prop) (fun _ _ _ _ _ _ _ _ _ _ _ => False) (fun _ ih => ws_X9_pays_66 post ih bZ bD wD gF pE qA nJ nY dQ jC eO eW dO fJ fY jD pG oF) n
set_option maxHeartbeats 4000000 in
set_option maxRecDepth 100000 in
theorem ks_X9_pays_66 (C0 : gc cX9_pays (some .int) 6 RX9 (dC, dI) (tyl cI cC cZ cB cJ) A p s m args meth c) {next : Int32 → Int32 → Int32 → Int32 → Int32 → Int32 → (Nat → Int32) → (Nat → Int32) → (Nat → Int32) → Int32 → (Nat → Int32) → Prop} (hKn : ∀ (x1 : Int32) (x2 : Int32) (x3 : Int32) (x4 : Int32) (x5 : Int32) (oX : Int32) (rX : Nat → Int32) (qO : Nat → Int32) (qQ : Nat → Int32) (qF : Int32) (jJ : Nat → Int32) (H : Heap) (locs : List Loc) (ls : Array Slot), next x1 x2 x3 x4 x5 oX rX qO qQ qF jJ → va_P (dC, dI) classes (wd_X9_pays cI cC cZ cB cJ a_x xG xD wY wJ wQ xI xK xJ tW uE qU uJ uL uI xH tX jE mX pD oO oQ eG uS sW uR qY sY qT oX rJ pN rP rX bZ bD bI aI wD gF pE qA nJ nY dQ jC eO eW dO fJ fY jD nG pG qB sH uP pQ mW qO qQ oF qF jJ) H → va_D A (wd_X9_pays cI cC cZ cB cJ a_x xG xD wY wJ wQ xI xK xJ tW uE qU uJ uL uI xH tX jE mX pD oO oQ eG uS sW uR qY sY qT oX rJ pN rP rX bZ bD bI aI wD gF pE qA nJ nY dQ jC eO eW dO fJ fY jD nG pG qB sH uP pQ mW qO qQ oF qF jJ) → va_S A s.heap H locs → lv_has ls 6 [(0, .ref a_x), (1, .int x1), (2, .int x2), (3, .int x3), (4, .int x4), (5, .int x5)] → W p l e rm_X9_pays s m args below meth c H locs 0 0 (MQ below (q_X9_pays dC dI cI cC cZ cB cJ A a_x xG xD wY wJ wQ xI xK xJ tW uE qU uJ uL uI xH tX jE mX pD oO oQ eG uS sW uR qY sY qT rJ pN rP bZ bD bI aI wD gF pE qA nJ nY dQ jC eO eW dO fJ fY jD nG pG qB sH uP pQ mW oF post) args s 0 0 A) (F0 m 66 ls [])) : ∀ (x1 x2 x3 x4 x5 oX : Int32) (rX qO qQ : Nat → Int32) (qF : Int32) (jJ : Nat → Int32) (H : Heap) (locs : List Loc) (ls : Array Slot), (ws_X9_pays_66 post next bZ bD wD gF pE qA nJ nY dQ jC eO eW dO fJ fY jD pG oF) x1 x2 x3 x4 x5 oX rX qO qQ qF jJ → va_P (dC, dI) classes (wd_X9_pays cI cC cZ cB cJ a_x xG xD wY wJ wQ xI xK xJ tW uE qU uJ uL uI xH tX jE mX pD oO oQ eG uS sW uR qY sY qT oX rJ pN rP rX bZ bD bI aI wD gF pE qA nJ nY dQ jC eO eW dO fJ fY jD nG pG qB sH uP pQ mW qO qQ oF qF jJ) H → va_D A (wd_X9_pays cI cC cZ cB cJ a_x xG xD wY wJ wQ xI xK xJ tW uE qU uJ uL uI xH tX jE mX pD oO oQ eG uS sW uR qY sY qT oX rJ pN rP rX bZ bD bI aI wD gF pE qA nJ nY dQ jC eO eW dO fJ fY jD nG pG qB sH uP pQ mW qO qQ oF qF jJ) → va_S A s.heap H locs → lv_has ls 6 [(0, .ref a_x), (1, .int x1), (2, .int x2), (3, .int x3), (4, .int x4), (5, .int x5)] → W p l e rm_X9_pays s m args below meth c H locs 0 0 (MQ below (q_X9_pays dC dI cI cC cZ cB cJ A a_x xG xD wY wJ wQ xI xK xJ tW uE qU uJ uL uI xH tX jE mX pD oO oQ eG uS sW uR qY sY qT rJ pN rP bZ bD bI aI wD gF pE qA nJ nY dQ jC eO eW dO fJ fY jD nG pG qB sH uP pQ mW oF post) args s 0 0 A) (F0 m 66 ls []) := by
  obtain ⟨hx, hb, hr, hml, hown, hts, hlocks, hA, hK, hN, tL, tM, hZL, hTL, hZM, hTM, hZX⟩ := id C0
  intro x1 x2 x3 x4 x5 oX rX qO qQ qF jJ H locs ls hp hP hD hS hl
  unfold ws_X9_pays_66 at hp
  refine lv_iload hx hb eX9_pays_63.2.2.1 (lv_at hl 5 rfl) ?_
  refine lv_aload_n hx hb eX9_pays_63.2.2.2.1 rfl (lv_at hl 0 rfl) ?_
  refine va_get (D := (dC, dI)) (ci := 9) (v := .ref wJ) (C := RX9) (T := TX9) (N := 9) hx hb hts i_X9 hown hK hP 0 rfl rfl 3 (Nat.le_of_ble_eq_true rfl) (hts _ q_74) (fun _ h9 => h9) rfl eX9_pays_63.2.2.2.2.1 ?_
  refine va_get (D := (dC, dI)) (ci := 3) (v := .int bZ) (C := RX3) (T := TX3) (N := 11) hx hb hts i_X3 hown hK hP 4 rfl rfl 7 (Nat.le_of_ble_eq_true rfl) (hts _ q_539) (fun _ h9 => h9) rfl eX9_pays_63.2.2.2.2.2.1 ?_
  refine lv_icmp_ge (tgt := 110) hx hb eX9_pays_63.2.2.2.2.2.2.1 (by decide) (fun hc => ?_) (fun hc => ?_)
  · have hp := hp.1 hc
    refine lv_aload_n hx hb eX9_pays_93.2.2.2.2.2.2.2.2.2.1 rfl (lv_at hl 0 rfl) ?_
    refine lv_iload_n hx hb eX9_pays_93.2.2.2.2.2.2.2.2.2.2.1 rfl (lv_at hl 3 rfl) ?_
    refine lv_iload hx hb eX9_pays_93.2.2.2.2.2.2.2.2.2.2.2.1 (lv_at hl 4 rfl) ?_
    refine lv_aload_n hx hb eX9_pays_93.2.2.2.2.2.2.2.2.2.2.2.2.1 rfl (lv_at hl 0 rfl) ?_
    refine va_get (D := (dC, dI)) (ci := 9) (v := .ref wJ) (C := RX9) (T := TX9) (N := 9) hx hb hts i_X9 hown hK hP 0 rfl rfl 3 (Nat.le_of_ble_eq_true rfl) (hts _ q_74) (fun _ h9 => h9) rfl eX9_pays_93.2.2.2.2.2.2.2.2.2.2.2.2.2.1 ?_
    refine lv_iload_n hx hb eX9_pays_93.2.2.2.2.2.2.2.2.2.2.2.2.2.2.1 rfl (lv_at hl 1 rfl) ?_
    refine lv_iload_n hx hb eX9_pays_93.2.2.2.2.2.2.2.2.2.2.2.2.2.2.2 rfl (lv_at hl 2 rfl) ?_
    have hm := mgk (wc := (wd_J6_bitCount_0f7a4 cI cC cZ cB cJ)) hP mk_149 19 rfl rfl rfl
    refine g_calli hP hD hS hA (mixT mk_149) (mixF mk_149) hm.1 hm.2 (nd_F _) (dis_g _) (g_runS (As := [.int x2]) (rest := [.int x1, .ref wJ, .int x4, .int x3, .ref a_x]) C0 hP hD hS (mixT mk_149) hm.1 (nd_T _) (c_J6_bitCount_0f7a4 l dC dI cI cC cZ cB cJ H.size x2 _ hp) q_320 q_474 q_322 q_321 h_J6_bitCount_0f7a4 rfl rfl ⟨Nat.le_of_ble_eq_true rfl, Nat.le_of_ble_eq_true rfl⟩ rfl rfl hl.1 rfl (lv_room (Nat.le_of_ble_eq_true rfl)) eX9_pays_120.1 ⟨Nat.zero_le _, Nat.zero_le _⟩) (fun r_6 u H locs hp hP hD hS => ?_)
    have hPD := PDm (ws' := (wd_X9_pays cI cC cZ cB cJ a_x xG xD wY wJ wQ xI xK xJ tW uE qU uJ uL uI xH tX jE mX pD oO oQ eG uS sW uR qY sY qT oX rJ pN rP rX bZ bD bI aI wD gF pE qA nJ nY dQ jC eO eW dO fJ fY jD nG pG qB sH uP pQ mW qO qQ oF qF jJ)) hP hD 19 rfl rfl rfl
    have hP := hPD.1
    have hD := hPD.2
    have hm := mgk (wc := (wd_X3_downsSeconds cI cC cZ cB cJ wJ tX jE mX pD oO oQ eG bZ bD bI aI nY dQ)) hP mk_150 19 rfl rfl rfl
    refine g_calli hP hD hS hA (mixT mk_150) (mixF mk_150) hm.1 hm.2 (nd_F _) (dis_g _) (g_runV (As := [.int x1, .int r_6]) (rest := [.int x4, .int x3, .ref a_x]) C0 hP hD hS (mixT mk_150) hm.1 (nd_T _) 4 3 rfl rfl (c_X3_downsSeconds l dC dI cI cC cZ cB cJ wJ tX jE mX pD oO oQ eG H.size x1 r_6 bZ bD bI aI nY dQ _ hp) q_516 q_540 q_517 q_518 q_48 h_X3_downsSeconds rfl rfl ⟨Nat.le_of_ble_eq_true rfl, Nat.le_of_ble_eq_true rfl⟩ rfl rfl hl.1 rfl (lv_room (Nat.le_of_ble_eq_true rfl)) eX9_pays_120.2.1 ⟨Nat.zero_le _, Nat.zero_le _⟩) (fun r_7 u H locs hp hP hD hS => ?_)
    have hPD := PDm (ws' := (wd_X9_pays cI cC cZ cB cJ a_x xG xD wY wJ wQ xI xK xJ tW uE qU uJ uL uI xH tX jE mX pD oO oQ eG uS sW uR qY sY qT oX rJ pN rP rX bZ bD bI aI wD gF pE qA nJ nY dQ jC eO eW dO fJ fY jD nG pG qB sH uP pQ mW qO qQ oF qF jJ)) hP hD 19 rfl rfl rfl
    have hP := hPD.1
    have hD := hPD.2
    have hm := mgk (wc := (wd_X9_tell__ cI cC cZ cB cJ a_x xG xD wY wJ wQ xI xK xJ tW qT qF jJ)) hP mk_151 19 rfl rfl rfl
    refine g_callv hP hD hS hA (mixT mk_151) (mixF mk_151) hm.1 hm.2 (nd_F _) (dis_g _) (g_runV (As := [.int x3, .int x4, .int r_7]) (rest := []) C0 hP hD hS (mixT mk_151) hm.1 (nd_T _) 0 9 rfl rfl (c_X9_tell__ l dC dI cI cC cZ cB cJ a_x xG xD wY wJ wQ xI xK xJ tW qT H.size x3 x4 r_7 qF jJ _ hp) q_535 q_538 q_536 q_537 q_256 h_X9_tell__ rfl rfl ⟨Nat.le_of_ble_eq_true rfl, Nat.le_of_ble_eq_true rfl⟩ rfl rfl hl.1 rfl (lv_room (Nat.le_of_ble_eq_true rfl)) eX9_pays_120.2.2.1 ⟨Nat.zero_le _, Nat.zero_le _⟩) (fun u H locs hp hP hD hS => ?_)
    obtain ⟨ro_size_8, ro_numbers_9⟩ := u
    have hPD := PDm (ws' := (wd_X9_pays cI cC cZ cB cJ a_x xG xD wY wJ wQ xI xK xJ tW uE qU uJ uL uI xH tX jE mX pD oO oQ eG uS sW uR qY sY qT oX rJ pN rP rX bZ bD bI aI wD gF pE qA nJ nY dQ jC eO eW dO fJ fY jD nG pG qB sH uP pQ mW qO qQ oF ro_size_8 ro_numbers_9)) hP hD 19 rfl rfl rfl
    have hP := hPD.1
    have hD := hPD.2
    refine lv_aload_n hx hb eX9_pays_120.2.2.2.1 rfl (lv_at hl 0 rfl) ?_
    refine va_get (D := (dC, dI)) (ci := 9) (v := .ref wY) (C := RX9) (T := TX9) (N := 9) hx hb hts i_X9 hown hK hP 0 rfl rfl 2 (Nat.le_of_ble_eq_true rfl) (hts _ q_146) (fun _ h9 => h9) rfl eX9_pays_120.2.2.2.2.1 ?_
    refine lv_iload_n hx hb eX9_pays_120.2.2.2.2.2.1 rfl (lv_at hl 2 rfl) ?_
    have hm := mgk (wc := (wd_X0_worthOf cI cC cZ cB cJ wY wJ wQ xH tX jE mX pD oO oQ eG bZ bD bI aI pE jC eO eW dO fJ fY jD nG)) hP mk_152 19 rfl rfl rfl
    refine g_calli hP hD hS hA (mixT mk_152) (mixF mk_152) hm.1 hm.2 (nd_F _) (dis_g _) (g_runV (As := [.int x2]) (rest := []) C0 hP hD hS (mixT mk_152) hm.1 (nd_T _) 3 0 rfl rfl (c_X0_worthOf l dC dI cI cC cZ cB cJ wY wJ wQ xH tX jE mX pD oO oQ eG H.size x2 bZ bD bI aI pE jC eO eW dO fJ fY jD nG _ hp) q_297 q_417 q_298 q_299 q_187 h_X0_worthOf rfl rfl ⟨Nat.le_of_ble_eq_true rfl, Nat.le_of_ble_eq_true rfl⟩ rfl rfl hl.1 rfl (lv_room (Nat.le_of_ble_eq_true rfl)) eX9_pays_120.2.2.2.2.2.2.1 ⟨Nat.zero_le _, Nat.zero_le _⟩) (fun r_10 u H locs hp hP hD hS => ?_)
    have hPD := PDm (ws' := (wd_X9_pays cI cC cZ cB cJ a_x xG xD wY wJ wQ xI xK xJ tW uE qU uJ uL uI xH tX jE mX pD oO oQ eG uS sW uR qY sY qT oX rJ pN rP rX bZ bD bI aI wD gF pE qA nJ nY dQ jC eO eW dO fJ fY jD nG pG qB sH uP pQ mW qO qQ oF ro_size_8 ro_numbers_9)) hP hD 19 rfl rfl rfl
    have hP := hPD.1
    have hD := hPD.2
    exact W.iret (v := r_10) hx hb hr (fun t ht hW => ⟨⟨r_10, (oX, rX, qO, qQ, ro_size_8, ro_numbers_9), rfl, hp, by rw [ht]; exact hP, va_K.moved hW.alike hK, hD⟩, hS.F ht⟩) hS.2.2 eX9_pays_120.2.2.2.2.2.2.2
  · have hp := hp.2 hc
    refine lv_iload_n hx hb eX9_pays_63.2.2.2.2.2.2.2.1 rfl (lv_at hl 2 rfl) ?_
    refine lv_iload hx hb eX9_pays_63.2.2.2.2.2.2.2.2.1 (lv_at hl 5 rfl) ?_
    refine lv_ishr hx hb eX9_pays_63.2.2.2.2.2.2.2.2.2.1 ?_
    refine lv_topi (fun v_11 ev_11 => ?_)
    have hp := hp v_11 ev_11
    refine lv_iconst (v := 1) hx hb eX9_pays_63.2.2.2.2.2.2.2.2.2.2.1 ic_1 ?_
    refine lv_iand hx hb eX9_pays_63.2.2.2.2.2.2.2.2.2.2.2.1 ?_
    refine lv_if_eq (tgt := 104) hx hb eX9_pays_63.2.2.2.2.2.2.2.2.2.2.2.2.1 (by decide) (fun hc => ?_) (fun hc => ?_)
    · have hp := hp.1 hc
      exact ks_X9_pays_104 C0 hKn x1 x2 x3 x4 x5 oX rX qO qQ qF jJ H locs ls hp hP hD hS (lv_sub hl [0, 1, 2, 3, 4, 5] rfl)
    · have hp := hp.2 hc
      refine lv_iload hx hb eX9_pays_63.2.2.2.2.2.2.2.2.2.2.2.2.2.1 (lv_at hl 4 rfl) ?_
      refine lv_aload_n hx hb eX9_pays_63.2.2.2.2.2.2.2.2.2.2.2.2.2.2.1 rfl (lv_at hl 0 rfl) ?_
      refine va_get (D := (dC, dI)) (ci := 9) (v := .ref wY) (C := RX9) (T := TX9) (N := 9) hx hb hts i_X9 hown hK hP 0 rfl rfl 2 (Nat.le_of_ble_eq_true rfl) (hts _ q_146) (fun _ h9 => h9) rfl eX9_pays_63.2.2.2.2.2.2.2.2.2.2.2.2.2.2.2 ?_
      refine lv_iload hx hb eX9_pays_93.1 (lv_at hl 5 rfl) ?_
      refine lv_iload_n hx hb eX9_pays_93.2.1 rfl (lv_at hl 1 rfl) ?_
      refine lv_iconst (v := 0) hx hb eX9_pays_93.2.2.1 ic_0 ?_
      refine lv_iconst (v := 0) hx hb eX9_pays_93.2.2.2.1 ic_0 ?_
      have hm := mgk (wc := (wd_X0_pickSeconds cI cC cZ cB cJ wY wJ wQ xH tX jE mX pD oO oQ eG uS sW uR qY sY bZ bD bI aI wD gF pE nJ nY jC eO eW dO fJ fY jD nG pG qB sH uP pQ mW qO qQ oF)) hP mk_153 19 rfl rfl rfl
      refine g_calli hP hD hS hA (mixT mk_153) (mixF mk_153) hm.1 hm.2 (nd_F _) (dis_g _) (g_runV (As := [.int x5, .int x1, .int 0, .int 0]) (rest := [.int x4]) C0 hP hD hS (mixT mk_153) hm.1 (nd_T _) 3 0 rfl rfl (c_X0_pickSeconds l dC dI cI cC cZ cB cJ wY wJ wQ xH tX jE mX pD oO oQ eG uS sW uR qY sY H.size x5 x1 0 0 bZ bD bI aI wD gF pE nJ nY jC eO eW dO fJ fY jD nG pG qB sH uP pQ mW qO qQ oF _ hp) q_325 q_418 q_326 q_327 q_187 h_X0_pickSeconds rfl rfl ⟨Nat.le_of_ble_eq_true rfl, Nat.le_of_ble_eq_true rfl⟩ rfl rfl hl.1 rfl (lv_room (Nat.le_of_ble_eq_true rfl)) eX9_pays_93.2.2.2.2.1 ⟨Nat.zero_le _, Nat.zero_le _⟩) (fun r_13 u H locs hp hP hD hS => ?_)
      obtain ⟨ru_given_14, ru_stack_15⟩ := u
      have hPD := PDm (ws' := (wd_X9_pays cI cC cZ cB cJ a_x xG xD wY wJ wQ xI xK xJ tW uE qU uJ uL uI xH tX jE mX pD oO oQ eG uS sW uR qY sY qT oX rJ pN rP rX bZ bD bI aI wD gF pE qA nJ nY dQ jC eO eW dO fJ fY jD nG pG qB sH uP pQ mW ru_given_14 ru_stack_15 oF qF jJ)) hP hD 19 rfl rfl rfl
      have hP := hPD.1
      have hD := hPD.2
      refine lv_iadd hx hb eX9_pays_93.2.2.2.2.2.1 ?_
      refine lv_topi (fun v_16 ev_16 => ?_)
      have hp := hp v_16 ev_16
      refine lv_istore (lv' := [(4, .int v_16), (0, .ref a_x), (1, .int x1), (2, .int x2), (3, .int x3), (5, .int x5)]) hx hb eX9_pays_93.2.2.2.2.2.2.1 hl (by decide) rfl (fun ls hl => ?_)
      exact ks_X9_pays_104 C0 hKn x1 x2 x3 v_16 x5 oX rX ru_given_14 ru_stack_15 qF jJ H locs ls hp hP hD hS (lv_sub hl [1, 2, 3, 4, 0, 5] rfl)
set_option maxHeartbeats 4000000 in
set_option maxRecDepth 100000 in
theorem kb_X9_pays_66 (C0 : gc cX9_pays (some .int) 6 RX9 (dC, dI) (tyl cI cC cZ cB cJ) A p s m args meth c) : ∀ (n : Nat), ∀ (x1 x2 x3 x4 x5 oX : Int32) (rX qO qQ : Nat → Int32) (qF : Int32) (jJ : Nat → Int32) (H : Heap) (locs : List Loc) (ls : Array Slot), (wb_X9_pays_66 post bZ bD wD gF pE qA nJ nY dQ jC eO eW dO fJ fY jD pG oF n) x1 x2 x3 x4 x5 oX rX qO qQ qF jJ → va_P (dC, dI) classes (wd_X9_pays cI cC cZ cB cJ a_x xG xD wY wJ wQ xI xK xJ tW uE qU uJ uL uI xH tX jE mX pD oO oQ eG uS sW uR qY sY qT oX rJ pN rP rX bZ bD bI aI wD gF pE qA nJ nY dQ jC eO eW dO fJ fY jD nG pG qB sH uP pQ mW qO qQ oF qF jJ) H → va_D A (wd_X9_pays cI cC cZ cB cJ a_x xG xD wY wJ wQ xI xK xJ tW uE qU uJ uL uI xH tX jE mX pD oO oQ eG uS sW uR qY sY qT oX rJ pN rP rX bZ bD bI aI wD gF pE qA nJ nY dQ jC eO eW dO fJ fY jD nG pG qB sH uP pQ mW qO qQ oF qF jJ) → va_S A s.heap H locs → lv_has ls 6 [(0, .ref a_x), (1, .int x1), (2, .int x2), (3, .int x3), (4, .int x4), (5, .int x5)] → W p l e rm_X9_pays s m args below meth c H locs 0 0 (MQ below (q_X9_pays dC dI cI cC cZ cB cJ A a_x xG xD wY wJ wQ xI xK xJ tW uE qU uJ uL uI xH tX jE mX pD oO oQ eG uS sW uR qY sY qT rJ pN rP bZ bD bI aI wD gF pE qA nJ nY dQ jC eO eW dO fJ fY jD nG pG qB sH uP pQ mW oF post) args s 0 0 A) (F0 m 66 ls []) := by
  intro n
  induction n with
  | zero =>
    intro x1 x2 x3 x4 x5 oX rX qO qQ qF jJ H locs ls hp
    exact False.elim hp
  | succ n ih =>
    intro x1 x2 x3 x4 x5 oX rX qO qQ qF jJ H locs ls hp
    exact ks_X9_pays_66 C0 ih x1 x2 x3 x4 x5 oX rX qO qQ qF jJ H locs ls hp
noncomputable def ws_X9_pays_59 (post : Int32 → Int32 → (Nat → Int32) → (Nat → Int32) → (Nat → Int32) → Int32 → (Nat → Int32) → Prop) (bZ bD : Int32) (wD gF pE qA nJ nY dQ : Nat → Int32) (jC eO eW dO fJ fY jD pG : Int32) (oF : Nat → Int32) (x1 x2 k0 oX : Int32) (rX qO qQ : Nat → Int32) (qF : Int32) (jJ : Nat → Int32) : Prop := ∃ n : Nat, wb_X9_pays_66 post bZ bD wD gF pE qA nJ nY dQ jC eO eW dO fJ fY jD pG oF n x1 x2 k0 0 0 oX rX qO qQ qF jJ
set_option maxHeartbeats 4000000 in
set_option maxRecDepth 100000 in
theorem ks_X9_pays_59 (C0 : gc cX9_pays (some .int) 6 RX9 (dC, dI) (tyl cI cC cZ cB cJ) A p s m args meth c) : ∀ (x1 x2 k0 oX : Int32) (rX qO qQ : Nat → Int32) (qF : Int32) (jJ : Nat → Int32) (H : Heap) (locs : List Loc) (ls : Array Slot), (ws_X9_pays_59 post bZ bD wD gF pE qA nJ nY dQ jC eO eW dO fJ fY jD pG oF) x1 x2 k0 oX rX qO qQ qF jJ → va_P (dC, dI) classes (wd_X9_pays cI cC cZ cB cJ a_x xG xD wY wJ wQ xI xK xJ tW uE qU uJ uL uI xH tX jE mX pD oO oQ eG uS sW uR qY sY qT oX rJ pN rP rX bZ bD bI aI wD gF pE qA nJ nY dQ jC eO eW dO fJ fY jD nG pG qB sH uP pQ mW qO qQ oF qF jJ) H → va_D A (wd_X9_pays cI cC cZ cB cJ a_x xG xD wY wJ wQ xI xK xJ tW uE qU uJ uL uI xH tX jE mX pD oO oQ eG uS sW uR qY sY qT oX rJ pN rP rX bZ bD bI aI wD gF pE qA nJ nY dQ jC eO eW dO fJ fY jD nG pG qB sH uP pQ mW qO qQ oF qF jJ) → va_S A s.heap H locs → lv_has ls 6 [(0, .ref a_x), (1, .int x1), (2, .int x2)] → W p l e rm_X9_pays s m args below meth c H locs 0 0 (MQ below (q_X9_pays dC dI cI cC cZ cB cJ A a_x xG xD wY wJ wQ xI xK xJ tW uE qU uJ uL uI xH tX jE mX pD oO oQ eG uS sW uR qY sY qT rJ pN rP bZ bD bI aI wD gF pE qA nJ nY dQ jC eO eW dO fJ fY jD nG pG qB sH uP pQ mW oF post) args s 0 0 A) (F0 m 59 ls [.int k0]) := by
  obtain ⟨hx, hb, hr, hml, hown, hts, hlocks, hA, hK, hN, tL, tM, hZL, hTL, hZM, hTM, hZX⟩ := id C0
  intro x1 x2 k0 oX rX qO qQ qF jJ H locs ls hp hP hD hS hl
  unfold ws_X9_pays_59 at hp
  refine lv_istore_n (lv' := [(3, .int k0), (0, .ref a_x), (1, .int x1), (2, .int x2)]) hx hb eX9_pays_30.2.2.2.2.2.2.2.2.2.2.2.2.2.1 rfl hl (by decide) rfl (fun ls hl => ?_)
  refine lv_iconst (v := 0) hx hb eX9_pays_30.2.2.2.2.2.2.2.2.2.2.2.2.2.2.1 ic_0 ?_
  refine lv_istore (lv' := [(4, .int 0), (3, .int k0), (0, .ref a_x), (1, .int x1), (2, .int x2)]) hx hb eX9_pays_30.2.2.2.2.2.2.2.2.2.2.2.2.2.2.2 hl (by decide) rfl (fun ls hl => ?_)
  refine lv_iconst (v := 0) hx hb eX9_pays_63.1 ic_0 ?_
  refine lv_istore (lv' := [(5, .int 0), (4, .int 0), (3, .int k0), (0, .ref a_x), (1, .int x1), (2, .int x2)]) hx hb eX9_pays_63.2.1 hl (by decide) rfl (fun ls hl => ?_)
  obtain ⟨n9, hp⟩ := hp
  exact kb_X9_pays_66 C0 n9 x1 x2 k0 0 0 oX rX qO qQ qF jJ H locs ls hp hP hD hS (lv_sub hl [3, 4, 5, 2, 1, 0] rfl)
end S_X9_pays
noncomputable def wp_X9_pays (post : Int32 → Int32 → (Nat → Int32) → (Nat → Int32) → (Nat → Int32) → Int32 → (Nat → Int32) → Prop) (p0 oX : Int32) (rX : Nat → Int32) (bZ bD : Int32) (wD gF pE qA nJ nY dQ : Nat → Int32) (jC eO eW dO fJ fY jD pG : Int32) (qO qQ oF : Nat → Int32) (qF : Int32) (jJ : Nat → Int32) : Prop := wp_X3_hasStanding (fun r_1 => (¬ r_1 = 0 → wp_X5_look (fun xR yA => wp_X5_wantedFrom (fun r_4 => (¬ fJ = p0 → wp_X3_moveSeconds (fun r_5 => ws_X9_pays_59 post bZ bD wD gF pE qA nJ nY dQ jC eO eW dO fJ fY jD pG oF p0 r_4 r_5 xR yA qO qQ qF jJ) fJ p0 nJ dQ) ∧ (fJ = p0 → ws_X9_pays_59 post bZ bD wD gF pE qA nJ nY dQ jC eO eW dO fJ fY jD pG oF p0 r_4 0 xR yA qO qQ qF jJ)) p0 xR yA) oX rX bZ bD wD gF qA nJ nY dQ jC eO eW fY jD) ∧ (r_1 = 0 → post (-1) oX rX qO qQ qF jJ)) p0 bD
set_option maxHeartbeats 4000000 in
set_option maxRecDepth 100000 in
theorem c_X9_pays (l : Launch) (dC : Nat → ClassId) (dI : Nat → Nat → Nat) (cI cC cZ cB cJ : ClassId) (a_x xG xD wY wJ wQ xI xK xJ tW uE qU uJ uL uI xH tX jE mX pD oO oQ eG uS sW uR qY sY qT sz : Nat) (p0 oX rJ pN rP : Int32) (rX : Nat → Int32) (bZ bD bI aI : Int32) (wD gF pE qA nJ nY dQ : Nat → Int32) (jC eO eW dO fJ fY jD nG pG qB sH uP pQ mW : Int32) (qO qQ oF : Nat → Int32) (qF : Int32) (jJ : Nat → Int32) (post : Int32 → Int32 → (Nat → Int32) → (Nat → Int32) → (Nat → Int32) → Int32 → (Nat → Int32) → Prop) (hw : wp_X9_pays post p0 oX rX bZ bD wD gF pE qA nJ nY dQ jC eO eW dO fJ fY jD pG qO qQ oF qF jJ) : Met l yX9_pays (gw yX9_pays cX9_pays 6 (some .int)) rm_X9_pays (va_Pc [.ref a_x, .int p0] (gPre (dC, dI) (tyl cI cC cZ cB cJ) (wd_X9_pays cI cC cZ cB cJ a_x xG xD wY wJ wQ xI xK xJ tW uE qU uJ uL uI xH tX jE mX pD oO oQ eG uS sW uR qY sY qT oX rJ pN rP rX bZ bD bI aI wD gF pE qA nJ nY dQ jC eO eW dO fJ fY jD nG pG qB sH uP pQ mW qO qQ oF qF jJ) sz)) (q_X9_pays dC dI cI cC cZ cB cJ (va_A (wd_X9_pays cI cC cZ cB cJ a_x xG xD wY wJ wQ xI xK xJ tW uE qU uJ uL uI xH tX jE mX pD oO oQ eG uS sW uR qY sY qT oX rJ pN rP rX bZ bD bI aI wD gF pE qA nJ nY dQ jC eO eW dO fJ fY jD nG pG qB sH uP pQ mW qO qQ oF qF jJ) sz) a_x xG xD wY wJ wQ xI xK xJ tW uE qU uJ uL uI xH tX jE mX pD oO oQ eG uS sW uR qY sY qT rJ pN rP bZ bD bI aI wD gF pE qA nJ nY dQ jC eO eW dO fJ fY jD nG pG qB sH uP pQ mW oF post) 0 0 (va_A (wd_X9_pays cI cC cZ cB cJ a_x xG xD wY wJ wQ xI xK xJ tW uE qU uJ uL uI xH tX jE mX pD oO oQ eG uS sW uR qY sY qT oX rJ pN rP rX bZ bD bI aI wD gF pE qA nJ nY dQ jC eO eW dO fJ fY jD nG pG qB sH uP pQ mW qO qQ oF qF jJ) sz) := by
  refine g_enter (own := RX9) (dC, dI) (tyl cI cC cZ cB cJ) (wd_X9_pays cI cC cZ cB cJ a_x xG xD wY wJ wQ xI xK xJ tW uE qU uJ uL uI xH tX jE mX pD oO oQ eG uS sW uR qY sY qT oX rJ pN rP rX bZ bD bI aI wD gF pE qA nJ nY dQ jC eO eW dO fJ fY jD nG pG qB sH uP pQ mW qO qQ oF qF jJ) sz [.ref a_x, .int p0] (fun A => q_X9_pays dC dI cI cC cZ cB cJ A a_x xG xD wY wJ wQ xI xK xJ tW uE qU uJ uL uI xH tX jE mX pD oO oQ eG uS sW uR qY sY qT rJ pN rP bZ bD bI aI wD gF pE qA nJ nY dQ jC eO eW dO fJ fY jD nG pG qB sH uP pQ mW oF post) pn_RX9 rfl (Nat.le_of_ble_eq_true rfl) ?_
  intro p e s m args below meth c A H locs ls C0 hP hD hS hl
  have hl : lv_has ls 6 [(0, .ref a_x), (1, .int p0)] := hl
  obtain ⟨hx, hb, hr, hml, hown, hts, hlocks, hA, hK, hN, tL, tM, hZL, hTL, hZM, hTM, hZX⟩ := id C0
  have hp := hw
  unfold wp_X9_pays at hp
  refine lv_aload_n hx hb eX9_pays_0.1 rfl (lv_at hl 0 rfl) ?_
  refine va_get (D := (dC, dI)) (ci := 9) (v := .ref wJ) (C := RX9) (T := TX9) (N := 9) hx hb hts i_X9 hown hK hP 0 rfl rfl 3 (Nat.le_of_ble_eq_true rfl) (hts _ q_74) (fun _ h9 => h9) rfl eX9_pays_0.2.1 ?_
  refine lv_iload_n hx hb eX9_pays_0.2.2.1 rfl (lv_at hl 1 rfl) ?_
  have hm := mgk (wc := (wd_X3_hasStanding cI cC cZ cB cJ wJ tX jE mX pD oO oQ eG bZ bD bI aI)) hP mk_154 19 rfl rfl rfl
  refine g_calli hP hD hS hA (mixT mk_154) (mixF mk_154) hm.1 hm.2 (nd_F _) (dis_g _) (g_runV (As := [.int p0]) (rest := []) C0 hP hD hS (mixT mk_154) hm.1 (nd_T _) 4 3 rfl rfl (c_X3_hasStanding l dC dI cI cC cZ cB cJ wJ tX jE mX pD oO oQ eG H.size p0 bZ bD bI aI _ hp) q_195 q_198 q_196 q_197 q_48 h_X3_hasStanding rfl rfl ⟨Nat.le_of_ble_eq_true rfl, Nat.le_of_ble_eq_true rfl⟩ rfl rfl hl.1 rfl (lv_room (Nat.le_of_ble_eq_true rfl)) eX9_pays_0.2.2.2.1 ⟨Nat.zero_le _, Nat.zero_le _⟩) (fun r_1 u H locs hp hP hD hS => ?_)
  have hPD := PDm (ws' := (wd_X9_pays cI cC cZ cB cJ a_x xG xD wY wJ wQ xI xK xJ tW uE qU uJ uL uI xH tX jE mX pD oO oQ eG uS sW uR qY sY qT oX rJ pN rP rX bZ bD bI aI wD gF pE qA nJ nY dQ jC eO eW dO fJ fY jD nG pG qB sH uP pQ mW qO qQ oF qF jJ)) hP hD 19 rfl rfl rfl
  have hP := hPD.1
  have hD := hPD.2
  refine lv_if_ne (tgt := 13) hx hb eX9_pays_0.2.2.2.2.1 (by decide) (fun hc => ?_) (fun hc => ?_)
  · have hp := hp.1 hc
    refine lv_aload_n hx hb eX9_pays_0.2.2.2.2.2.2.2.1 rfl (lv_at hl 0 rfl) ?_
    refine va_get (D := (dC, dI)) (ci := 9) (v := .ref xD) (C := RX9) (T := TX9) (N := 9) hx hb hts i_X9 hown hK hP 0 rfl rfl 1 (Nat.le_of_ble_eq_true rfl) (hts _ q_444) (fun _ h9 => h9) rfl eX9_pays_0.2.2.2.2.2.2.2.2.1 ?_
    have hm := mgk (wc := (wd_X5_look cI cC cZ cB cJ xD wY wJ uE qU uJ uL uI wQ xH tX jE mX pD oO oQ eG oX rJ pN rP rX bZ bD bI aI wD gF qA nJ nY dQ jC eO eW dO fJ fY jD nG)) hP mk_155 19 rfl rfl rfl
    refine g_callv hP hD hS hA (mixT mk_155) (mixF mk_155) hm.1 hm.2 (nd_F _) (dis_g _) (g_runV (As := []) (rest := []) C0 hP hD hS (mixT mk_155) hm.1 (nd_T _) 1 5 rfl rfl (c_X5_look l dC dI cI cC cZ cB cJ xD wY wJ uE qU uJ uL uI wQ xH tX jE mX pD oO oQ eG H.size oX rJ pN rP rX bZ bD bI aI wD gF qA nJ nY dQ jC eO eW dO fJ fY jD nG _ hp) q_445 q_448 q_446 q_447 q_431 h_X5_look rfl rfl ⟨Nat.le_of_ble_eq_true rfl, Nat.le_of_ble_eq_true rfl⟩ rfl rfl hl.1 rfl (lv_room (Nat.le_of_ble_eq_true rfl)) eX9_pays_0.2.2.2.2.2.2.2.2.2.1 ⟨Nat.zero_le _, Nat.zero_le _⟩) (fun u H locs hp hP hD hS => ?_)
    obtain ⟨xR, yA⟩ := u
    have hPD := PDm (ws' := (wd_X9_pays cI cC cZ cB cJ a_x xG xD wY wJ wQ xI xK xJ tW uE qU uJ uL uI xH tX jE mX pD oO oQ eG uS sW uR qY sY qT xR rJ pN rP yA bZ bD bI aI wD gF pE qA nJ nY dQ jC eO eW dO fJ fY jD nG pG qB sH uP pQ mW qO qQ oF qF jJ)) hP hD 19 rfl rfl rfl
    have hP := hPD.1
    have hD := hPD.2
    refine lv_aload_n hx hb eX9_pays_0.2.2.2.2.2.2.2.2.2.2.1 rfl (lv_at hl 0 rfl) ?_
    refine va_get (D := (dC, dI)) (ci := 9) (v := .ref xD) (C := RX9) (T := TX9) (N := 9) hx hb hts i_X9 hown hK hP 0 rfl rfl 1 (Nat.le_of_ble_eq_true rfl) (hts _ q_444) (fun _ h9 => h9) rfl eX9_pays_0.2.2.2.2.2.2.2.2.2.2.2.1 ?_
    refine lv_iload_n hx hb eX9_pays_0.2.2.2.2.2.2.2.2.2.2.2.2.1 rfl (lv_at hl 1 rfl) ?_
    have hm := mgk (wc := (wd_X5_wantedFrom cI cC cZ cB cJ xD wY wJ uE qU uJ uL uI xR rJ pN rP yA)) hP mk_156 19 rfl rfl rfl
    refine g_calli hP hD hS hA (mixT mk_156) (mixF mk_156) hm.1 hm.2 (nd_F _) (dis_g _) (g_runV (As := [.int p0]) (rest := []) C0 hP hD hS (mixT mk_156) hm.1 (nd_T _) 1 5 rfl rfl (c_X5_wantedFrom l dC dI cI cC cZ cB cJ xD wY wJ uE qU uJ uL uI H.size p0 xR rJ pN rP yA _ hp) q_449 q_452 q_450 q_451 q_431 h_X5_wantedFrom rfl rfl ⟨Nat.le_of_ble_eq_true rfl, Nat.le_of_ble_eq_true rfl⟩ rfl rfl hl.1 rfl (lv_room (Nat.le_of_ble_eq_true rfl)) eX9_pays_0.2.2.2.2.2.2.2.2.2.2.2.2.2.1 ⟨Nat.zero_le _, Nat.zero_le _⟩) (fun r_4 u H locs hp hP hD hS => ?_)
    have hPD := PDm (ws' := (wd_X9_pays cI cC cZ cB cJ a_x xG xD wY wJ wQ xI xK xJ tW uE qU uJ uL uI xH tX jE mX pD oO oQ eG uS sW uR qY sY qT xR rJ pN rP yA bZ bD bI aI wD gF pE qA nJ nY dQ jC eO eW dO fJ fY jD nG pG qB sH uP pQ mW qO qQ oF qF jJ)) hP hD 19 rfl rfl rfl
    have hP := hPD.1
    have hD := hPD.2
    refine lv_istore_n (lv' := [(2, .int r_4), (0, .ref a_x), (1, .int p0)]) hx hb eX9_pays_0.2.2.2.2.2.2.2.2.2.2.2.2.2.2.1 rfl hl (by decide) rfl (fun ls hl => ?_)
    refine lv_aload_n hx hb eX9_pays_0.2.2.2.2.2.2.2.2.2.2.2.2.2.2.2 rfl (lv_at hl 1 rfl) ?_
    refine va_get (D := (dC, dI)) (ci := 9) (v := .ref wQ) (C := RX9) (T := TX9) (N := 9) hx hb hts i_X9 hown hK hP 0 rfl rfl 4 (Nat.le_of_ble_eq_true rfl) (hts _ q_179) (fun _ h9 => h9) rfl eX9_pays_30.1 ?_
    refine va_get (D := (dC, dI)) (ci := 2) (v := .int fJ) (C := RX2) (T := TX2) (N := 8) hx hb hts i_X2 hown hK hP 12 rfl rfl 4 (Nat.le_of_ble_eq_true rfl) (hts _ q_497) (fun _ h9 => h9) rfl eX9_pays_30.2.1 ?_
    refine lv_iload_n hx hb eX9_pays_30.2.2.1 rfl (lv_at hl 2 rfl) ?_
    refine lv_icmp_ne (tgt := 44) hx hb eX9_pays_30.2.2.2.1 (by decide) (fun hc => ?_) (fun hc => ?_)
    · have hp := hp.1 hc
      refine lv_aload_n hx hb eX9_pays_30.2.2.2.2.2.2.1 rfl (lv_at hl 1 rfl) ?_
      refine va_get (D := (dC, dI)) (ci := 9) (v := .ref wJ) (C := RX9) (T := TX9) (N := 9) hx hb hts i_X9 hown hK hP 0 rfl rfl 3 (Nat.le_of_ble_eq_true rfl) (hts _ q_74) (fun _ h9 => h9) rfl eX9_pays_30.2.2.2.2.2.2.2.1 ?_
      refine lv_aload_n hx hb eX9_pays_30.2.2.2.2.2.2.2.2.1 rfl (lv_at hl 1 rfl) ?_
      refine va_get (D := (dC, dI)) (ci := 9) (v := .ref wQ) (C := RX9) (T := TX9) (N := 9) hx hb hts i_X9 hown hK hP 0 rfl rfl 4 (Nat.le_of_ble_eq_true rfl) (hts _ q_179) (fun _ h9 => h9) rfl eX9_pays_30.2.2.2.2.2.2.2.2.2.1 ?_
      refine va_get (D := (dC, dI)) (ci := 2) (v := .int fJ) (C := RX2) (T := TX2) (N := 8) hx hb hts i_X2 hown hK hP 12 rfl rfl 4 (Nat.le_of_ble_eq_true rfl) (hts _ q_497) (fun _ h9 => h9) rfl eX9_pays_30.2.2.2.2.2.2.2.2.2.2.1 ?_
      refine lv_iload_n hx hb eX9_pays_30.2.2.2.2.2.2.2.2.2.2.2.1 rfl (lv_at hl 2 rfl) ?_
      have hm := mgk (wc := (wd_X3_moveSeconds cI cC cZ cB cJ wJ tX jE mX pD oO oQ eG bZ bD bI aI nJ dQ)) hP mk_157 19 rfl rfl rfl
      refine g_calli hP hD hS hA (mixT mk_157) (mixF mk_157) hm.1 hm.2 (nd_F _) (dis_g _) (g_runV (As := [.int fJ, .int p0]) (rest := []) C0 hP hD hS (mixT mk_157) hm.1 (nd_T _) 4 3 rfl rfl (c_X3_moveSeconds l dC dI cI cC cZ cB cJ wJ tX jE mX pD oO oQ eG H.size fJ p0 bZ bD bI aI nJ dQ _ hp) q_229 q_503 q_230 q_231 q_48 h_X3_moveSeconds rfl rfl ⟨Nat.le_of_ble_eq_true rfl, Nat.le_of_ble_eq_true rfl⟩ rfl rfl hl.1 rfl (lv_room (Nat.le_of_ble_eq_true rfl)) eX9_pays_30.2.2.2.2.2.2.2.2.2.2.2.2.1 ⟨Nat.zero_le _, Nat.zero_le _⟩) (fun r_5 u H locs hp hP hD hS => ?_)
      have hPD := PDm (ws' := (wd_X9_pays cI cC cZ cB cJ a_x xG xD wY wJ wQ xI xK xJ tW uE qU uJ uL uI xH tX jE mX pD oO oQ eG uS sW uR qY sY qT xR rJ pN rP yA bZ bD bI aI wD gF pE qA nJ nY dQ jC eO eW dO fJ fY jD nG pG qB sH uP pQ mW qO qQ oF qF jJ)) hP hD 19 rfl rfl rfl
      have hP := hPD.1
      have hD := hPD.2
      exact ks_X9_pays_59 C0 p0 r_4 r_5 xR yA qO qQ qF jJ H locs ls hp hP hD hS (lv_sub hl [1, 2, 0] rfl)
    · have hp := hp.2 hc
      refine lv_iconst (v := 0) hx hb eX9_pays_30.2.2.2.2.1 ic_0 ?_
      refine lv_goto (tgt := 59) hx hb eX9_pays_30.2.2.2.2.2.1 (by decide) ?_
      exact ks_X9_pays_59 C0 p0 r_4 0 xR yA qO qQ qF jJ H locs ls hp hP hD hS (lv_sub hl [1, 2, 0] rfl)
  · have hp := hp.2 hc
    refine lv_iconst (v := (-1)) hx hb eX9_pays_0.2.2.2.2.2.1 ic_m1 ?_
    exact W.iret (v := (-1)) hx hb hr (fun t ht hW => ⟨⟨(-1), (oX, rX, qO, qQ, qF, jJ), rfl, hp, by rw [ht]; exact hP, va_K.moved hW.alike hK, hD⟩, hS.F ht⟩) hS.2.2 eX9_pays_0.2.2.2.2.2.2.1
noncomputable abbrev wd_X9_trips (cI cC cZ cB cJ : ClassId) (a_x xG xD wY wJ wQ xI xK xJ tW uE qU uJ uL uI xH tX jE mX pD oO oQ eG qT : Nat) (oX rJ pN rP : Int32) (rX : Nat → Int32) (bZ bD bI aI : Int32) (wD gF qA nJ nY dQ : Nat → Int32) (jC eO eW dO fJ fY jD nG qF : Int32) (jJ : Nat → Int32) : va_W := [(a_x, .inr (9, [.ref xG, .ref xD, .ref wY, .ref wJ, .ref wQ, .ref xI, .ref xK, .ref xJ, .ref tW])), (xD, .inr (5, [.ref wY, .ref wJ, .ref uE, .ref qU, .ref uJ, .ref uL, .ref uI, .int oX, .int rJ, .int pN, .int rP])), (uE, .inl (cI, 8, .inl rX)), (wY, .inr (0, [.ref wJ, .ref wQ, .ref xH])), (wJ, .inr (3, [.ref tX, .ref jE, .ref mX, .ref pD, .ref oO, .ref oQ, .ref eG, .int bZ, .int bD, .int bI, .int aI])), (tX, .inl (cI, 16, .inl wD)), (jE, .inl (cI, 16, .inl gF)), (pD, .inl (cI, 16, .inl qA)), (oO, .inl (cI, 8, .inl nJ)), (oQ, .inl (cI, 8, .inl nY)), (eG, .inl (cI, 5, .inl dQ)), (wQ, .inr (2, [.int jC, .int eO, .int eW, .int dO, .int fJ, .int fY, .int jD, .int nG])), (xK, .inr (6, [.ref qT, .int qF])), (qT, .inl (cI, 16, .inl jJ))]
noncomputable abbrev q_X9_trips (dC : Nat → ClassId) (dI : Nat → Nat → Nat) (cI cC cZ cB cJ : ClassId) (A : Nat → Prop) (a_x xG xD wY wJ wQ xI xK xJ tW uE qU uJ uL uI xH tX jE mX pD oO oQ eG qT : Nat) (rJ pN rP bZ bD bI aI : Int32) (wD gF qA nJ nY dQ : Nat → Int32) (jC eO eW dO fJ fY jD nG : Int32) (post : Int32 → Int32 → (Nat → Int32) → Int32 → (Nat → Int32) → Prop) : Array Value → State → Outcome → State → Prop := va_Qi (fun (r : Int32) (u : Int32 × (Nat → Int32) × Int32 × (Nat → Int32)) => post r u.1 u.2.1 u.2.2.1 u.2.2.2) (fun u t => gB (dC, dI) (tyl cI cC cZ cB cJ) A (wd_X9_trips cI cC cZ cB cJ a_x xG xD wY wJ wQ xI xK xJ tW uE qU uJ uL uI xH tX jE mX pD oO oQ eG qT u.1 rJ pN rP u.2.1 bZ bD bI aI wD gF qA nJ nY dQ jC eO eW dO fJ fY jD nG u.2.2.1 u.2.2.2) t) A
noncomputable abbrev rm_X9_trips : Room := { frames := 5, cells := 0, slots := 0, locals := 115 }
section S_X9_trips
variable {p : Program} {l : Launch} {e : Env} {s : State} {m : MethodId} {args : Array Value} {below : List Frame} {meth : Method} {c : Code} {dC : Nat → ClassId} {dI : Nat → Nat → Nat} {cI cC cZ cB cJ : ClassId} {A : Nat → Prop} {a_x xG xD wY wJ wQ xI xK xJ tW uE qU uJ uL uI xH tX jE mX pD oO oQ eG qT : Nat} {rJ pN rP bZ bD bI aI : Int32} {wD gF qA nJ nY dQ : Nat → Int32} {jC eO eW dO fJ fY jD nG : Int32} {post : Int32 → Int32 → (Nat → Int32) → Int32 → (Nat → Int32) → Prop}
noncomputable def ws_X9_trips_89 (post : Int32 → Int32 → (Nat → Int32) → Int32 → (Nat → Int32) → Prop) (K64 : Int32 → Int32 → Int32 → Int32 → Int32 → (Nat → Int32) → Int32 → (Nat → Int32) → Prop) (bZ bD : Int32) (wD gF qA nJ nY dQ : Nat → Int32) (jC eO eW fJ fY jD x2 x3 x4 x5 oX : Int32) (rX : Nat → Int32) (qF : Int32) (jJ : Nat → Int32) : Prop := ∀ v_8 : Int32, v_8 = x2 + 1 → ∀ v_9 : Int32, v_9 = x5 + 1 → K64 v_8 x3 x4 v_9 oX rX qF jJ
set_option maxHeartbeats 4000000 in
set_option maxRecDepth 100000 in
theorem ks_X9_trips_89 (C0 : gc cX9_trips (some .int) 6 RX9 (dC, dI) (tyl cI cC cZ cB cJ) A p s m args meth c) {K64 : Int32 → Int32 → Int32 → Int32 → Int32 → (Nat → Int32) → Int32 → (Nat → Int32) → Prop} (hK64 : ∀ (x2 : Int32) (x3 : Int32) (x4 : Int32) (x5 : Int32) (oX : Int32) (rX : Nat → Int32) (qF : Int32) (jJ : Nat → Int32) (H : Heap) (locs : List Loc) (ls : Array Slot), K64 x2 x3 x4 x5 oX rX qF jJ → va_P (dC, dI) classes (wd_X9_trips cI cC cZ cB cJ a_x xG xD wY wJ wQ xI xK xJ tW uE qU uJ uL uI xH tX jE mX pD oO oQ eG qT oX rJ pN rP rX bZ bD bI aI wD gF qA nJ nY dQ jC eO eW dO fJ fY jD nG qF jJ) H → va_D A (wd_X9_trips cI cC cZ cB cJ a_x xG xD wY wJ wQ xI xK xJ tW uE qU uJ uL uI xH tX jE mX pD oO oQ eG qT oX rJ pN rP rX bZ bD bI aI wD gF qA nJ nY dQ jC eO eW dO fJ fY jD nG qF jJ) → va_S A s.heap H locs → lv_has ls 6 [(0, .ref a_x), (2, .int x2), (3, .int x3), (4, .int x4), (5, .int x5)] → W p l e rm_X9_trips s m args below meth c H locs 0 0 (MQ below (q_X9_trips dC dI cI cC cZ cB cJ A a_x xG xD wY wJ wQ xI xK xJ tW uE qU uJ uL uI xH tX jE mX pD oO oQ eG qT rJ pN rP bZ bD bI aI wD gF qA nJ nY dQ jC eO eW dO fJ fY jD nG post) args s 0 0 A) (F0 m 64 ls [])) : ∀ (x2 x3 x4 x5 oX : Int32) (rX : Nat → Int32) (qF : Int32) (jJ : Nat → Int32) (H : Heap) (locs : List Loc) (ls : Array Slot), (ws_X9_trips_89 post K64 bZ bD wD gF qA nJ nY dQ jC eO eW fJ fY jD) x2 x3 x4 x5 oX rX qF jJ → va_P (dC, dI) classes (wd_X9_trips cI cC cZ cB cJ a_x xG xD wY wJ wQ xI xK xJ tW uE qU uJ uL uI xH tX jE mX pD oO oQ eG qT oX rJ pN rP rX bZ bD bI aI wD gF qA nJ nY dQ jC eO eW dO fJ fY jD nG qF jJ) H → va_D A (wd_X9_trips cI cC cZ cB cJ a_x xG xD wY wJ wQ xI xK xJ tW uE qU uJ uL uI xH tX jE mX pD oO oQ eG qT oX rJ pN rP rX bZ bD bI aI wD gF qA nJ nY dQ jC eO eW dO fJ fY jD nG qF jJ) → va_S A s.heap H locs → lv_has ls 6 [(0, .ref a_x), (2, .int x2), (3, .int x3), (4, .int x4), (5, .int x5)] → W p l e rm_X9_trips s m args below meth c H locs 0 0 (MQ below (q_X9_trips dC dI cI cC cZ cB cJ A a_x xG xD wY wJ wQ xI xK xJ tW uE qU uJ uL uI xH tX jE mX pD oO oQ eG qT rJ pN rP bZ bD bI aI wD gF qA nJ nY dQ jC eO eW dO fJ fY jD nG post) args s 0 0 A) (F0 m 89 ls []) := by
  obtain ⟨hx, hb, hr, hml, hown, hts, hlocks, hA, hK, hN, tL, tM, hZL, hTL, hZM, hTM, hZX⟩ := id C0
  intro x2 x3 x4 x5 oX rX qF jJ H locs ls hp hP hD hS hl
  unfold ws_X9_trips_89 at hp
  obtain ⟨v_8, ev_8⟩ : ∃ y : Int32, y = x2 + 1 := ⟨_, rfl⟩
  refine lv_iinc (v := v_8) (lv' := [(2, .int v_8), (0, .ref a_x), (3, .int x3), (4, .int x4), (5, .int x5)]) hx hb eX9_trips_73.2.2.2.2.2.2.2.2.1 hl (k := 1) rfl (by rw [ev_8]; rfl) (by decide) rfl (fun ls hl => ?_)
  have hp := hp v_8 ev_8
  obtain ⟨v_9, ev_9⟩ : ∃ y : Int32, y = x5 + 1 := ⟨_, rfl⟩
  refine lv_iinc (v := v_9) (lv' := [(5, .int v_9), (2, .int v_8), (0, .ref a_x), (3, .int x3), (4, .int x4)]) hx hb eX9_trips_73.2.2.2.2.2.2.2.2.2.1 hl (k := 4) rfl (by rw [ev_9]; rfl) (by decide) rfl (fun ls hl => ?_)
  have hp := hp v_9 ev_9
  refine lv_goto (tgt := 64) hx hb eX9_trips_73.2.2.2.2.2.2.2.2.2.2.1 (by decide) ?_
  exact hK64 v_8 x3 x4 v_9 oX rX qF jJ H locs ls hp hP hD hS (lv_sub hl [2, 1, 3, 4, 0] rfl)
noncomputable def ws_X9_trips_64 (post : Int32 → Int32 → (Nat → Int32) → Int32 → (Nat → Int32) → Prop) (next : Int32 → Int32 → Int32 → Int32 → Int32 → (Nat → Int32) → Int32 → (Nat → Int32) → Prop) (bZ bD : Int32) (wD gF qA nJ nY dQ : Nat → Int32) (jC eO eW fJ fY jD x2 x3 x4 x5 oX : Int32) (rX : Nat → Int32) (qF : Int32) (jJ : Nat → Int32) : Prop := (x4 ≤ x5 → wp_X9_tell (fun zW yO => post x3 oX rX zW yO) x2 qF jJ) ∧ (¬ x4 ≤ x5 → (x2 < (dQ (4 : Int32).toNatClampNeg) → ws_X9_trips_89 post next bZ bD wD gF qA nJ nY dQ jC eO eW fJ fY jD x2 x3 x4 x5 oX rX qF jJ) ∧ (¬ x2 < (dQ (4 : Int32).toNatClampNeg) → ∀ v_10 : Int32, v_10 = x3 + 1 → ws_X9_trips_89 post next bZ bD wD gF qA nJ nY dQ jC eO eW fJ fY jD 0 v_10 x4 x5 oX rX qF jJ))
noncomputable def wb_X9_trips_64 (post : Int32 → Int32 → (Nat → Int32) → Int32 → (Nat → Int32) → Prop) (bZ bD : Int32) (wD gF qA nJ nY dQ : Nat → Int32) (jC eO eW fJ fY jD : Int32) : Nat → Int32 → Int32 → Int32 → Int32 → Int32 → (Nat → Int32) → Int32 → (Nat → Int32) → Prop := fun n => Nat.rec (motive := fun _ => Int32 → Int32 → Int32 → Int32 → Int32 → (Nat → Int32) → Int32 → (Nat → Int32) → Prop) (fun _ _ _ _ _ _ _ _ => False) (fun _ ih => ws_X9_trips_64 post ih bZ bD wD gF qA nJ nY dQ jC eO eW fJ fY jD) n
set_option maxHeartbeats 4000000 in
set_option maxRecDepth 100000 in
theorem ks_X9_trips_64 (C0 : gc cX9_trips (some .int) 6 RX9 (dC, dI) (tyl cI cC cZ cB cJ) A p s m args meth c) {next : Int32 → Int32 → Int32 → Int32 → Int32 → (Nat → Int32) → Int32 → (Nat → Int32) → Prop} (hKn : ∀ (x2 : Int32) (x3 : Int32) (x4 : Int32) (x5 : Int32) (oX : Int32) (rX : Nat → Int32) (qF : Int32) (jJ : Nat → Int32) (H : Heap) (locs : List Loc) (ls : Array Slot), next x2 x3 x4 x5 oX rX qF jJ → va_P (dC, dI) classes (wd_X9_trips cI cC cZ cB cJ a_x xG xD wY wJ wQ xI xK xJ tW uE qU uJ uL uI xH tX jE mX pD oO oQ eG qT oX rJ pN rP rX bZ bD bI aI wD gF qA nJ nY dQ jC eO eW dO fJ fY jD nG qF jJ) H → va_D A (wd_X9_trips cI cC cZ cB cJ a_x xG xD wY wJ wQ xI xK xJ tW uE qU uJ uL uI xH tX jE mX pD oO oQ eG qT oX rJ pN rP rX bZ bD bI aI wD gF qA nJ nY dQ jC eO eW dO fJ fY jD nG qF jJ) → va_S A s.heap H locs → lv_has ls 6 [(0, .ref a_x), (2, .int x2), (3, .int x3), (4, .int x4), (5, .int x5)] → W p l e rm_X9_trips s m args below meth c H locs 0 0 (MQ below (q_X9_trips dC dI cI cC cZ cB cJ A a_x xG xD wY wJ wQ xI xK xJ tW uE qU uJ uL uI xH tX jE mX pD oO oQ eG qT rJ pN rP bZ bD bI aI wD gF qA nJ nY dQ jC eO eW dO fJ fY jD nG post) args s 0 0 A) (F0 m 64 ls [])) : ∀ (x2 x3 x4 x5 oX : Int32) (rX : Nat → Int32) (qF : Int32) (jJ : Nat → Int32) (H : Heap) (locs : List Loc) (ls : Array Slot), (ws_X9_trips_64 post next bZ bD wD gF qA nJ nY dQ jC eO eW fJ fY jD) x2 x3 x4 x5 oX rX qF jJ → va_P (dC, dI) classes (wd_X9_trips cI cC cZ cB cJ a_x xG xD wY wJ wQ xI xK xJ tW uE qU uJ uL uI xH tX jE mX pD oO oQ eG qT oX rJ pN rP rX bZ bD bI aI wD gF qA nJ nY dQ jC eO eW dO fJ fY jD nG qF jJ) H → va_D A (wd_X9_trips cI cC cZ cB cJ a_x xG xD wY wJ wQ xI xK xJ tW uE qU uJ uL uI xH tX jE mX pD oO oQ eG qT oX rJ pN rP rX bZ bD bI aI wD gF qA nJ nY dQ jC eO eW dO fJ fY jD nG qF jJ) → va_S A s.heap H locs → lv_has ls 6 [(0, .ref a_x), (2, .int x2), (3, .int x3), (4, .int x4), (5, .int x5)] → W p l e rm_X9_trips s m args below meth c H locs 0 0 (MQ below (q_X9_trips dC dI cI cC cZ cB cJ A a_x xG xD wY wJ wQ xI xK xJ tW uE qU uJ uL uI xH tX jE mX pD oO oQ eG qT rJ pN rP bZ bD bI aI wD gF qA nJ nY dQ jC eO eW dO fJ fY jD nG post) args s 0 0 A) (F0 m 64 ls []) := by
  obtain ⟨hx, hb, hr, hml, hown, hts, hlocks, hA, hK, hN, tL, tM, hZL, hTL, hZM, hTM, hZX⟩ := id C0
  intro x2 x3 x4 x5 oX rX qF jJ H locs ls hp hP hD hS hl
  unfold ws_X9_trips_64 at hp
  refine lv_iload hx hb eX9_trips_45.2.2.2.2.2.2.2.2.2.2.2.1 (lv_at hl 4 rfl) ?_
  refine lv_iload hx hb eX9_trips_45.2.2.2.2.2.2.2.2.2.2.2.2.1 (lv_at hl 3 rfl) ?_
  refine lv_icmp_ge (tgt := 98) hx hb eX9_trips_45.2.2.2.2.2.2.2.2.2.2.2.2.2.1 (by decide) (fun hc => ?_) (fun hc => ?_)
  · have hp := hp.1 hc
    refine lv_aload_n hx hb eX9_trips_73.2.2.2.2.2.2.2.2.2.2.2.1 rfl (lv_at hl 0 rfl) ?_
    refine lv_iload_n hx hb eX9_trips_73.2.2.2.2.2.2.2.2.2.2.2.2.1 rfl (lv_at hl 1 rfl) ?_
    have hm := mgk (wc := (wd_X9_tell cI cC cZ cB cJ a_x xG xD wY wJ wQ xI xK xJ tW qT qF jJ)) hP aBp 14 rfl rfl rfl
    refine g_callv hP hD hS hA (mixT aBp) (mixF aBp) hm.1 hm.2 (nd_F _) (dis_g _) (g_runV (As := [.int x2]) (rest := []) C0 hP hD hS (mixT aBp) hm.1 (nd_T _) 0 9 rfl rfl (c_X9_tell l dC dI cI cC cZ cB cJ a_x xG xD wY wJ wQ xI xK xJ tW qT H.size x2 qF jJ _ hp) q_373 q_376 q_374 q_375 q_256 h_X9_tell rfl rfl ⟨Nat.le_of_ble_eq_true rfl, Nat.le_of_ble_eq_true rfl⟩ rfl rfl hl.1 rfl (lv_room (Nat.le_of_ble_eq_true rfl)) eX9_trips_73.2.2.2.2.2.2.2.2.2.2.2.2.2.1 ⟨Nat.zero_le _, Nat.zero_le _⟩) (fun u H locs hp hP hD hS => ?_)
    obtain ⟨zW, yO⟩ := u
    have hPD := PDm (ws' := (wd_X9_trips cI cC cZ cB cJ a_x xG xD wY wJ wQ xI xK xJ tW uE qU uJ uL uI xH tX jE mX pD oO oQ eG qT oX rJ pN rP rX bZ bD bI aI wD gF qA nJ nY dQ jC eO eW dO fJ fY jD nG zW yO)) hP hD 14 rfl rfl rfl
    have hP := hPD.1
    have hD := hPD.2
    refine lv_iload_n hx hb eX9_trips_73.2.2.2.2.2.2.2.2.2.2.2.2.2.2.1 rfl (lv_at hl 2 rfl) ?_
    exact W.iret (v := x3) hx hb hr (fun t ht hW => ⟨⟨x3, (oX, rX, zW, yO), rfl, hp, by rw [ht]; exact hP, va_K.moved hW.alike hK, hD⟩, hS.F ht⟩) hS.2.2 eX9_trips_73.2.2.2.2.2.2.2.2.2.2.2.2.2.2.2
  · have hp := hp.2 hc
    refine lv_iload_n hx hb eX9_trips_45.2.2.2.2.2.2.2.2.2.2.2.2.2.2.1 rfl (lv_at hl 1 rfl) ?_
    refine lv_aload_n hx hb eX9_trips_45.2.2.2.2.2.2.2.2.2.2.2.2.2.2.2 rfl (lv_at hl 0 rfl) ?_
    refine va_get (D := (dC, dI)) (ci := 9) (v := .ref wJ) (C := RX9) (T := TX9) (N := 9) hx hb hts i_X9 hown hK hP 0 rfl rfl 3 (Nat.le_of_ble_eq_true rfl) (hts _ q_74) (fun _ h9 => h9) rfl eX9_trips_73.1 ?_
    refine va_get (D := (dC, dI)) (ci := 3) (v := .ref eG) (C := RX3) (T := TX3) (N := 11) hx hb hts i_X3 hown hK hP 4 rfl rfl 6 (Nat.le_of_ble_eq_true rfl) (hts _ q_207) (fun _ h9 => h9) rfl eX9_trips_73.2.1 ?_
    refine lv_iconst (v := 4) hx hb eX9_trips_73.2.2.1 ic_4 ?_
    refine va_iald hx hb hK hP 10 0 rfl rfl (g_in rfl) eX9_trips_73.2.2.2.1 ?_
    refine lv_icmp_lt (tgt := 89) hx hb eX9_trips_73.2.2.2.2.1 (by decide) (fun hc => ?_) (fun hc => ?_)
    · have hp := hp.1 hc
      exact ks_X9_trips_89 C0 hKn x2 x3 x4 x5 oX rX qF jJ H locs ls hp hP hD hS (lv_sub hl [0, 1, 2, 3, 4] rfl)
    · have hp := hp.2 hc
      obtain ⟨v_10, ev_10⟩ : ∃ y : Int32, y = x3 + 1 := ⟨_, rfl⟩
      refine lv_iinc (v := v_10) (lv' := [(3, .int v_10), (0, .ref a_x), (2, .int x2), (4, .int x4), (5, .int x5)]) hx hb eX9_trips_73.2.2.2.2.2.1 hl (k := 2) rfl (by rw [ev_10]; rfl) (by decide) rfl (fun ls hl => ?_)
      have hp := hp v_10 ev_10
      refine lv_iconst (v := 0) hx hb eX9_trips_73.2.2.2.2.2.2.1 ic_0 ?_
      refine lv_istore_n (lv' := [(2, .int 0), (3, .int v_10), (0, .ref a_x), (4, .int x4), (5, .int x5)]) hx hb eX9_trips_73.2.2.2.2.2.2.2.1 rfl hl (by decide) rfl (fun ls hl => ?_)
      exact ks_X9_trips_89 C0 hKn 0 v_10 x4 x5 oX rX qF jJ H locs ls hp hP hD hS (lv_sub hl [2, 0, 1, 3, 4] rfl)
set_option maxHeartbeats 4000000 in
set_option maxRecDepth 100000 in
theorem kb_X9_trips_64 (C0 : gc cX9_trips (some .int) 6 RX9 (dC, dI) (tyl cI cC cZ cB cJ) A p s m args meth c) : ∀ (n : Nat), ∀ (x2 x3 x4 x5 oX : Int32) (rX : Nat → Int32) (qF : Int32) (jJ : Nat → Int32) (H : Heap) (locs : List Loc) (ls : Array Slot), (wb_X9_trips_64 post bZ bD wD gF qA nJ nY dQ jC eO eW fJ fY jD n) x2 x3 x4 x5 oX rX qF jJ → va_P (dC, dI) classes (wd_X9_trips cI cC cZ cB cJ a_x xG xD wY wJ wQ xI xK xJ tW uE qU uJ uL uI xH tX jE mX pD oO oQ eG qT oX rJ pN rP rX bZ bD bI aI wD gF qA nJ nY dQ jC eO eW dO fJ fY jD nG qF jJ) H → va_D A (wd_X9_trips cI cC cZ cB cJ a_x xG xD wY wJ wQ xI xK xJ tW uE qU uJ uL uI xH tX jE mX pD oO oQ eG qT oX rJ pN rP rX bZ bD bI aI wD gF qA nJ nY dQ jC eO eW dO fJ fY jD nG qF jJ) → va_S A s.heap H locs → lv_has ls 6 [(0, .ref a_x), (2, .int x2), (3, .int x3), (4, .int x4), (5, .int x5)] → W p l e rm_X9_trips s m args below meth c H locs 0 0 (MQ below (q_X9_trips dC dI cI cC cZ cB cJ A a_x xG xD wY wJ wQ xI xK xJ tW uE qU uJ uL uI xH tX jE mX pD oO oQ eG qT rJ pN rP bZ bD bI aI wD gF qA nJ nY dQ jC eO eW dO fJ fY jD nG post) args s 0 0 A) (F0 m 64 ls []) := by
  intro n
  induction n with
  | zero =>
    intro x2 x3 x4 x5 oX rX qF jJ H locs ls hp
    exact False.elim hp
  | succ n ih =>
    intro x2 x3 x4 x5 oX rX qF jJ H locs ls hp
    exact ks_X9_trips_64 C0 ih x2 x3 x4 x5 oX rX qF jJ H locs ls hp
noncomputable def ws_X9_trips_45 (post : Int32 → Int32 → (Nat → Int32) → Int32 → (Nat → Int32) → Prop) (bZ bD : Int32) (wD gF qA nJ nY dQ : Nat → Int32) (jC eO eW fJ fY jD x1 k0 oX : Int32) (rX : Nat → Int32) (qF : Int32) (jJ : Nat → Int32) : Prop := wp_X5_wantedFrom (fun r_4 => wp_J6_bitCount_0f7a4 (fun r_5 => ∃ n : Nat, wb_X9_trips_64 post bZ bD wD gF qA nJ nY dQ jC eO eW fJ fY jD n k0 0 r_5 0 oX rX qF jJ) r_4) x1 oX rX
set_option maxHeartbeats 4000000 in
set_option maxRecDepth 100000 in
theorem ks_X9_trips_45 (C0 : gc cX9_trips (some .int) 6 RX9 (dC, dI) (tyl cI cC cZ cB cJ) A p s m args meth c) : ∀ (x1 k0 oX : Int32) (rX : Nat → Int32) (qF : Int32) (jJ : Nat → Int32) (H : Heap) (locs : List Loc) (ls : Array Slot), (ws_X9_trips_45 post bZ bD wD gF qA nJ nY dQ jC eO eW fJ fY jD) x1 k0 oX rX qF jJ → va_P (dC, dI) classes (wd_X9_trips cI cC cZ cB cJ a_x xG xD wY wJ wQ xI xK xJ tW uE qU uJ uL uI xH tX jE mX pD oO oQ eG qT oX rJ pN rP rX bZ bD bI aI wD gF qA nJ nY dQ jC eO eW dO fJ fY jD nG qF jJ) H → va_D A (wd_X9_trips cI cC cZ cB cJ a_x xG xD wY wJ wQ xI xK xJ tW uE qU uJ uL uI xH tX jE mX pD oO oQ eG qT oX rJ pN rP rX bZ bD bI aI wD gF qA nJ nY dQ jC eO eW dO fJ fY jD nG qF jJ) → va_S A s.heap H locs → lv_has ls 6 [(0, .ref a_x), (1, .int x1)] → W p l e rm_X9_trips s m args below meth c H locs 0 0 (MQ below (q_X9_trips dC dI cI cC cZ cB cJ A a_x xG xD wY wJ wQ xI xK xJ tW uE qU uJ uL uI xH tX jE mX pD oO oQ eG qT rJ pN rP bZ bD bI aI wD gF qA nJ nY dQ jC eO eW dO fJ fY jD nG post) args s 0 0 A) (F0 m 45 ls [.int k0]) := by
  obtain ⟨hx, hb, hr, hml, hown, hts, hlocks, hA, hK, hN, tL, tM, hZL, hTL, hZM, hTM, hZX⟩ := id C0
  intro x1 k0 oX rX qF jJ H locs ls hp hP hD hS hl
  unfold ws_X9_trips_45 at hp
  refine lv_istore_n (lv' := [(2, .int k0), (0, .ref a_x), (1, .int x1)]) hx hb eX9_trips_45.1 rfl hl (by decide) rfl (fun ls hl => ?_)
  refine lv_iconst (v := 0) hx hb eX9_trips_45.2.1 ic_0 ?_
  refine lv_istore_n (lv' := [(3, .int 0), (2, .int k0), (0, .ref a_x), (1, .int x1)]) hx hb eX9_trips_45.2.2.1 rfl hl (by decide) rfl (fun ls hl => ?_)
  refine lv_aload_n hx hb eX9_trips_45.2.2.2.1 rfl (lv_at hl 2 rfl) ?_
  refine va_get (D := (dC, dI)) (ci := 9) (v := .ref xD) (C := RX9) (T := TX9) (N := 9) hx hb hts i_X9 hown hK hP 0 rfl rfl 1 (Nat.le_of_ble_eq_true rfl) (hts _ q_444) (fun _ h9 => h9) rfl eX9_trips_45.2.2.2.2.1 ?_
  refine lv_iload_n hx hb eX9_trips_45.2.2.2.2.2.1 rfl (lv_at hl 3 rfl) ?_
  have hm := mgk (wc := (wd_X5_wantedFrom cI cC cZ cB cJ xD wY wJ uE qU uJ uL uI oX rJ pN rP rX)) hP mk_120 14 rfl rfl rfl
  refine g_calli hP hD hS hA (mixT mk_120) (mixF mk_120) hm.1 hm.2 (nd_F _) (dis_g _) (g_runV (As := [.int x1]) (rest := []) C0 hP hD hS (mixT mk_120) hm.1 (nd_T _) 1 5 rfl rfl (c_X5_wantedFrom l dC dI cI cC cZ cB cJ xD wY wJ uE qU uJ uL uI H.size x1 oX rJ pN rP rX _ hp) q_449 q_452 q_450 q_451 q_431 h_X5_wantedFrom rfl rfl ⟨Nat.le_of_ble_eq_true rfl, Nat.le_of_ble_eq_true rfl⟩ rfl rfl hl.1 rfl (lv_room (Nat.le_of_ble_eq_true rfl)) eX9_trips_45.2.2.2.2.2.2.1 ⟨Nat.zero_le _, Nat.zero_le _⟩) (fun r_4 u H locs hp hP hD hS => ?_)
  have hPD := PDm (ws' := (wd_X9_trips cI cC cZ cB cJ a_x xG xD wY wJ wQ xI xK xJ tW uE qU uJ uL uI xH tX jE mX pD oO oQ eG qT oX rJ pN rP rX bZ bD bI aI wD gF qA nJ nY dQ jC eO eW dO fJ fY jD nG qF jJ)) hP hD 14 rfl rfl rfl
  have hP := hPD.1
  have hD := hPD.2
  have hm := mgk (wc := (wd_J6_bitCount_0f7a4 cI cC cZ cB cJ)) hP aAy 14 rfl rfl rfl
  refine g_calli hP hD hS hA (mixT aAy) (mixF aAy) hm.1 hm.2 (nd_F _) (dis_g _) (g_runS (As := [.int r_4]) (rest := []) C0 hP hD hS (mixT aAy) hm.1 (nd_T _) (c_J6_bitCount_0f7a4 l dC dI cI cC cZ cB cJ H.size r_4 _ hp) q_320 q_474 q_322 q_321 h_J6_bitCount_0f7a4 rfl rfl ⟨Nat.le_of_ble_eq_true rfl, Nat.le_of_ble_eq_true rfl⟩ rfl rfl hl.1 rfl (lv_room (Nat.le_of_ble_eq_true rfl)) eX9_trips_45.2.2.2.2.2.2.2.1 ⟨Nat.zero_le _, Nat.zero_le _⟩) (fun r_5 u H locs hp hP hD hS => ?_)
  have hPD := PDm (ws' := (wd_X9_trips cI cC cZ cB cJ a_x xG xD wY wJ wQ xI xK xJ tW uE qU uJ uL uI xH tX jE mX pD oO oQ eG qT oX rJ pN rP rX bZ bD bI aI wD gF qA nJ nY dQ jC eO eW dO fJ fY jD nG qF jJ)) hP hD 14 rfl rfl rfl
  have hP := hPD.1
  have hD := hPD.2
  refine lv_istore (lv' := [(4, .int r_5), (3, .int 0), (2, .int k0), (0, .ref a_x), (1, .int x1)]) hx hb eX9_trips_45.2.2.2.2.2.2.2.2.1 hl (by decide) rfl (fun ls hl => ?_)
  refine lv_iconst (v := 0) hx hb eX9_trips_45.2.2.2.2.2.2.2.2.2.1 ic_0 ?_
  refine lv_istore (lv' := [(5, .int 0), (4, .int r_5), (3, .int 0), (2, .int k0), (0, .ref a_x), (1, .int x1)]) hx hb eX9_trips_45.2.2.2.2.2.2.2.2.2.2.1 hl (by decide) rfl (fun ls hl => ?_)
  obtain ⟨n9, hp⟩ := hp
  exact kb_X9_trips_64 C0 n9 k0 0 r_5 0 oX rX qF jJ H locs ls hp hP hD hS (lv_sub hl [4, 3, 2, 1, 0] rfl)
end S_X9_trips
noncomputable def wp_X9_trips (post : Int32 → Int32 → (Nat → Int32) → Int32 → (Nat → Int32) → Prop) (p0 oX : Int32) (rX : Nat → Int32) (bZ bD : Int32) (wD gF qA nJ nY dQ : Nat → Int32) (jC eO eW fJ fY jD qF : Int32) (jJ : Nat → Int32) : Prop := wp_X3_hasStanding (fun r_1 => (¬ r_1 = 0 → wp_X5_look (fun xR yA => (¬ fJ = p0 → ws_X9_trips_45 post bZ bD wD gF qA nJ nY dQ jC eO eW fJ fY jD p0 0 xR yA qF jJ) ∧ (fJ = p0 → wp_J6_bitCount_0f7a4 (fun r_11 => ws_X9_trips_45 post bZ bD wD gF qA nJ nY dQ jC eO eW fJ fY jD p0 r_11 xR yA qF jJ) jC)) oX rX bZ bD wD gF qA nJ nY dQ jC eO eW fY jD) ∧ (r_1 = 0 → post (-1) oX rX qF jJ)) p0 bD
set_option maxHeartbeats 4000000 in
set_option maxRecDepth 100000 in
theorem c_X9_trips (l : Launch) (dC : Nat → ClassId) (dI : Nat → Nat → Nat) (cI cC cZ cB cJ : ClassId) (a_x xG xD wY wJ wQ xI xK xJ tW uE qU uJ uL uI xH tX jE mX pD oO oQ eG qT sz : Nat) (p0 oX rJ pN rP : Int32) (rX : Nat → Int32) (bZ bD bI aI : Int32) (wD gF qA nJ nY dQ : Nat → Int32) (jC eO eW dO fJ fY jD nG qF : Int32) (jJ : Nat → Int32) (post : Int32 → Int32 → (Nat → Int32) → Int32 → (Nat → Int32) → Prop) (hw : wp_X9_trips post p0 oX rX bZ bD wD gF qA nJ nY dQ jC eO eW fJ fY jD qF jJ) : Met l yX9_trips (gw yX9_trips cX9_trips 6 (some .int)) rm_X9_trips (va_Pc [.ref a_x, .int p0] (gPre (dC, dI) (tyl cI cC cZ cB cJ) (wd_X9_trips cI cC cZ cB cJ a_x xG xD wY wJ wQ xI xK xJ tW uE qU uJ uL uI xH tX jE mX pD oO oQ eG qT oX rJ pN rP rX bZ bD bI aI wD gF qA nJ nY dQ jC eO eW dO fJ fY jD nG qF jJ) sz)) (q_X9_trips dC dI cI cC cZ cB cJ (va_A (wd_X9_trips cI cC cZ cB cJ a_x xG xD wY wJ wQ xI xK xJ tW uE qU uJ uL uI xH tX jE mX pD oO oQ eG qT oX rJ pN rP rX bZ bD bI aI wD gF qA nJ nY dQ jC eO eW dO fJ fY jD nG qF jJ) sz) a_x xG xD wY wJ wQ xI xK xJ tW uE qU uJ uL uI xH tX jE mX pD oO oQ eG qT rJ pN rP bZ bD bI aI wD gF qA nJ nY dQ jC eO eW dO fJ fY jD nG post) 0 0 (va_A (wd_X9_trips cI cC cZ cB cJ a_x xG xD wY wJ wQ xI xK xJ tW uE qU uJ uL uI xH tX jE mX pD oO oQ eG qT oX rJ pN rP rX bZ bD bI aI wD gF qA nJ nY dQ jC eO eW dO fJ fY jD nG qF jJ) sz) := by
  refine g_enter (own := RX9) (dC, dI) (tyl cI cC cZ cB cJ) (wd_X9_trips cI cC cZ cB cJ a_x xG xD wY wJ wQ xI xK xJ tW uE qU uJ uL uI xH tX jE mX pD oO oQ eG qT oX rJ pN rP rX bZ bD bI aI wD gF qA nJ nY dQ jC eO eW dO fJ fY jD nG qF jJ) sz [.ref a_x, .int p0] (fun A => q_X9_trips dC dI cI cC cZ cB cJ A a_x xG xD wY wJ wQ xI xK xJ tW uE qU uJ uL uI xH tX jE mX pD oO oQ eG qT rJ pN rP bZ bD bI aI wD gF qA nJ nY dQ jC eO eW dO fJ fY jD nG post) pn_RX9 rfl (Nat.le_of_ble_eq_true rfl) ?_
  intro p e s m args below meth c A H locs ls C0 hP hD hS hl
  have hl : lv_has ls 6 [(0, .ref a_x), (1, .int p0)] := hl
  obtain ⟨hx, hb, hr, hml, hown, hts, hlocks, hA, hK, hN, tL, tM, hZL, hTL, hZM, hTM, hZX⟩ := id C0
  have hp := hw
  unfold wp_X9_trips at hp
  refine lv_aload_n hx hb eX9_trips_0.1 rfl (lv_at hl 0 rfl) ?_
  refine va_get (D := (dC, dI)) (ci := 9) (v := .ref wJ) (C := RX9) (T := TX9) (N := 9) hx hb hts i_X9 hown hK hP 0 rfl rfl 3 (Nat.le_of_ble_eq_true rfl) (hts _ q_74) (fun _ h9 => h9) rfl eX9_trips_0.2.1 ?_
  refine lv_iload_n hx hb eX9_trips_0.2.2.1 rfl (lv_at hl 1 rfl) ?_
  have hm := mgk (wc := (wd_X3_hasStanding cI cC cZ cB cJ wJ tX jE mX pD oO oQ eG bZ bD bI aI)) hP aAB 14 rfl rfl rfl
  refine g_calli hP hD hS hA (mixT aAB) (mixF aAB) hm.1 hm.2 (nd_F _) (dis_g _) (g_runV (As := [.int p0]) (rest := []) C0 hP hD hS (mixT aAB) hm.1 (nd_T _) 4 3 rfl rfl (c_X3_hasStanding l dC dI cI cC cZ cB cJ wJ tX jE mX pD oO oQ eG H.size p0 bZ bD bI aI _ hp) q_195 q_198 q_196 q_197 q_48 h_X3_hasStanding rfl rfl ⟨Nat.le_of_ble_eq_true rfl, Nat.le_of_ble_eq_true rfl⟩ rfl rfl hl.1 rfl (lv_room (Nat.le_of_ble_eq_true rfl)) eX9_trips_0.2.2.2.1 ⟨Nat.zero_le _, Nat.zero_le _⟩) (fun r_1 u H locs hp hP hD hS => ?_)
  have hPD := PDm (ws' := (wd_X9_trips cI cC cZ cB cJ a_x xG xD wY wJ wQ xI xK xJ tW uE qU uJ uL uI xH tX jE mX pD oO oQ eG qT oX rJ pN rP rX bZ bD bI aI wD gF qA nJ nY dQ jC eO eW dO fJ fY jD nG qF jJ)) hP hD 14 rfl rfl rfl
  have hP := hPD.1
  have hD := hPD.2
  refine lv_if_ne (tgt := 13) hx hb eX9_trips_0.2.2.2.2 (by decide) (fun hc => ?_) (fun hc => ?_)
  · have hp := hp.1 hc
    refine lv_aload_n hx hb eX9_trips_11.2.2.1 rfl (lv_at hl 0 rfl) ?_
    refine va_get (D := (dC, dI)) (ci := 9) (v := .ref xD) (C := RX9) (T := TX9) (N := 9) hx hb hts i_X9 hown hK hP 0 rfl rfl 1 (Nat.le_of_ble_eq_true rfl) (hts _ q_444) (fun _ h9 => h9) rfl eX9_trips_11.2.2.2.1 ?_
    have hm := mgk (wc := (wd_X5_look cI cC cZ cB cJ xD wY wJ uE qU uJ uL uI wQ xH tX jE mX pD oO oQ eG oX rJ pN rP rX bZ bD bI aI wD gF qA nJ nY dQ jC eO eW dO fJ fY jD nG)) hP aA9 14 rfl rfl rfl
    refine g_callv hP hD hS hA (mixT aA9) (mixF aA9) hm.1 hm.2 (nd_F _) (dis_g _) (g_runV (As := []) (rest := []) C0 hP hD hS (mixT aA9) hm.1 (nd_T _) 1 5 rfl rfl (c_X5_look l dC dI cI cC cZ cB cJ xD wY wJ uE qU uJ uL uI wQ xH tX jE mX pD oO oQ eG H.size oX rJ pN rP rX bZ bD bI aI wD gF qA nJ nY dQ jC eO eW dO fJ fY jD nG _ hp) q_445 q_448 q_446 q_447 q_431 h_X5_look rfl rfl ⟨Nat.le_of_ble_eq_true rfl, Nat.le_of_ble_eq_true rfl⟩ rfl rfl hl.1 rfl (lv_room (Nat.le_of_ble_eq_true rfl)) eX9_trips_11.2.2.2.2.1 ⟨Nat.zero_le _, Nat.zero_le _⟩) (fun u H locs hp hP hD hS => ?_)
    obtain ⟨xR, yA⟩ := u
    have hPD := PDm (ws' := (wd_X9_trips cI cC cZ cB cJ a_x xG xD wY wJ wQ xI xK xJ tW uE qU uJ uL uI xH tX jE mX pD oO oQ eG qT xR rJ pN rP yA bZ bD bI aI wD gF qA nJ nY dQ jC eO eW dO fJ fY jD nG qF jJ)) hP hD 14 rfl rfl rfl
    have hP := hPD.1
    have hD := hPD.2
    refine lv_aload_n hx hb eX9_trips_11.2.2.2.2.2.1 rfl (lv_at hl 0 rfl) ?_
    refine va_get (D := (dC, dI)) (ci := 9) (v := .ref wQ) (C := RX9) (T := TX9) (N := 9) hx hb hts i_X9 hown hK hP 0 rfl rfl 4 (Nat.le_of_ble_eq_true rfl) (hts _ q_179) (fun _ h9 => h9) rfl eX9_trips_11.2.2.2.2.2.2.1 ?_
    refine va_get (D := (dC, dI)) (ci := 2) (v := .int fJ) (C := RX2) (T := TX2) (N := 8) hx hb hts i_X2 hown hK hP 11 rfl rfl 4 (Nat.le_of_ble_eq_true rfl) (hts _ q_497) (fun _ h9 => h9) rfl eX9_trips_11.2.2.2.2.2.2.2.1 ?_
    refine lv_iload_n hx hb eX9_trips_11.2.2.2.2.2.2.2.2.1 rfl (lv_at hl 1 rfl) ?_
    refine lv_icmp_ne (tgt := 44) hx hb eX9_trips_11.2.2.2.2.2.2.2.2.2.1 (by decide) (fun hc => ?_) (fun hc => ?_)
    · have hp := hp.1 hc
      refine lv_iconst (v := 0) hx hb eX9_trips_11.2.2.2.2.2.2.2.2.2.2.2.2.2.2.2 ic_0 ?_
      exact ks_X9_trips_45 C0 p0 0 xR yA qF jJ H locs ls hp hP hD hS (lv_sub hl [0, 1] rfl)
    · have hp := hp.2 hc
      refine lv_aload_n hx hb eX9_trips_11.2.2.2.2.2.2.2.2.2.2.1 rfl (lv_at hl 0 rfl) ?_
      refine va_get (D := (dC, dI)) (ci := 9) (v := .ref wQ) (C := RX9) (T := TX9) (N := 9) hx hb hts i_X9 hown hK hP 0 rfl rfl 4 (Nat.le_of_ble_eq_true rfl) (hts _ q_179) (fun _ h9 => h9) rfl eX9_trips_11.2.2.2.2.2.2.2.2.2.2.2.1 ?_
      refine va_get (D := (dC, dI)) (ci := 2) (v := .int jC) (C := RX2) (T := TX2) (N := 8) hx hb hts i_X2 hown hK hP 11 rfl rfl 0 (Nat.le_of_ble_eq_true rfl) (hts _ q_541) (fun _ h9 => h9) rfl eX9_trips_11.2.2.2.2.2.2.2.2.2.2.2.2.1 ?_
      have hm := mgk (wc := (wd_J6_bitCount_0f7a4 cI cC cZ cB cJ)) hP aAy 14 rfl rfl rfl
      refine g_calli hP hD hS hA (mixT aAy) (mixF aAy) hm.1 hm.2 (nd_F _) (dis_g _) (g_runS (As := [.int jC]) (rest := []) C0 hP hD hS (mixT aAy) hm.1 (nd_T _) (c_J6_bitCount_0f7a4 l dC dI cI cC cZ cB cJ H.size jC _ hp) q_320 q_474 q_322 q_321 h_J6_bitCount_0f7a4 rfl rfl ⟨Nat.le_of_ble_eq_true rfl, Nat.le_of_ble_eq_true rfl⟩ rfl rfl hl.1 rfl (lv_room (Nat.le_of_ble_eq_true rfl)) eX9_trips_11.2.2.2.2.2.2.2.2.2.2.2.2.2.1 ⟨Nat.zero_le _, Nat.zero_le _⟩) (fun r_11 u H locs hp hP hD hS => ?_)
      have hPD := PDm (ws' := (wd_X9_trips cI cC cZ cB cJ a_x xG xD wY wJ wQ xI xK xJ tW uE qU uJ uL uI xH tX jE mX pD oO oQ eG qT xR rJ pN rP yA bZ bD bI aI wD gF qA nJ nY dQ jC eO eW dO fJ fY jD nG qF jJ)) hP hD 14 rfl rfl rfl
      have hP := hPD.1
      have hD := hPD.2
      refine lv_goto (tgt := 45) hx hb eX9_trips_11.2.2.2.2.2.2.2.2.2.2.2.2.2.2.1 (by decide) ?_
      exact ks_X9_trips_45 C0 p0 r_11 xR yA qF jJ H locs ls hp hP hD hS (lv_sub hl [0, 1] rfl)
  · have hp := hp.2 hc
    refine lv_iconst (v := (-1)) hx hb eX9_trips_11.1 ic_m1 ?_
    exact W.iret (v := (-1)) hx hb hr (fun t ht hW => ⟨⟨(-1), (oX, rX, qF, jJ), rfl, hp, by rw [ht]; exact hP, va_K.moved hW.alike hK, hD⟩, hS.F ht⟩) hS.2.2 eX9_trips_11.2.1
noncomputable abbrev wd_X9_helps (cI cC cZ cB cJ : ClassId) (a_x xG xD wY wJ wQ xI xK xJ tW uE qU uJ uL uI xH tX jE mX pD oO oQ eG qT : Nat) (oX rJ pN rP : Int32) (rX : Nat → Int32) (bZ bD bI aI : Int32) (wD gF qA nJ nY dQ : Nat → Int32) (jC eO eW dO fJ fY jD nG qF : Int32) (jJ : Nat → Int32) : va_W := [(a_x, .inr (9, [.ref xG, .ref xD, .ref wY, .ref wJ, .ref wQ, .ref xI, .ref xK, .ref xJ, .ref tW])), (xD, .inr (5, [.ref wY, .ref wJ, .ref uE, .ref qU, .ref uJ, .ref uL, .ref uI, .int oX, .int rJ, .int pN, .int rP])), (uE, .inl (cI, 8, .inl rX)), (wY, .inr (0, [.ref wJ, .ref wQ, .ref xH])), (wJ, .inr (3, [.ref tX, .ref jE, .ref mX, .ref pD, .ref oO, .ref oQ, .ref eG, .int bZ, .int bD, .int bI, .int aI])), (tX, .inl (cI, 16, .inl wD)), (jE, .inl (cI, 16, .inl gF)), (pD, .inl (cI, 16, .inl qA)), (oO, .inl (cI, 8, .inl nJ)), (oQ, .inl (cI, 8, .inl nY)), (eG, .inl (cI, 5, .inl dQ)), (wQ, .inr (2, [.int jC, .int eO, .int eW, .int dO, .int fJ, .int fY, .int jD, .int nG])), (xK, .inr (6, [.ref qT, .int qF])), (qT, .inl (cI, 16, .inl jJ))]
noncomputable abbrev q_X9_helps (dC : Nat → ClassId) (dI : Nat → Nat → Nat) (cI cC cZ cB cJ : ClassId) (A : Nat → Prop) (a_x xG xD wY wJ wQ xI xK xJ tW uE qU uJ uL uI xH tX jE mX pD oO oQ eG qT : Nat) (rJ pN rP bZ bD bI aI : Int32) (wD gF qA nJ nY dQ : Nat → Int32) (jC eO eW dO fJ fY jD nG : Int32) (post : Int32 → Int32 → (Nat → Int32) → Int32 → (Nat → Int32) → Prop) : Array Value → State → Outcome → State → Prop := va_Qi (fun (r : Int32) (u : Int32 × (Nat → Int32) × Int32 × (Nat → Int32)) => post r u.1 u.2.1 u.2.2.1 u.2.2.2) (fun u t => gB (dC, dI) (tyl cI cC cZ cB cJ) A (wd_X9_helps cI cC cZ cB cJ a_x xG xD wY wJ wQ xI xK xJ tW uE qU uJ uL uI xH tX jE mX pD oO oQ eG qT u.1 rJ pN rP u.2.1 bZ bD bI aI wD gF qA nJ nY dQ jC eO eW dO fJ fY jD nG u.2.2.1 u.2.2.2) t) A
noncomputable abbrev rm_X9_helps : Room := { frames := 4, cells := 0, slots := 0, locals := 95 }
noncomputable def wp_X9_helps (post : Int32 → Int32 → (Nat → Int32) → Int32 → (Nat → Int32) → Prop) (oX : Int32) (rX : Nat → Int32) (bZ bD : Int32) (wD gF qA nJ nY dQ : Nat → Int32) (jC eO eW jD qF : Int32) (jJ : Nat → Int32) : Prop := wp_X5_lookAs (fun xM xQ => wp_X3_allStandings (fun r_3 => wp_X5_smallestCover (fun r_4 => wp_X5_lookAs (fun aAr aDp => wp_X3_allStandings (fun r_7 => wp_X5_smallestCover (fun r_8 => wp_J6_bitCount_0f7a4 (fun r_9 => wp_J6_bitCount_0f7a4 (fun r_10 => wp_X9_tell_ (fun aEy aBy => wp_J6_bitCount_0f7a4 (fun r_13 => wp_J6_bitCount_0f7a4 (fun r_14 => post (r_13 - r_14) aAr aDp aEy aBy) r_8) r_4) r_9 r_10 qF jJ) aAr) xM) aAr r_7 aDp bD) bD) 1 jD xM xQ bZ bD wD gF qA nJ nY dQ jC eO eW) xM r_3 xQ bD) bD) 0 jD oX rX bZ bD wD gF qA nJ nY dQ jC eO eW
set_option maxHeartbeats 4000000 in
set_option maxRecDepth 100000 in
theorem c_X9_helps (l : Launch) (dC : Nat → ClassId) (dI : Nat → Nat → Nat) (cI cC cZ cB cJ : ClassId) (a_x xG xD wY wJ wQ xI xK xJ tW uE qU uJ uL uI xH tX jE mX pD oO oQ eG qT sz : Nat) (oX rJ pN rP : Int32) (rX : Nat → Int32) (bZ bD bI aI : Int32) (wD gF qA nJ nY dQ : Nat → Int32) (jC eO eW dO fJ fY jD nG qF : Int32) (jJ : Nat → Int32) (post : Int32 → Int32 → (Nat → Int32) → Int32 → (Nat → Int32) → Prop) (hw : wp_X9_helps post oX rX bZ bD wD gF qA nJ nY dQ jC eO eW jD qF jJ) : Met l yX9_helps (gw yX9_helps cX9_helps 4 (some .int)) rm_X9_helps (va_Pc [.ref a_x] (gPre (dC, dI) (tyl cI cC cZ cB cJ) (wd_X9_helps cI cC cZ cB cJ a_x xG xD wY wJ wQ xI xK xJ tW uE qU uJ uL uI xH tX jE mX pD oO oQ eG qT oX rJ pN rP rX bZ bD bI aI wD gF qA nJ nY dQ jC eO eW dO fJ fY jD nG qF jJ) sz)) (q_X9_helps dC dI cI cC cZ cB cJ (va_A (wd_X9_helps cI cC cZ cB cJ a_x xG xD wY wJ wQ xI xK xJ tW uE qU uJ uL uI xH tX jE mX pD oO oQ eG qT oX rJ pN rP rX bZ bD bI aI wD gF qA nJ nY dQ jC eO eW dO fJ fY jD nG qF jJ) sz) a_x xG xD wY wJ wQ xI xK xJ tW uE qU uJ uL uI xH tX jE mX pD oO oQ eG qT rJ pN rP bZ bD bI aI wD gF qA nJ nY dQ jC eO eW dO fJ fY jD nG post) 0 0 (va_A (wd_X9_helps cI cC cZ cB cJ a_x xG xD wY wJ wQ xI xK xJ tW uE qU uJ uL uI xH tX jE mX pD oO oQ eG qT oX rJ pN rP rX bZ bD bI aI wD gF qA nJ nY dQ jC eO eW dO fJ fY jD nG qF jJ) sz) := by
  refine g_enter (own := RX9) (dC, dI) (tyl cI cC cZ cB cJ) (wd_X9_helps cI cC cZ cB cJ a_x xG xD wY wJ wQ xI xK xJ tW uE qU uJ uL uI xH tX jE mX pD oO oQ eG qT oX rJ pN rP rX bZ bD bI aI wD gF qA nJ nY dQ jC eO eW dO fJ fY jD nG qF jJ) sz [.ref a_x] (fun A => q_X9_helps dC dI cI cC cZ cB cJ A a_x xG xD wY wJ wQ xI xK xJ tW uE qU uJ uL uI xH tX jE mX pD oO oQ eG qT rJ pN rP bZ bD bI aI wD gF qA nJ nY dQ jC eO eW dO fJ fY jD nG post) pn_RX9 rfl (Nat.le_of_ble_eq_true rfl) ?_
  intro p e s m args below meth c A H locs ls C0 hP hD hS hl
  have hl : lv_has ls 4 [(0, .ref a_x)] := hl
  obtain ⟨hx, hb, hr, hml, hown, hts, hlocks, hA, hK, hN, tL, tM, hZL, hTL, hZM, hTM, hZX⟩ := id C0
  have hp := hw
  unfold wp_X9_helps at hp
  refine lv_aload_n hx hb eX9_helps_0.1 rfl (lv_at hl 0 rfl) ?_
  refine va_get (D := (dC, dI)) (ci := 9) (v := .ref xD) (C := RX9) (T := TX9) (N := 9) hx hb hts i_X9 hown hK hP 0 rfl rfl 1 (Nat.le_of_ble_eq_true rfl) (hts _ q_444) (fun _ h9 => h9) rfl eX9_helps_0.2.1 ?_
  refine lv_iconst (v := 0) hx hb eX9_helps_0.2.2.1 ic_0 ?_
  refine lv_aload_n hx hb eX9_helps_0.2.2.2.1 rfl (lv_at hl 0 rfl) ?_
  refine va_get (D := (dC, dI)) (ci := 9) (v := .ref wQ) (C := RX9) (T := TX9) (N := 9) hx hb hts i_X9 hown hK hP 0 rfl rfl 4 (Nat.le_of_ble_eq_true rfl) (hts _ q_179) (fun _ h9 => h9) rfl eX9_helps_0.2.2.2.2.1 ?_
  refine va_get (D := (dC, dI)) (ci := 2) (v := .int jD) (C := RX2) (T := TX2) (N := 8) hx hb hts i_X2 hown hK hP 11 rfl rfl 6 (Nat.le_of_ble_eq_true rfl) (hts _ q_542) (fun _ h9 => h9) rfl eX9_helps_0.2.2.2.2.2.1 ?_
  have hm := mgk (wc := (wd_X5_lookAs cI cC cZ cB cJ xD wY wJ uE qU uJ uL uI wQ xH tX jE mX pD oO oQ eG oX rJ pN rP rX bZ bD bI aI wD gF qA nJ nY dQ jC eO eW dO fJ fY jD nG)) hP aA9 14 rfl rfl rfl
  refine g_callv hP hD hS hA (mixT aA9) (mixF aA9) hm.1 hm.2 (nd_F _) (dis_g _) (g_runV (As := [.int 0, .int jD]) (rest := []) C0 hP hD hS (mixT aA9) hm.1 (nd_T _) 1 5 rfl rfl (c_X5_lookAs l dC dI cI cC cZ cB cJ xD wY wJ uE qU uJ uL uI wQ xH tX jE mX pD oO oQ eG H.size 0 jD oX rJ pN rP rX bZ bD bI aI wD gF qA nJ nY dQ jC eO eW dO fJ fY jD nG _ hp) q_440 q_543 q_441 q_442 q_431 h_X5_lookAs rfl rfl ⟨Nat.le_of_ble_eq_true rfl, Nat.le_of_ble_eq_true rfl⟩ rfl rfl hl.1 rfl (lv_room (Nat.le_of_ble_eq_true rfl)) eX9_helps_0.2.2.2.2.2.2.1 ⟨Nat.zero_le _, Nat.zero_le _⟩) (fun u H locs hp hP hD hS => ?_)
  obtain ⟨xM, xQ⟩ := u
  have hPD := PDm (ws' := (wd_X9_helps cI cC cZ cB cJ a_x xG xD wY wJ wQ xI xK xJ tW uE qU uJ uL uI xH tX jE mX pD oO oQ eG qT xM rJ pN rP xQ bZ bD bI aI wD gF qA nJ nY dQ jC eO eW dO fJ fY jD nG qF jJ)) hP hD 14 rfl rfl rfl
  have hP := hPD.1
  have hD := hPD.2
  refine lv_aload_n hx hb eX9_helps_0.2.2.2.2.2.2.2.1 rfl (lv_at hl 0 rfl) ?_
  refine va_get (D := (dC, dI)) (ci := 9) (v := .ref xD) (C := RX9) (T := TX9) (N := 9) hx hb hts i_X9 hown hK hP 0 rfl rfl 1 (Nat.le_of_ble_eq_true rfl) (hts _ q_444) (fun _ h9 => h9) rfl eX9_helps_0.2.2.2.2.2.2.2.2.1 ?_
  refine va_get (D := (dC, dI)) (ci := 5) (v := .int xM) (C := RX5) (T := TX5) (N := 11) hx hb hts i_X5 hown hK hP 1 rfl rfl 7 (Nat.le_of_ble_eq_true rfl) (hts _ q_462) (fun _ h9 => h9) rfl eX9_helps_0.2.2.2.2.2.2.2.2.2.1 ?_
  refine lv_istore_n (lv' := [(1, .int xM), (0, .ref a_x)]) hx hb eX9_helps_0.2.2.2.2.2.2.2.2.2.2.1 rfl hl (by decide) rfl (fun ls hl => ?_)
  refine lv_aload_n hx hb eX9_helps_0.2.2.2.2.2.2.2.2.2.2.2.1 rfl (lv_at hl 1 rfl) ?_
  refine va_get (D := (dC, dI)) (ci := 9) (v := .ref xD) (C := RX9) (T := TX9) (N := 9) hx hb hts i_X9 hown hK hP 0 rfl rfl 1 (Nat.le_of_ble_eq_true rfl) (hts _ q_444) (fun _ h9 => h9) rfl eX9_helps_0.2.2.2.2.2.2.2.2.2.2.2.2.1 ?_
  refine lv_iload_n hx hb eX9_helps_0.2.2.2.2.2.2.2.2.2.2.2.2.2.1 rfl (lv_at hl 0 rfl) ?_
  refine lv_aload_n hx hb eX9_helps_0.2.2.2.2.2.2.2.2.2.2.2.2.2.2.1 rfl (lv_at hl 1 rfl) ?_
  refine va_get (D := (dC, dI)) (ci := 9) (v := .ref wJ) (C := RX9) (T := TX9) (N := 9) hx hb hts i_X9 hown hK hP 0 rfl rfl 3 (Nat.le_of_ble_eq_true rfl) (hts _ q_74) (fun _ h9 => h9) rfl eX9_helps_0.2.2.2.2.2.2.2.2.2.2.2.2.2.2.2 ?_
  have hm := mgk (wc := (wd_X3_allStandings cI cC cZ cB cJ wJ tX jE mX pD oO oQ eG bZ bD bI aI)) hP aAB 14 rfl rfl rfl
  refine g_calli hP hD hS hA (mixT aAB) (mixF aAB) hm.1 hm.2 (nd_F _) (dis_g _) (g_runV (As := []) (rest := [.int xM, .ref xD]) C0 hP hD hS (mixT aAB) hm.1 (nd_T _) 4 3 rfl rfl (c_X3_allStandings l dC dI cI cC cZ cB cJ wJ tX jE mX pD oO oQ eG H.size bZ bD bI aI _ hp) q_426 q_463 q_427 q_428 q_48 h_X3_allStandings rfl rfl ⟨Nat.le_of_ble_eq_true rfl, Nat.le_of_ble_eq_true rfl⟩ rfl rfl hl.1 rfl (lv_room (Nat.le_of_ble_eq_true rfl)) eX9_helps_32.1 ⟨Nat.zero_le _, Nat.zero_le _⟩) (fun r_3 u H locs hp hP hD hS => ?_)
  have hPD := PDm (ws' := (wd_X9_helps cI cC cZ cB cJ a_x xG xD wY wJ wQ xI xK xJ tW uE qU uJ uL uI xH tX jE mX pD oO oQ eG qT xM rJ pN rP xQ bZ bD bI aI wD gF qA nJ nY dQ jC eO eW dO fJ fY jD nG qF jJ)) hP hD 14 rfl rfl rfl
  have hP := hPD.1
  have hD := hPD.2
  have hm := mgk (wc := (wd_X5_smallestCover cI cC cZ cB cJ xD wY wJ uE qU uJ uL uI tX jE mX pD oO oQ eG xM rJ pN rP xQ bZ bD bI aI)) hP aBq 14 rfl rfl rfl
  refine g_calli hP hD hS hA (mixT aBq) (mixF aBq) hm.1 hm.2 (nd_F _) (dis_g _) (g_runV (As := [.int xM, .int r_3]) (rest := []) C0 hP hD hS (mixT aBq) hm.1 (nd_T _) 1 5 rfl rfl (c_X5_smallestCover l dC dI cI cC cZ cB cJ xD wY wJ uE qU uJ uL uI tX jE mX pD oO oQ eG H.size xM r_3 xM rJ pN rP xQ bZ bD bI aI _ hp) q_464 q_467 q_465 q_466 q_431 h_X5_smallestCover rfl rfl ⟨Nat.le_of_ble_eq_true rfl, Nat.le_of_ble_eq_true rfl⟩ rfl rfl hl.1 rfl (lv_room (Nat.le_of_ble_eq_true rfl)) eX9_helps_32.2.1 ⟨Nat.zero_le _, Nat.zero_le _⟩) (fun r_4 u H locs hp hP hD hS => ?_)
  have hPD := PDm (ws' := (wd_X9_helps cI cC cZ cB cJ a_x xG xD wY wJ wQ xI xK xJ tW uE qU uJ uL uI xH tX jE mX pD oO oQ eG qT xM rJ pN rP xQ bZ bD bI aI wD gF qA nJ nY dQ jC eO eW dO fJ fY jD nG qF jJ)) hP hD 14 rfl rfl rfl
  have hP := hPD.1
  have hD := hPD.2
  refine lv_istore_n (lv' := [(2, .int r_4), (1, .int xM), (0, .ref a_x)]) hx hb eX9_helps_32.2.2.1 rfl hl (by decide) rfl (fun ls hl => ?_)
  refine lv_aload_n hx hb eX9_helps_32.2.2.2.1 rfl (lv_at hl 2 rfl) ?_
  refine va_get (D := (dC, dI)) (ci := 9) (v := .ref xD) (C := RX9) (T := TX9) (N := 9) hx hb hts i_X9 hown hK hP 0 rfl rfl 1 (Nat.le_of_ble_eq_true rfl) (hts _ q_444) (fun _ h9 => h9) rfl eX9_helps_32.2.2.2.2.1 ?_
  refine lv_iconst (v := 1) hx hb eX9_helps_32.2.2.2.2.2.1 ic_1 ?_
  refine lv_aload_n hx hb eX9_helps_32.2.2.2.2.2.2.1 rfl (lv_at hl 2 rfl) ?_
  refine va_get (D := (dC, dI)) (ci := 9) (v := .ref wQ) (C := RX9) (T := TX9) (N := 9) hx hb hts i_X9 hown hK hP 0 rfl rfl 4 (Nat.le_of_ble_eq_true rfl) (hts _ q_179) (fun _ h9 => h9) rfl eX9_helps_32.2.2.2.2.2.2.2.1 ?_
  refine va_get (D := (dC, dI)) (ci := 2) (v := .int jD) (C := RX2) (T := TX2) (N := 8) hx hb hts i_X2 hown hK hP 11 rfl rfl 6 (Nat.le_of_ble_eq_true rfl) (hts _ q_542) (fun _ h9 => h9) rfl eX9_helps_32.2.2.2.2.2.2.2.2.1 ?_
  have hm := mgk (wc := (wd_X5_lookAs cI cC cZ cB cJ xD wY wJ uE qU uJ uL uI wQ xH tX jE mX pD oO oQ eG xM rJ pN rP xQ bZ bD bI aI wD gF qA nJ nY dQ jC eO eW dO fJ fY jD nG)) hP aA9 14 rfl rfl rfl
  refine g_callv hP hD hS hA (mixT aA9) (mixF aA9) hm.1 hm.2 (nd_F _) (dis_g _) (g_runV (As := [.int 1, .int jD]) (rest := []) C0 hP hD hS (mixT aA9) hm.1 (nd_T _) 1 5 rfl rfl (c_X5_lookAs l dC dI cI cC cZ cB cJ xD wY wJ uE qU uJ uL uI wQ xH tX jE mX pD oO oQ eG H.size 1 jD xM rJ pN rP xQ bZ bD bI aI wD gF qA nJ nY dQ jC eO eW dO fJ fY jD nG _ hp) q_440 q_543 q_441 q_442 q_431 h_X5_lookAs rfl rfl ⟨Nat.le_of_ble_eq_true rfl, Nat.le_of_ble_eq_true rfl⟩ rfl rfl hl.1 rfl (lv_room (Nat.le_of_ble_eq_true rfl)) eX9_helps_32.2.2.2.2.2.2.2.2.2.1 ⟨Nat.zero_le _, Nat.zero_le _⟩) (fun u H locs hp hP hD hS => ?_)
  obtain ⟨aAr, aDp⟩ := u
  have hPD := PDm (ws' := (wd_X9_helps cI cC cZ cB cJ a_x xG xD wY wJ wQ xI xK xJ tW uE qU uJ uL uI xH tX jE mX pD oO oQ eG qT aAr rJ pN rP aDp bZ bD bI aI wD gF qA nJ nY dQ jC eO eW dO fJ fY jD nG qF jJ)) hP hD 14 rfl rfl rfl
  have hP := hPD.1
  have hD := hPD.2
  refine lv_aload_n hx hb eX9_helps_32.2.2.2.2.2.2.2.2.2.2.1 rfl (lv_at hl 2 rfl) ?_
  refine va_get (D := (dC, dI)) (ci := 9) (v := .ref xD) (C := RX9) (T := TX9) (N := 9) hx hb hts i_X9 hown hK hP 0 rfl rfl 1 (Nat.le_of_ble_eq_true rfl) (hts _ q_444) (fun _ h9 => h9) rfl eX9_helps_32.2.2.2.2.2.2.2.2.2.2.2.1 ?_
  refine lv_aload_n hx hb eX9_helps_32.2.2.2.2.2.2.2.2.2.2.2.2.1 rfl (lv_at hl 2 rfl) ?_
  refine va_get (D := (dC, dI)) (ci := 9) (v := .ref xD) (C := RX9) (T := TX9) (N := 9) hx hb hts i_X9 hown hK hP 0 rfl rfl 1 (Nat.le_of_ble_eq_true rfl) (hts _ q_444) (fun _ h9 => h9) rfl eX9_helps_32.2.2.2.2.2.2.2.2.2.2.2.2.2.1 ?_
  refine va_get (D := (dC, dI)) (ci := 5) (v := .int aAr) (C := RX5) (T := TX5) (N := 11) hx hb hts i_X5 hown hK hP 1 rfl rfl 7 (Nat.le_of_ble_eq_true rfl) (hts _ q_462) (fun _ h9 => h9) rfl eX9_helps_32.2.2.2.2.2.2.2.2.2.2.2.2.2.2.1 ?_
  refine lv_aload_n hx hb eX9_helps_32.2.2.2.2.2.2.2.2.2.2.2.2.2.2.2 rfl (lv_at hl 2 rfl) ?_
  refine va_get (D := (dC, dI)) (ci := 9) (v := .ref wJ) (C := RX9) (T := TX9) (N := 9) hx hb hts i_X9 hown hK hP 0 rfl rfl 3 (Nat.le_of_ble_eq_true rfl) (hts _ q_74) (fun _ h9 => h9) rfl eX9_helps_66.1 ?_
  have hm := mgk (wc := (wd_X3_allStandings cI cC cZ cB cJ wJ tX jE mX pD oO oQ eG bZ bD bI aI)) hP aAB 14 rfl rfl rfl
  refine g_calli hP hD hS hA (mixT aAB) (mixF aAB) hm.1 hm.2 (nd_F _) (dis_g _) (g_runV (As := []) (rest := [.int aAr, .ref xD]) C0 hP hD hS (mixT aAB) hm.1 (nd_T _) 4 3 rfl rfl (c_X3_allStandings l dC dI cI cC cZ cB cJ wJ tX jE mX pD oO oQ eG H.size bZ bD bI aI _ hp) q_426 q_463 q_427 q_428 q_48 h_X3_allStandings rfl rfl ⟨Nat.le_of_ble_eq_true rfl, Nat.le_of_ble_eq_true rfl⟩ rfl rfl hl.1 rfl (lv_room (Nat.le_of_ble_eq_true rfl)) eX9_helps_66.2.1 ⟨Nat.zero_le _, Nat.zero_le _⟩) (fun r_7 u H locs hp hP hD hS => ?_)
  have hPD := PDm (ws' := (wd_X9_helps cI cC cZ cB cJ a_x xG xD wY wJ wQ xI xK xJ tW uE qU uJ uL uI xH tX jE mX pD oO oQ eG qT aAr rJ pN rP aDp bZ bD bI aI wD gF qA nJ nY dQ jC eO eW dO fJ fY jD nG qF jJ)) hP hD 14 rfl rfl rfl
  have hP := hPD.1
  have hD := hPD.2
  have hm := mgk (wc := (wd_X5_smallestCover cI cC cZ cB cJ xD wY wJ uE qU uJ uL uI tX jE mX pD oO oQ eG aAr rJ pN rP aDp bZ bD bI aI)) hP aBq 14 rfl rfl rfl
  refine g_calli hP hD hS hA (mixT aBq) (mixF aBq) hm.1 hm.2 (nd_F _) (dis_g _) (g_runV (As := [.int aAr, .int r_7]) (rest := []) C0 hP hD hS (mixT aBq) hm.1 (nd_T _) 1 5 rfl rfl (c_X5_smallestCover l dC dI cI cC cZ cB cJ xD wY wJ uE qU uJ uL uI tX jE mX pD oO oQ eG H.size aAr r_7 aAr rJ pN rP aDp bZ bD bI aI _ hp) q_464 q_467 q_465 q_466 q_431 h_X5_smallestCover rfl rfl ⟨Nat.le_of_ble_eq_true rfl, Nat.le_of_ble_eq_true rfl⟩ rfl rfl hl.1 rfl (lv_room (Nat.le_of_ble_eq_true rfl)) eX9_helps_66.2.2.1 ⟨Nat.zero_le _, Nat.zero_le _⟩) (fun r_8 u H locs hp hP hD hS => ?_)
  have hPD := PDm (ws' := (wd_X9_helps cI cC cZ cB cJ a_x xG xD wY wJ wQ xI xK xJ tW uE qU uJ uL uI xH tX jE mX pD oO oQ eG qT aAr rJ pN rP aDp bZ bD bI aI wD gF qA nJ nY dQ jC eO eW dO fJ fY jD nG qF jJ)) hP hD 14 rfl rfl rfl
  have hP := hPD.1
  have hD := hPD.2
  refine lv_istore_n (lv' := [(3, .int r_8), (2, .int r_4), (1, .int xM), (0, .ref a_x)]) hx hb eX9_helps_66.2.2.2.1 rfl hl (by decide) rfl (fun ls hl => ?_)
  refine lv_aload_n hx hb eX9_helps_66.2.2.2.2.1 rfl (lv_at hl 3 rfl) ?_
  refine lv_iload_n hx hb eX9_helps_66.2.2.2.2.2.1 rfl (lv_at hl 2 rfl) ?_
  have hm := mgk (wc := (wd_J6_bitCount_0f7a4 cI cC cZ cB cJ)) hP aAy 14 rfl rfl rfl
  refine g_calli hP hD hS hA (mixT aAy) (mixF aAy) hm.1 hm.2 (nd_F _) (dis_g _) (g_runS (As := [.int xM]) (rest := [.ref a_x]) C0 hP hD hS (mixT aAy) hm.1 (nd_T _) (c_J6_bitCount_0f7a4 l dC dI cI cC cZ cB cJ H.size xM _ hp) q_320 q_474 q_322 q_321 h_J6_bitCount_0f7a4 rfl rfl ⟨Nat.le_of_ble_eq_true rfl, Nat.le_of_ble_eq_true rfl⟩ rfl rfl hl.1 rfl (lv_room (Nat.le_of_ble_eq_true rfl)) eX9_helps_66.2.2.2.2.2.2.1 ⟨Nat.zero_le _, Nat.zero_le _⟩) (fun r_9 u H locs hp hP hD hS => ?_)
  have hPD := PDm (ws' := (wd_X9_helps cI cC cZ cB cJ a_x xG xD wY wJ wQ xI xK xJ tW uE qU uJ uL uI xH tX jE mX pD oO oQ eG qT aAr rJ pN rP aDp bZ bD bI aI wD gF qA nJ nY dQ jC eO eW dO fJ fY jD nG qF jJ)) hP hD 14 rfl rfl rfl
  have hP := hPD.1
  have hD := hPD.2
  refine lv_aload_n hx hb eX9_helps_66.2.2.2.2.2.2.2.1 rfl (lv_at hl 3 rfl) ?_
  refine va_get (D := (dC, dI)) (ci := 9) (v := .ref xD) (C := RX9) (T := TX9) (N := 9) hx hb hts i_X9 hown hK hP 0 rfl rfl 1 (Nat.le_of_ble_eq_true rfl) (hts _ q_444) (fun _ h9 => h9) rfl eX9_helps_66.2.2.2.2.2.2.2.2.1 ?_
  refine va_get (D := (dC, dI)) (ci := 5) (v := .int aAr) (C := RX5) (T := TX5) (N := 11) hx hb hts i_X5 hown hK hP 1 rfl rfl 7 (Nat.le_of_ble_eq_true rfl) (hts _ q_462) (fun _ h9 => h9) rfl eX9_helps_66.2.2.2.2.2.2.2.2.2.1 ?_
  have hm := mgk (wc := (wd_J6_bitCount_0f7a4 cI cC cZ cB cJ)) hP aAy 14 rfl rfl rfl
  refine g_calli hP hD hS hA (mixT aAy) (mixF aAy) hm.1 hm.2 (nd_F _) (dis_g _) (g_runS (As := [.int aAr]) (rest := [.int r_9, .ref a_x]) C0 hP hD hS (mixT aAy) hm.1 (nd_T _) (c_J6_bitCount_0f7a4 l dC dI cI cC cZ cB cJ H.size aAr _ hp) q_320 q_474 q_322 q_321 h_J6_bitCount_0f7a4 rfl rfl ⟨Nat.le_of_ble_eq_true rfl, Nat.le_of_ble_eq_true rfl⟩ rfl rfl hl.1 rfl (lv_room (Nat.le_of_ble_eq_true rfl)) eX9_helps_66.2.2.2.2.2.2.2.2.2.2.1 ⟨Nat.zero_le _, Nat.zero_le _⟩) (fun r_10 u H locs hp hP hD hS => ?_)
  have hPD := PDm (ws' := (wd_X9_helps cI cC cZ cB cJ a_x xG xD wY wJ wQ xI xK xJ tW uE qU uJ uL uI xH tX jE mX pD oO oQ eG qT aAr rJ pN rP aDp bZ bD bI aI wD gF qA nJ nY dQ jC eO eW dO fJ fY jD nG qF jJ)) hP hD 14 rfl rfl rfl
  have hP := hPD.1
  have hD := hPD.2
  have hm := mgk (wc := (wd_X9_tell_ cI cC cZ cB cJ a_x xG xD wY wJ wQ xI xK xJ tW qT qF jJ)) hP aBp 14 rfl rfl rfl
  refine g_callv hP hD hS hA (mixT aBp) (mixF aBp) hm.1 hm.2 (nd_F _) (dis_g _) (g_runV (As := [.int r_9, .int r_10]) (rest := []) C0 hP hD hS (mixT aBp) hm.1 (nd_T _) 0 9 rfl rfl (c_X9_tell_ l dC dI cI cC cZ cB cJ a_x xG xD wY wJ wQ xI xK xJ tW qT H.size r_9 r_10 qF jJ _ hp) q_377 q_380 q_378 q_379 q_256 h_X9_tell_ rfl rfl ⟨Nat.le_of_ble_eq_true rfl, Nat.le_of_ble_eq_true rfl⟩ rfl rfl hl.1 rfl (lv_room (Nat.le_of_ble_eq_true rfl)) eX9_helps_66.2.2.2.2.2.2.2.2.2.2.2.1 ⟨Nat.zero_le _, Nat.zero_le _⟩) (fun u H locs hp hP hD hS => ?_)
  obtain ⟨aEy, aBy⟩ := u
  have hPD := PDm (ws' := (wd_X9_helps cI cC cZ cB cJ a_x xG xD wY wJ wQ xI xK xJ tW uE qU uJ uL uI xH tX jE mX pD oO oQ eG qT aAr rJ pN rP aDp bZ bD bI aI wD gF qA nJ nY dQ jC eO eW dO fJ fY jD nG aEy aBy)) hP hD 14 rfl rfl rfl
  have hP := hPD.1
  have hD := hPD.2
  refine lv_iload_n hx hb eX9_helps_66.2.2.2.2.2.2.2.2.2.2.2.2.1 rfl (lv_at hl 1 rfl) ?_
  have hm := mgk (wc := (wd_J6_bitCount_0f7a4 cI cC cZ cB cJ)) hP aAy 14 rfl rfl rfl
  refine g_calli hP hD hS hA (mixT aAy) (mixF aAy) hm.1 hm.2 (nd_F _) (dis_g _) (g_runS (As := [.int r_4]) (rest := []) C0 hP hD hS (mixT aAy) hm.1 (nd_T _) (c_J6_bitCount_0f7a4 l dC dI cI cC cZ cB cJ H.size r_4 _ hp) q_320 q_474 q_322 q_321 h_J6_bitCount_0f7a4 rfl rfl ⟨Nat.le_of_ble_eq_true rfl, Nat.le_of_ble_eq_true rfl⟩ rfl rfl hl.1 rfl (lv_room (Nat.le_of_ble_eq_true rfl)) eX9_helps_66.2.2.2.2.2.2.2.2.2.2.2.2.2.1 ⟨Nat.zero_le _, Nat.zero_le _⟩) (fun r_13 u H locs hp hP hD hS => ?_)
  have hPD := PDm (ws' := (wd_X9_helps cI cC cZ cB cJ a_x xG xD wY wJ wQ xI xK xJ tW uE qU uJ uL uI xH tX jE mX pD oO oQ eG qT aAr rJ pN rP aDp bZ bD bI aI wD gF qA nJ nY dQ jC eO eW dO fJ fY jD nG aEy aBy)) hP hD 14 rfl rfl rfl
  have hP := hPD.1
  have hD := hPD.2
  refine lv_iload_n hx hb eX9_helps_66.2.2.2.2.2.2.2.2.2.2.2.2.2.2.1 rfl (lv_at hl 0 rfl) ?_
  have hm := mgk (wc := (wd_J6_bitCount_0f7a4 cI cC cZ cB cJ)) hP aAy 14 rfl rfl rfl
  refine g_calli hP hD hS hA (mixT aAy) (mixF aAy) hm.1 hm.2 (nd_F _) (dis_g _) (g_runS (As := [.int r_8]) (rest := [.int r_13]) C0 hP hD hS (mixT aAy) hm.1 (nd_T _) (c_J6_bitCount_0f7a4 l dC dI cI cC cZ cB cJ H.size r_8 _ hp) q_320 q_474 q_322 q_321 h_J6_bitCount_0f7a4 rfl rfl ⟨Nat.le_of_ble_eq_true rfl, Nat.le_of_ble_eq_true rfl⟩ rfl rfl hl.1 rfl (lv_room (Nat.le_of_ble_eq_true rfl)) eX9_helps_66.2.2.2.2.2.2.2.2.2.2.2.2.2.2.2 ⟨Nat.zero_le _, Nat.zero_le _⟩) (fun r_14 u H locs hp hP hD hS => ?_)
  have hPD := PDm (ws' := (wd_X9_helps cI cC cZ cB cJ a_x xG xD wY wJ wQ xI xK xJ tW uE qU uJ uL uI xH tX jE mX pD oO oQ eG qT aAr rJ pN rP aDp bZ bD bI aI wD gF qA nJ nY dQ jC eO eW dO fJ fY jD nG aEy aBy)) hP hD 14 rfl rfl rfl
  have hP := hPD.1
  have hD := hPD.2
  refine lv_isub hx hb eX9_helps_102.1 ?_
  exact W.iret (v := r_13 - r_14) hx hb hr (fun t ht hW => ⟨⟨r_13 - r_14, (aAr, aDp, aEy, aBy), rfl, hp, by rw [ht]; exact hP, va_K.moved hW.alike hK, hD⟩, hS.F ht⟩) hS.2.2 eX9_helps_102.2
noncomputable abbrev wd_X9_hooked (cI cC cZ cB cJ : ClassId) (a_x xG xD wY wJ wQ xI xK xJ tW uE qU uJ uL uI xH tX jE mX pD oO oQ eG qT : Nat) (oX rJ pN rP : Int32) (rX : Nat → Int32) (bZ bD bI aI : Int32) (wD gF qA nJ nY dQ : Nat → Int32) (jC eO eW dO fJ fY jD nG qF : Int32) (jJ : Nat → Int32) : va_W := [(a_x, .inr (9, [.ref xG, .ref xD, .ref wY, .ref wJ, .ref wQ, .ref xI, .ref xK, .ref xJ, .ref tW])), (xD, .inr (5, [.ref wY, .ref wJ, .ref uE, .ref qU, .ref uJ, .ref uL, .ref uI, .int oX, .int rJ, .int pN, .int rP])), (uE, .inl (cI, 8, .inl rX)), (wY, .inr (0, [.ref wJ, .ref wQ, .ref xH])), (wJ, .inr (3, [.ref tX, .ref jE, .ref mX, .ref pD, .ref oO, .ref oQ, .ref eG, .int bZ, .int bD, .int bI, .int aI])), (tX, .inl (cI, 16, .inl wD)), (jE, .inl (cI, 16, .inl gF)), (pD, .inl (cI, 16, .inl qA)), (oO, .inl (cI, 8, .inl nJ)), (oQ, .inl (cI, 8, .inl nY)), (eG, .inl (cI, 5, .inl dQ)), (wQ, .inr (2, [.int jC, .int eO, .int eW, .int dO, .int fJ, .int fY, .int jD, .int nG])), (xK, .inr (6, [.ref qT, .int qF])), (qT, .inl (cI, 16, .inl jJ))]
noncomputable abbrev q_X9_hooked (dC : Nat → ClassId) (dI : Nat → Nat → Nat) (cI cC cZ cB cJ : ClassId) (A : Nat → Prop) (a_x xG xD wY wJ wQ xI xK xJ tW uE qU uJ uL uI xH tX jE mX pD oO oQ eG qT : Nat) (rJ pN rP bZ bD bI aI : Int32) (wD gF qA nJ nY dQ : Nat → Int32) (jC eO eW dO fJ fY jD nG : Int32) (post : Int32 → Int32 → (Nat → Int32) → Int32 → (Nat → Int32) → Prop) : Array Value → State → Outcome → State → Prop := va_Qi (fun (r : Int32) (u : Int32 × (Nat → Int32) × Int32 × (Nat → Int32)) => post r u.1 u.2.1 u.2.2.1 u.2.2.2) (fun u t => gB (dC, dI) (tyl cI cC cZ cB cJ) A (wd_X9_hooked cI cC cZ cB cJ a_x xG xD wY wJ wQ xI xK xJ tW uE qU uJ uL uI xH tX jE mX pD oO oQ eG qT u.1 rJ pN rP u.2.1 bZ bD bI aI wD gF qA nJ nY dQ jC eO eW dO fJ fY jD nG u.2.2.1 u.2.2.2) t) A
noncomputable abbrev rm_X9_hooked : Room := { frames := 5, cells := 0, slots := 0, locals := 115 }
section S_X9_hooked
variable {p : Program} {l : Launch} {e : Env} {s : State} {m : MethodId} {args : Array Value} {below : List Frame} {meth : Method} {c : Code} {dC : Nat → ClassId} {dI : Nat → Nat → Nat} {cI cC cZ cB cJ : ClassId} {A : Nat → Prop} {a_x xG xD wY wJ wQ xI xK xJ tW uE qU uJ uL uI xH tX jE mX pD oO oQ eG qT : Nat} {rJ pN rP bZ bD bI aI : Int32} {wD gF qA nJ nY dQ : Nat → Int32} {jC eO eW dO fJ fY jD nG : Int32} {post : Int32 → Int32 → (Nat → Int32) → Int32 → (Nat → Int32) → Prop}
noncomputable def ws_X9_hooked_115 (post : Int32 → Int32 → (Nat → Int32) → Int32 → (Nat → Int32) → Prop) (K50 : Int32 → Int32 → Int32 → Int32 → Int32 → Int32 → (Nat → Int32) → Int32 → (Nat → Int32) → Prop) (bZ bD : Int32) (wD gF qA nJ nY dQ : Nat → Int32) (jC eO eW fY jD x1 x2 x3 x4 x5 oX : Int32) (rX : Nat → Int32) (qF : Int32) (jJ : Nat → Int32) : Prop := ∀ v_14 : Int32, v_14 = x5 + 1 → K50 x1 x2 x3 x4 v_14 oX rX qF jJ
set_option maxHeartbeats 4000000 in
set_option maxRecDepth 100000 in
theorem ks_X9_hooked_115 (C0 : gc cX9_hooked (some .int) 7 RX9 (dC, dI) (tyl cI cC cZ cB cJ) A p s m args meth c) {K50 : Int32 → Int32 → Int32 → Int32 → Int32 → Int32 → (Nat → Int32) → Int32 → (Nat → Int32) → Prop} (hK50 : ∀ (x1 : Int32) (x2 : Int32) (x3 : Int32) (x4 : Int32) (x5 : Int32) (oX : Int32) (rX : Nat → Int32) (qF : Int32) (jJ : Nat → Int32) (H : Heap) (locs : List Loc) (ls : Array Slot), K50 x1 x2 x3 x4 x5 oX rX qF jJ → va_P (dC, dI) classes (wd_X9_hooked cI cC cZ cB cJ a_x xG xD wY wJ wQ xI xK xJ tW uE qU uJ uL uI xH tX jE mX pD oO oQ eG qT oX rJ pN rP rX bZ bD bI aI wD gF qA nJ nY dQ jC eO eW dO fJ fY jD nG qF jJ) H → va_D A (wd_X9_hooked cI cC cZ cB cJ a_x xG xD wY wJ wQ xI xK xJ tW uE qU uJ uL uI xH tX jE mX pD oO oQ eG qT oX rJ pN rP rX bZ bD bI aI wD gF qA nJ nY dQ jC eO eW dO fJ fY jD nG qF jJ) → va_S A s.heap H locs → lv_has ls 7 [(0, .ref a_x), (1, .int x1), (2, .int x2), (3, .int x3), (4, .int x4), (5, .int x5)] → W p l e rm_X9_hooked s m args below meth c H locs 0 0 (MQ below (q_X9_hooked dC dI cI cC cZ cB cJ A a_x xG xD wY wJ wQ xI xK xJ tW uE qU uJ uL uI xH tX jE mX pD oO oQ eG qT rJ pN rP bZ bD bI aI wD gF qA nJ nY dQ jC eO eW dO fJ fY jD nG post) args s 0 0 A) (F0 m 50 ls [])) : ∀ (x1 x2 x3 x4 x5 oX : Int32) (rX : Nat → Int32) (qF : Int32) (jJ : Nat → Int32) (H : Heap) (locs : List Loc) (ls : Array Slot), (ws_X9_hooked_115 post K50 bZ bD wD gF qA nJ nY dQ jC eO eW fY jD) x1 x2 x3 x4 x5 oX rX qF jJ → va_P (dC, dI) classes (wd_X9_hooked cI cC cZ cB cJ a_x xG xD wY wJ wQ xI xK xJ tW uE qU uJ uL uI xH tX jE mX pD oO oQ eG qT oX rJ pN rP rX bZ bD bI aI wD gF qA nJ nY dQ jC eO eW dO fJ fY jD nG qF jJ) H → va_D A (wd_X9_hooked cI cC cZ cB cJ a_x xG xD wY wJ wQ xI xK xJ tW uE qU uJ uL uI xH tX jE mX pD oO oQ eG qT oX rJ pN rP rX bZ bD bI aI wD gF qA nJ nY dQ jC eO eW dO fJ fY jD nG qF jJ) → va_S A s.heap H locs → lv_has ls 7 [(0, .ref a_x), (1, .int x1), (2, .int x2), (3, .int x3), (4, .int x4), (5, .int x5)] → W p l e rm_X9_hooked s m args below meth c H locs 0 0 (MQ below (q_X9_hooked dC dI cI cC cZ cB cJ A a_x xG xD wY wJ wQ xI xK xJ tW uE qU uJ uL uI xH tX jE mX pD oO oQ eG qT rJ pN rP bZ bD bI aI wD gF qA nJ nY dQ jC eO eW dO fJ fY jD nG post) args s 0 0 A) (F0 m 115 ls []) := by
  obtain ⟨hx, hb, hr, hml, hown, hts, hlocks, hA, hK, hN, tL, tM, hZL, hTL, hZM, hTM, hZX⟩ := id C0
  intro x1 x2 x3 x4 x5 oX rX qF jJ H locs ls hp hP hD hS hl
  unfold ws_X9_hooked_115 at hp
  obtain ⟨v_14, ev_14⟩ : ∃ y : Int32, y = x5 + 1 := ⟨_, rfl⟩
  refine lv_iinc (v := v_14) (lv' := [(5, .int v_14), (0, .ref a_x), (1, .int x1), (2, .int x2), (3, .int x3), (4, .int x4)]) hx hb eX9_hooked_91.2.2.2.2.2.2.2.2.2.2.2.2.1 hl (k := 5) rfl (by rw [ev_14]; rfl) (by decide) rfl (fun ls hl => ?_)
  have hp := hp v_14 ev_14
  refine lv_goto (tgt := 50) hx hb eX9_hooked_91.2.2.2.2.2.2.2.2.2.2.2.2.2.1 (by decide) ?_
  exact hK50 x1 x2 x3 x4 v_14 oX rX qF jJ H locs ls hp hP hD hS (lv_sub hl [1, 2, 3, 4, 5, 0] rfl)
noncomputable def ws_X9_hooked_50 (post : Int32 → Int32 → (Nat → Int32) → Int32 → (Nat → Int32) → Prop) (next : Int32 → Int32 → Int32 → Int32 → Int32 → Int32 → (Nat → Int32) → Int32 → (Nat → Int32) → Prop) (bZ bD : Int32) (wD gF qA nJ nY dQ : Nat → Int32) (jC eO eW fY jD x1 x2 x3 x4 x5 oX : Int32) (rX : Nat → Int32) (qF : Int32) (jJ : Nat → Int32) : Prop := (bD ≤ x5 → wp_X9_tell_ (fun aBn aAp => post x2 oX rX aBn aAp) x3 x4 qF jJ) ∧ (¬ bD ≤ x5 → wp_X3_reach (fun r_9 => wp_X3_within (fun r_10 => ∀ v_11 : Int32, v_11 = x1 &&& r_10 → ∀ v_12 : Int32, v_12 = x2 ||| v_11 → wp_J6_bitCount_0f7a4 (fun r_13 => (r_13 ≤ x4 → ws_X9_hooked_115 post next bZ bD wD gF qA nJ nY dQ jC eO eW fY jD x1 v_12 x3 x4 x5 oX rX qF jJ) ∧ (¬ r_13 ≤ x4 → wp_J6_bitCount_0f7a4 (fun r_15 => ws_X9_hooked_115 post next bZ bD wD gF qA nJ nY dQ jC eO eW fY jD x1 v_12 x5 r_15 x5 oX rX qF jJ) v_11)) v_11) x5 r_9 bZ wD gF nJ nY) fY 1 dQ)
noncomputable def wb_X9_hooked_50 (post : Int32 → Int32 → (Nat → Int32) → Int32 → (Nat → Int32) → Prop) (bZ bD : Int32) (wD gF qA nJ nY dQ : Nat → Int32) (jC eO eW fY jD : Int32) : Nat → Int32 → Int32 → Int32 → Int32 → Int32 → Int32 → (Nat → Int32) → Int32 → (Nat → Int32) → Prop := fun n => Nat.rec (motive := fun _ => Int32 → Int32 → Int32 → Int32 → Int32 → Int32 → (Nat → Int32) → Int32 → (Nat → Int32) → Prop) (fun _ _ _ _ _ _ _ _ _ => False) (fun _ ih => ws_X9_hooked_50 post ih bZ bD wD gF qA nJ nY dQ jC eO eW fY jD) n
set_option maxHeartbeats 4000000 in
set_option maxRecDepth 100000 in
theorem ks_X9_hooked_50 (C0 : gc cX9_hooked (some .int) 7 RX9 (dC, dI) (tyl cI cC cZ cB cJ) A p s m args meth c) {next : Int32 → Int32 → Int32 → Int32 → Int32 → Int32 → (Nat → Int32) → Int32 → (Nat → Int32) → Prop} (hKn : ∀ (x1 : Int32) (x2 : Int32) (x3 : Int32) (x4 : Int32) (x5 : Int32) (oX : Int32) (rX : Nat → Int32) (qF : Int32) (jJ : Nat → Int32) (H : Heap) (locs : List Loc) (ls : Array Slot), next x1 x2 x3 x4 x5 oX rX qF jJ → va_P (dC, dI) classes (wd_X9_hooked cI cC cZ cB cJ a_x xG xD wY wJ wQ xI xK xJ tW uE qU uJ uL uI xH tX jE mX pD oO oQ eG qT oX rJ pN rP rX bZ bD bI aI wD gF qA nJ nY dQ jC eO eW dO fJ fY jD nG qF jJ) H → va_D A (wd_X9_hooked cI cC cZ cB cJ a_x xG xD wY wJ wQ xI xK xJ tW uE qU uJ uL uI xH tX jE mX pD oO oQ eG qT oX rJ pN rP rX bZ bD bI aI wD gF qA nJ nY dQ jC eO eW dO fJ fY jD nG qF jJ) → va_S A s.heap H locs → lv_has ls 7 [(0, .ref a_x), (1, .int x1), (2, .int x2), (3, .int x3), (4, .int x4), (5, .int x5)] → W p l e rm_X9_hooked s m args below meth c H locs 0 0 (MQ below (q_X9_hooked dC dI cI cC cZ cB cJ A a_x xG xD wY wJ wQ xI xK xJ tW uE qU uJ uL uI xH tX jE mX pD oO oQ eG qT rJ pN rP bZ bD bI aI wD gF qA nJ nY dQ jC eO eW dO fJ fY jD nG post) args s 0 0 A) (F0 m 50 ls [])) : ∀ (x1 x2 x3 x4 x5 oX : Int32) (rX : Nat → Int32) (qF : Int32) (jJ : Nat → Int32) (H : Heap) (locs : List Loc) (ls : Array Slot), (ws_X9_hooked_50 post next bZ bD wD gF qA nJ nY dQ jC eO eW fY jD) x1 x2 x3 x4 x5 oX rX qF jJ → va_P (dC, dI) classes (wd_X9_hooked cI cC cZ cB cJ a_x xG xD wY wJ wQ xI xK xJ tW uE qU uJ uL uI xH tX jE mX pD oO oQ eG qT oX rJ pN rP rX bZ bD bI aI wD gF qA nJ nY dQ jC eO eW dO fJ fY jD nG qF jJ) H → va_D A (wd_X9_hooked cI cC cZ cB cJ a_x xG xD wY wJ wQ xI xK xJ tW uE qU uJ uL uI xH tX jE mX pD oO oQ eG qT oX rJ pN rP rX bZ bD bI aI wD gF qA nJ nY dQ jC eO eW dO fJ fY jD nG qF jJ) → va_S A s.heap H locs → lv_has ls 7 [(0, .ref a_x), (1, .int x1), (2, .int x2), (3, .int x3), (4, .int x4), (5, .int x5)] → W p l e rm_X9_hooked s m args below meth c H locs 0 0 (MQ below (q_X9_hooked dC dI cI cC cZ cB cJ A a_x xG xD wY wJ wQ xI xK xJ tW uE qU uJ uL uI xH tX jE mX pD oO oQ eG qT rJ pN rP bZ bD bI aI wD gF qA nJ nY dQ jC eO eW dO fJ fY jD nG post) args s 0 0 A) (F0 m 50 ls []) := by
  obtain ⟨hx, hb, hr, hml, hown, hts, hlocks, hA, hK, hN, tL, tM, hZL, hTL, hZM, hTM, hZX⟩ := id C0
  intro x1 x2 x3 x4 x5 oX rX qF jJ H locs ls hp hP hD hS hl
  unfold ws_X9_hooked_50 at hp
  refine lv_iload hx hb eX9_hooked_36.2.2.2.2.2.2.2.2.2.2.2.2.1 (lv_at hl 5 rfl) ?_
  refine lv_aload_n hx hb eX9_hooked_36.2.2.2.2.2.2.2.2.2.2.2.2.2.1 rfl (lv_at hl 0 rfl) ?_
  refine va_get (D := (dC, dI)) (ci := 9) (v := .ref wJ) (C := RX9) (T := TX9) (N := 9) hx hb hts i_X9 hown hK hP 0 rfl rfl 3 (Nat.le_of_ble_eq_true rfl) (hts _ q_74) (fun _ h9 => h9) rfl eX9_hooked_36.2.2.2.2.2.2.2.2.2.2.2.2.2.2.1 ?_
  refine va_get (D := (dC, dI)) (ci := 3) (v := .int bD) (C := RX3) (T := TX3) (N := 11) hx hb hts i_X3 hown hK hP 4 rfl rfl 8 (Nat.le_of_ble_eq_true rfl) (hts _ q_415) (fun _ h9 => h9) rfl eX9_hooked_36.2.2.2.2.2.2.2.2.2.2.2.2.2.2.2 ?_
  refine lv_icmp_ge (tgt := 121) hx hb eX9_hooked_59.1 (by decide) (fun hc => ?_) (fun hc => ?_)
  · have hp := hp.1 hc
    refine lv_aload_n hx hb eX9_hooked_91.2.2.2.2.2.2.2.2.2.2.2.2.2.2.1 rfl (lv_at hl 0 rfl) ?_
    refine lv_iload_n hx hb eX9_hooked_91.2.2.2.2.2.2.2.2.2.2.2.2.2.2.2 rfl (lv_at hl 3 rfl) ?_
    refine lv_iload hx hb eX9_hooked_123.1 (lv_at hl 4 rfl) ?_
    have hm := mgk (wc := (wd_X9_tell_ cI cC cZ cB cJ a_x xG xD wY wJ wQ xI xK xJ tW qT qF jJ)) hP aBp 14 rfl rfl rfl
    refine g_callv hP hD hS hA (mixT aBp) (mixF aBp) hm.1 hm.2 (nd_F _) (dis_g _) (g_runV (As := [.int x3, .int x4]) (rest := []) C0 hP hD hS (mixT aBp) hm.1 (nd_T _) 0 9 rfl rfl (c_X9_tell_ l dC dI cI cC cZ cB cJ a_x xG xD wY wJ wQ xI xK xJ tW qT H.size x3 x4 qF jJ _ hp) q_377 q_380 q_378 q_379 q_256 h_X9_tell_ rfl rfl ⟨Nat.le_of_ble_eq_true rfl, Nat.le_of_ble_eq_true rfl⟩ rfl rfl hl.1 rfl (lv_room (Nat.le_of_ble_eq_true rfl)) eX9_hooked_123.2.1 ⟨Nat.zero_le _, Nat.zero_le _⟩) (fun u H locs hp hP hD hS => ?_)
    obtain ⟨aBn, aAp⟩ := u
    have hPD := PDm (ws' := (wd_X9_hooked cI cC cZ cB cJ a_x xG xD wY wJ wQ xI xK xJ tW uE qU uJ uL uI xH tX jE mX pD oO oQ eG qT oX rJ pN rP rX bZ bD bI aI wD gF qA nJ nY dQ jC eO eW dO fJ fY jD nG aBn aAp)) hP hD 14 rfl rfl rfl
    have hP := hPD.1
    have hD := hPD.2
    refine lv_iload_n hx hb eX9_hooked_123.2.2.1 rfl (lv_at hl 2 rfl) ?_
    exact W.iret (v := x2) hx hb hr (fun t ht hW => ⟨⟨x2, (oX, rX, aBn, aAp), rfl, hp, by rw [ht]; exact hP, va_K.moved hW.alike hK, hD⟩, hS.F ht⟩) hS.2.2 eX9_hooked_123.2.2.2
  · have hp := hp.2 hc
    refine lv_iload_n hx hb eX9_hooked_59.2.1 rfl (lv_at hl 1 rfl) ?_
    refine lv_aload_n hx hb eX9_hooked_59.2.2.1 rfl (lv_at hl 0 rfl) ?_
    refine va_get (D := (dC, dI)) (ci := 9) (v := .ref wJ) (C := RX9) (T := TX9) (N := 9) hx hb hts i_X9 hown hK hP 0 rfl rfl 3 (Nat.le_of_ble_eq_true rfl) (hts _ q_74) (fun _ h9 => h9) rfl eX9_hooked_59.2.2.2.1 ?_
    refine lv_iload hx hb eX9_hooked_59.2.2.2.2.1 (lv_at hl 5 rfl) ?_
    refine lv_aload_n hx hb eX9_hooked_59.2.2.2.2.2.1 rfl (lv_at hl 0 rfl) ?_
    refine va_get (D := (dC, dI)) (ci := 9) (v := .ref wJ) (C := RX9) (T := TX9) (N := 9) hx hb hts i_X9 hown hK hP 0 rfl rfl 3 (Nat.le_of_ble_eq_true rfl) (hts _ q_74) (fun _ h9 => h9) rfl eX9_hooked_59.2.2.2.2.2.2.1 ?_
    refine lv_aload_n hx hb eX9_hooked_59.2.2.2.2.2.2.2.1 rfl (lv_at hl 0 rfl) ?_
    refine va_get (D := (dC, dI)) (ci := 9) (v := .ref wQ) (C := RX9) (T := TX9) (N := 9) hx hb hts i_X9 hown hK hP 0 rfl rfl 4 (Nat.le_of_ble_eq_true rfl) (hts _ q_179) (fun _ h9 => h9) rfl eX9_hooked_59.2.2.2.2.2.2.2.2.1 ?_
    refine va_get (D := (dC, dI)) (ci := 2) (v := .int fY) (C := RX2) (T := TX2) (N := 8) hx hb hts i_X2 hown hK hP 11 rfl rfl 5 (Nat.le_of_ble_eq_true rfl) (hts _ q_414) (fun _ h9 => h9) rfl eX9_hooked_59.2.2.2.2.2.2.2.2.2.1 ?_
    refine lv_iconst (v := 1) hx hb eX9_hooked_59.2.2.2.2.2.2.2.2.2.2.1 ic_1 ?_
    have hm := mgk (wc := (wd_X3_reach cI cC cZ cB cJ wJ tX jE mX pD oO oQ eG bZ bD bI aI dQ)) hP mk_158 14 rfl rfl rfl
    refine g_calli hP hD hS hA (mixT mk_158) (mixF mk_158) hm.1 hm.2 (nd_F _) (dis_g _) (g_runV (As := [.int fY, .int 1]) (rest := [.int x5, .ref wJ, .int x1]) C0 hP hD hS (mixT mk_158) hm.1 (nd_T _) 4 3 rfl rfl (c_X3_reach l dC dI cI cC cZ cB cJ wJ tX jE mX pD oO oQ eG H.size fY 1 bZ bD bI aI dQ _ hp) q_312 q_411 q_313 q_314 q_48 h_X3_reach rfl rfl ⟨Nat.le_of_ble_eq_true rfl, Nat.le_of_ble_eq_true rfl⟩ rfl rfl hl.1 rfl (lv_room (Nat.le_of_ble_eq_true rfl)) eX9_hooked_59.2.2.2.2.2.2.2.2.2.2.2.1 ⟨Nat.zero_le _, Nat.zero_le _⟩) (fun r_9 u H locs hp hP hD hS => ?_)
    have hPD := PDm (ws' := (wd_X9_hooked cI cC cZ cB cJ a_x xG xD wY wJ wQ xI xK xJ tW uE qU uJ uL uI xH tX jE mX pD oO oQ eG qT oX rJ pN rP rX bZ bD bI aI wD gF qA nJ nY dQ jC eO eW dO fJ fY jD nG qF jJ)) hP hD 14 rfl rfl rfl
    have hP := hPD.1
    have hD := hPD.2
    have hm := mgk (wc := (wd_X3_within cI cC cZ cB cJ wJ tX jE mX pD oO oQ eG bZ bD bI aI wD gF nJ nY)) hP mk_159 14 rfl rfl rfl
    refine g_calli hP hD hS hA (mixT mk_159) (mixF mk_159) hm.1 hm.2 (nd_F _) (dis_g _) (g_runV (As := [.int x5, .int r_9]) (rest := [.int x1]) C0 hP hD hS (mixT mk_159) hm.1 (nd_T _) 4 3 rfl rfl (c_X3_within l dC dI cI cC cZ cB cJ wJ tX jE mX pD oO oQ eG H.size x5 r_9 bZ bD bI aI wD gF nJ nY _ hp) q_339 q_412 q_340 q_341 q_48 h_X3_within rfl rfl ⟨Nat.le_of_ble_eq_true rfl, Nat.le_of_ble_eq_true rfl⟩ rfl rfl hl.1 rfl (lv_room (Nat.le_of_ble_eq_true rfl)) eX9_hooked_59.2.2.2.2.2.2.2.2.2.2.2.2.1 ⟨Nat.zero_le _, Nat.zero_le _⟩) (fun r_10 u H locs hp hP hD hS => ?_)
    have hPD := PDm (ws' := (wd_X9_hooked cI cC cZ cB cJ a_x xG xD wY wJ wQ xI xK xJ tW uE qU uJ uL uI xH tX jE mX pD oO oQ eG qT oX rJ pN rP rX bZ bD bI aI wD gF qA nJ nY dQ jC eO eW dO fJ fY jD nG qF jJ)) hP hD 14 rfl rfl rfl
    have hP := hPD.1
    have hD := hPD.2
    refine lv_iand hx hb eX9_hooked_59.2.2.2.2.2.2.2.2.2.2.2.2.2.1 ?_
    refine lv_topi (fun v_11 ev_11 => ?_)
    have hp := hp v_11 ev_11
    refine lv_istore (lv' := [(6, .int v_11), (0, .ref a_x), (1, .int x1), (2, .int x2), (3, .int x3), (4, .int x4), (5, .int x5)]) hx hb eX9_hooked_59.2.2.2.2.2.2.2.2.2.2.2.2.2.2.1 hl (by decide) rfl (fun ls hl => ?_)
    refine lv_iload_n hx hb eX9_hooked_59.2.2.2.2.2.2.2.2.2.2.2.2.2.2.2 rfl (lv_at hl 3 rfl) ?_
    refine lv_iload hx hb eX9_hooked_91.1 (lv_at hl 0 rfl) ?_
    refine lv_ior hx hb eX9_hooked_91.2.1 ?_
    refine lv_topi (fun v_12 ev_12 => ?_)
    have hp := hp v_12 ev_12
    refine lv_istore_n (lv' := [(2, .int v_12), (6, .int v_11), (0, .ref a_x), (1, .int x1), (3, .int x3), (4, .int x4), (5, .int x5)]) hx hb eX9_hooked_91.2.2.1 rfl hl (by decide) rfl (fun ls hl => ?_)
    refine lv_iload hx hb eX9_hooked_91.2.2.2.1 (lv_at hl 1 rfl) ?_
    have hm := mgk (wc := (wd_J6_bitCount_0f7a4 cI cC cZ cB cJ)) hP aAy 14 rfl rfl rfl
    refine g_calli hP hD hS hA (mixT aAy) (mixF aAy) hm.1 hm.2 (nd_F _) (dis_g _) (g_runS (As := [.int v_11]) (rest := []) C0 hP hD hS (mixT aAy) hm.1 (nd_T _) (c_J6_bitCount_0f7a4 l dC dI cI cC cZ cB cJ H.size v_11 _ hp) q_320 q_474 q_322 q_321 h_J6_bitCount_0f7a4 rfl rfl ⟨Nat.le_of_ble_eq_true rfl, Nat.le_of_ble_eq_true rfl⟩ rfl rfl hl.1 rfl (lv_room (Nat.le_of_ble_eq_true rfl)) eX9_hooked_91.2.2.2.2.1 ⟨Nat.zero_le _, Nat.zero_le _⟩) (fun r_13 u H locs hp hP hD hS => ?_)
    have hPD := PDm (ws' := (wd_X9_hooked cI cC cZ cB cJ a_x xG xD wY wJ wQ xI xK xJ tW uE qU uJ uL uI xH tX jE mX pD oO oQ eG qT oX rJ pN rP rX bZ bD bI aI wD gF qA nJ nY dQ jC eO eW dO fJ fY jD nG qF jJ)) hP hD 14 rfl rfl rfl
    have hP := hPD.1
    have hD := hPD.2
    refine lv_iload hx hb eX9_hooked_91.2.2.2.2.2.1 (lv_at hl 5 rfl) ?_
    refine lv_icmp_le (tgt := 115) hx hb eX9_hooked_91.2.2.2.2.2.2.1 (by decide) (fun hc => ?_) (fun hc => ?_)
    · have hp := hp.1 hc
      exact ks_X9_hooked_115 C0 hKn x1 v_12 x3 x4 x5 oX rX qF jJ H locs ls hp hP hD hS (lv_sub hl [2, 3, 0, 4, 5, 6] rfl)
    · have hp := hp.2 hc
      refine lv_iload hx hb eX9_hooked_91.2.2.2.2.2.2.2.1 (lv_at hl 6 rfl) ?_
      refine lv_istore_n (lv' := [(3, .int x5), (2, .int v_12), (6, .int v_11), (0, .ref a_x), (1, .int x1), (4, .int x4), (5, .int x5)]) hx hb eX9_hooked_91.2.2.2.2.2.2.2.2.1 rfl hl (by decide) rfl (fun ls hl => ?_)
      refine lv_iload hx hb eX9_hooked_91.2.2.2.2.2.2.2.2.2.1 (lv_at hl 2 rfl) ?_
      have hm := mgk (wc := (wd_J6_bitCount_0f7a4 cI cC cZ cB cJ)) hP aAy 14 rfl rfl rfl
      refine g_calli hP hD hS hA (mixT aAy) (mixF aAy) hm.1 hm.2 (nd_F _) (dis_g _) (g_runS (As := [.int v_11]) (rest := []) C0 hP hD hS (mixT aAy) hm.1 (nd_T _) (c_J6_bitCount_0f7a4 l dC dI cI cC cZ cB cJ H.size v_11 _ hp) q_320 q_474 q_322 q_321 h_J6_bitCount_0f7a4 rfl rfl ⟨Nat.le_of_ble_eq_true rfl, Nat.le_of_ble_eq_true rfl⟩ rfl rfl hl.1 rfl (lv_room (Nat.le_of_ble_eq_true rfl)) eX9_hooked_91.2.2.2.2.2.2.2.2.2.2.1 ⟨Nat.zero_le _, Nat.zero_le _⟩) (fun r_15 u H locs hp hP hD hS => ?_)
      have hPD := PDm (ws' := (wd_X9_hooked cI cC cZ cB cJ a_x xG xD wY wJ wQ xI xK xJ tW uE qU uJ uL uI xH tX jE mX pD oO oQ eG qT oX rJ pN rP rX bZ bD bI aI wD gF qA nJ nY dQ jC eO eW dO fJ fY jD nG qF jJ)) hP hD 14 rfl rfl rfl
      have hP := hPD.1
      have hD := hPD.2
      refine lv_istore (lv' := [(4, .int r_15), (3, .int x5), (2, .int v_12), (6, .int v_11), (0, .ref a_x), (1, .int x1), (5, .int x5)]) hx hb eX9_hooked_91.2.2.2.2.2.2.2.2.2.2.2.1 hl (by decide) rfl (fun ls hl => ?_)
      exact ks_X9_hooked_115 C0 hKn x1 v_12 x5 r_15 x5 oX rX qF jJ H locs ls hp hP hD hS (lv_sub hl [4, 5, 2, 1, 0, 6] rfl)
set_option maxHeartbeats 4000000 in
set_option maxRecDepth 100000 in
theorem kb_X9_hooked_50 (C0 : gc cX9_hooked (some .int) 7 RX9 (dC, dI) (tyl cI cC cZ cB cJ) A p s m args meth c) : ∀ (n : Nat), ∀ (x1 x2 x3 x4 x5 oX : Int32) (rX : Nat → Int32) (qF : Int32) (jJ : Nat → Int32) (H : Heap) (locs : List Loc) (ls : Array Slot), (wb_X9_hooked_50 post bZ bD wD gF qA nJ nY dQ jC eO eW fY jD n) x1 x2 x3 x4 x5 oX rX qF jJ → va_P (dC, dI) classes (wd_X9_hooked cI cC cZ cB cJ a_x xG xD wY wJ wQ xI xK xJ tW uE qU uJ uL uI xH tX jE mX pD oO oQ eG qT oX rJ pN rP rX bZ bD bI aI wD gF qA nJ nY dQ jC eO eW dO fJ fY jD nG qF jJ) H → va_D A (wd_X9_hooked cI cC cZ cB cJ a_x xG xD wY wJ wQ xI xK xJ tW uE qU uJ uL uI xH tX jE mX pD oO oQ eG qT oX rJ pN rP rX bZ bD bI aI wD gF qA nJ nY dQ jC eO eW dO fJ fY jD nG qF jJ) → va_S A s.heap H locs → lv_has ls 7 [(0, .ref a_x), (1, .int x1), (2, .int x2), (3, .int x3), (4, .int x4), (5, .int x5)] → W p l e rm_X9_hooked s m args below meth c H locs 0 0 (MQ below (q_X9_hooked dC dI cI cC cZ cB cJ A a_x xG xD wY wJ wQ xI xK xJ tW uE qU uJ uL uI xH tX jE mX pD oO oQ eG qT rJ pN rP bZ bD bI aI wD gF qA nJ nY dQ jC eO eW dO fJ fY jD nG post) args s 0 0 A) (F0 m 50 ls []) := by
  intro n
  induction n with
  | zero =>
    intro x1 x2 x3 x4 x5 oX rX qF jJ H locs ls hp
    exact False.elim hp
  | succ n ih =>
    intro x1 x2 x3 x4 x5 oX rX qF jJ H locs ls hp
    exact ks_X9_hooked_50 C0 ih x1 x2 x3 x4 x5 oX rX qF jJ H locs ls hp
end S_X9_hooked
noncomputable def wp_X9_hooked (post : Int32 → Int32 → (Nat → Int32) → Int32 → (Nat → Int32) → Prop) (oX : Int32) (rX : Nat → Int32) (bZ bD : Int32) (wD gF qA nJ nY dQ : Nat → Int32) (jC eO eW fY jD qF : Int32) (jJ : Nat → Int32) : Prop := wp_X5_look (fun xM xQ => wp_X0_hanging (fun r_3 => wp_X3_ripeBy (fun r_4 => ∀ v_5 : Int32, v_5 = r_3 &&& r_4 → ∀ v_6 : Int32, v_6 = v_5 &&& (xM ^^^ (-1)) → ∃ n : Nat, wb_X9_hooked_50 post bZ bD wD gF qA nJ nY dQ jC eO eW fY jD n v_6 0 (-1) 0 0 xM xQ qF jJ) jD bZ qA) bZ jC eO eW) oX rX bZ bD wD gF qA nJ nY dQ jC eO eW fY jD
set_option maxHeartbeats 4000000 in
set_option maxRecDepth 100000 in
theorem c_X9_hooked (l : Launch) (dC : Nat → ClassId) (dI : Nat → Nat → Nat) (cI cC cZ cB cJ : ClassId) (a_x xG xD wY wJ wQ xI xK xJ tW uE qU uJ uL uI xH tX jE mX pD oO oQ eG qT sz : Nat) (oX rJ pN rP : Int32) (rX : Nat → Int32) (bZ bD bI aI : Int32) (wD gF qA nJ nY dQ : Nat → Int32) (jC eO eW dO fJ fY jD nG qF : Int32) (jJ : Nat → Int32) (post : Int32 → Int32 → (Nat → Int32) → Int32 → (Nat → Int32) → Prop) (hw : wp_X9_hooked post oX rX bZ bD wD gF qA nJ nY dQ jC eO eW fY jD qF jJ) : Met l yX9_hooked (gw yX9_hooked cX9_hooked 7 (some .int)) rm_X9_hooked (va_Pc [.ref a_x] (gPre (dC, dI) (tyl cI cC cZ cB cJ) (wd_X9_hooked cI cC cZ cB cJ a_x xG xD wY wJ wQ xI xK xJ tW uE qU uJ uL uI xH tX jE mX pD oO oQ eG qT oX rJ pN rP rX bZ bD bI aI wD gF qA nJ nY dQ jC eO eW dO fJ fY jD nG qF jJ) sz)) (q_X9_hooked dC dI cI cC cZ cB cJ (va_A (wd_X9_hooked cI cC cZ cB cJ a_x xG xD wY wJ wQ xI xK xJ tW uE qU uJ uL uI xH tX jE mX pD oO oQ eG qT oX rJ pN rP rX bZ bD bI aI wD gF qA nJ nY dQ jC eO eW dO fJ fY jD nG qF jJ) sz) a_x xG xD wY wJ wQ xI xK xJ tW uE qU uJ uL uI xH tX jE mX pD oO oQ eG qT rJ pN rP bZ bD bI aI wD gF qA nJ nY dQ jC eO eW dO fJ fY jD nG post) 0 0 (va_A (wd_X9_hooked cI cC cZ cB cJ a_x xG xD wY wJ wQ xI xK xJ tW uE qU uJ uL uI xH tX jE mX pD oO oQ eG qT oX rJ pN rP rX bZ bD bI aI wD gF qA nJ nY dQ jC eO eW dO fJ fY jD nG qF jJ) sz) := by
  refine g_enter (own := RX9) (dC, dI) (tyl cI cC cZ cB cJ) (wd_X9_hooked cI cC cZ cB cJ a_x xG xD wY wJ wQ xI xK xJ tW uE qU uJ uL uI xH tX jE mX pD oO oQ eG qT oX rJ pN rP rX bZ bD bI aI wD gF qA nJ nY dQ jC eO eW dO fJ fY jD nG qF jJ) sz [.ref a_x] (fun A => q_X9_hooked dC dI cI cC cZ cB cJ A a_x xG xD wY wJ wQ xI xK xJ tW uE qU uJ uL uI xH tX jE mX pD oO oQ eG qT rJ pN rP bZ bD bI aI wD gF qA nJ nY dQ jC eO eW dO fJ fY jD nG post) pn_RX9 rfl (Nat.le_of_ble_eq_true rfl) ?_
  intro p e s m args below meth c A H locs ls C0 hP hD hS hl
  have hl : lv_has ls 7 [(0, .ref a_x)] := hl
  obtain ⟨hx, hb, hr, hml, hown, hts, hlocks, hA, hK, hN, tL, tM, hZL, hTL, hZM, hTM, hZX⟩ := id C0
  have hp := hw
  unfold wp_X9_hooked at hp
  refine lv_aload_n hx hb eX9_hooked_0.1 rfl (lv_at hl 0 rfl) ?_
  refine va_get (D := (dC, dI)) (ci := 9) (v := .ref xD) (C := RX9) (T := TX9) (N := 9) hx hb hts i_X9 hown hK hP 0 rfl rfl 1 (Nat.le_of_ble_eq_true rfl) (hts _ q_444) (fun _ h9 => h9) rfl eX9_hooked_0.2.1 ?_
  have hm := mgk (wc := (wd_X5_look cI cC cZ cB cJ xD wY wJ uE qU uJ uL uI wQ xH tX jE mX pD oO oQ eG oX rJ pN rP rX bZ bD bI aI wD gF qA nJ nY dQ jC eO eW dO fJ fY jD nG)) hP aA9 14 rfl rfl rfl
  refine g_callv hP hD hS hA (mixT aA9) (mixF aA9) hm.1 hm.2 (nd_F _) (dis_g _) (g_runV (As := []) (rest := []) C0 hP hD hS (mixT aA9) hm.1 (nd_T _) 1 5 rfl rfl (c_X5_look l dC dI cI cC cZ cB cJ xD wY wJ uE qU uJ uL uI wQ xH tX jE mX pD oO oQ eG H.size oX rJ pN rP rX bZ bD bI aI wD gF qA nJ nY dQ jC eO eW dO fJ fY jD nG _ hp) q_445 q_448 q_446 q_447 q_431 h_X5_look rfl rfl ⟨Nat.le_of_ble_eq_true rfl, Nat.le_of_ble_eq_true rfl⟩ rfl rfl hl.1 rfl (lv_room (Nat.le_of_ble_eq_true rfl)) eX9_hooked_0.2.2.1 ⟨Nat.zero_le _, Nat.zero_le _⟩) (fun u H locs hp hP hD hS => ?_)
  obtain ⟨xM, xQ⟩ := u
  have hPD := PDm (ws' := (wd_X9_hooked cI cC cZ cB cJ a_x xG xD wY wJ wQ xI xK xJ tW uE qU uJ uL uI xH tX jE mX pD oO oQ eG qT xM rJ pN rP xQ bZ bD bI aI wD gF qA nJ nY dQ jC eO eW dO fJ fY jD nG qF jJ)) hP hD 14 rfl rfl rfl
  have hP := hPD.1
  have hD := hPD.2
  refine lv_aload_n hx hb eX9_hooked_0.2.2.2.1 rfl (lv_at hl 0 rfl) ?_
  refine va_get (D := (dC, dI)) (ci := 9) (v := .ref wY) (C := RX9) (T := TX9) (N := 9) hx hb hts i_X9 hown hK hP 0 rfl rfl 2 (Nat.le_of_ble_eq_true rfl) (hts _ q_146) (fun _ h9 => h9) rfl eX9_hooked_0.2.2.2.2.1 ?_
  have hm := mgk (wc := (wd_X0_hanging cI cC cZ cB cJ wY wJ wQ xH tX jE mX pD oO oQ eG bZ bD bI aI jC eO eW dO fJ fY jD nG)) hP mk_160 14 rfl rfl rfl
  refine g_calli hP hD hS hA (mixT mk_160) (mixF mk_160) hm.1 hm.2 (nd_F _) (dis_g _) (g_runV (As := []) (rest := []) C0 hP hD hS (mixT mk_160) hm.1 (nd_T _) 3 0 rfl rfl (c_X0_hanging l dC dI cI cC cZ cB cJ wY wJ wQ xH tX jE mX pD oO oQ eG H.size bZ bD bI aI jC eO eW dO fJ fY jD nG _ hp) q_186 q_190 q_188 q_189 q_187 h_X0_hanging rfl rfl ⟨Nat.le_of_ble_eq_true rfl, Nat.le_of_ble_eq_true rfl⟩ rfl rfl hl.1 rfl (lv_room (Nat.le_of_ble_eq_true rfl)) eX9_hooked_0.2.2.2.2.2.1 ⟨Nat.zero_le _, Nat.zero_le _⟩) (fun r_3 u H locs hp hP hD hS => ?_)
  have hPD := PDm (ws' := (wd_X9_hooked cI cC cZ cB cJ a_x xG xD wY wJ wQ xI xK xJ tW uE qU uJ uL uI xH tX jE mX pD oO oQ eG qT xM rJ pN rP xQ bZ bD bI aI wD gF qA nJ nY dQ jC eO eW dO fJ fY jD nG qF jJ)) hP hD 14 rfl rfl rfl
  have hP := hPD.1
  have hD := hPD.2
  refine lv_aload_n hx hb eX9_hooked_0.2.2.2.2.2.2.1 rfl (lv_at hl 0 rfl) ?_
  refine va_get (D := (dC, dI)) (ci := 9) (v := .ref wJ) (C := RX9) (T := TX9) (N := 9) hx hb hts i_X9 hown hK hP 0 rfl rfl 3 (Nat.le_of_ble_eq_true rfl) (hts _ q_74) (fun _ h9 => h9) rfl eX9_hooked_0.2.2.2.2.2.2.2.1 ?_
  refine lv_aload_n hx hb eX9_hooked_0.2.2.2.2.2.2.2.2.1 rfl (lv_at hl 0 rfl) ?_
  refine va_get (D := (dC, dI)) (ci := 9) (v := .ref wQ) (C := RX9) (T := TX9) (N := 9) hx hb hts i_X9 hown hK hP 0 rfl rfl 4 (Nat.le_of_ble_eq_true rfl) (hts _ q_179) (fun _ h9 => h9) rfl eX9_hooked_0.2.2.2.2.2.2.2.2.2.1 ?_
  refine va_get (D := (dC, dI)) (ci := 2) (v := .int jD) (C := RX2) (T := TX2) (N := 8) hx hb hts i_X2 hown hK hP 11 rfl rfl 6 (Nat.le_of_ble_eq_true rfl) (hts _ q_542) (fun _ h9 => h9) rfl eX9_hooked_0.2.2.2.2.2.2.2.2.2.2.1 ?_
  have hm := mgk (wc := (wd_X3_ripeBy cI cC cZ cB cJ wJ tX jE mX pD oO oQ eG bZ bD bI aI qA)) hP mk_161 14 rfl rfl rfl
  refine g_calli hP hD hS hA (mixT mk_161) (mixF mk_161) hm.1 hm.2 (nd_F _) (dis_g _) (g_runV (As := [.int jD]) (rest := [.int r_3]) C0 hP hD hS (mixT mk_161) hm.1 (nd_T _) 4 3 rfl rfl (c_X3_ripeBy l dC dI cI cC cZ cB cJ wJ tX jE mX pD oO oQ eG H.size jD bZ bD bI aI qA _ hp) q_343 q_544 q_344 q_345 q_48 h_X3_ripeBy rfl rfl ⟨Nat.le_of_ble_eq_true rfl, Nat.le_of_ble_eq_true rfl⟩ rfl rfl hl.1 rfl (lv_room (Nat.le_of_ble_eq_true rfl)) eX9_hooked_0.2.2.2.2.2.2.2.2.2.2.2.1 ⟨Nat.zero_le _, Nat.zero_le _⟩) (fun r_4 u H locs hp hP hD hS => ?_)
  have hPD := PDm (ws' := (wd_X9_hooked cI cC cZ cB cJ a_x xG xD wY wJ wQ xI xK xJ tW uE qU uJ uL uI xH tX jE mX pD oO oQ eG qT xM rJ pN rP xQ bZ bD bI aI wD gF qA nJ nY dQ jC eO eW dO fJ fY jD nG qF jJ)) hP hD 14 rfl rfl rfl
  have hP := hPD.1
  have hD := hPD.2
  refine lv_iand hx hb eX9_hooked_0.2.2.2.2.2.2.2.2.2.2.2.2.1 ?_
  refine lv_topi (fun v_5 ev_5 => ?_)
  have hp := hp v_5 ev_5
  refine lv_aload_n hx hb eX9_hooked_0.2.2.2.2.2.2.2.2.2.2.2.2.2.1 rfl (lv_at hl 0 rfl) ?_
  refine va_get (D := (dC, dI)) (ci := 9) (v := .ref xD) (C := RX9) (T := TX9) (N := 9) hx hb hts i_X9 hown hK hP 0 rfl rfl 1 (Nat.le_of_ble_eq_true rfl) (hts _ q_444) (fun _ h9 => h9) rfl eX9_hooked_0.2.2.2.2.2.2.2.2.2.2.2.2.2.2.1 ?_
  refine va_get (D := (dC, dI)) (ci := 5) (v := .int xM) (C := RX5) (T := TX5) (N := 11) hx hb hts i_X5 hown hK hP 1 rfl rfl 7 (Nat.le_of_ble_eq_true rfl) (hts _ q_462) (fun _ h9 => h9) rfl eX9_hooked_0.2.2.2.2.2.2.2.2.2.2.2.2.2.2.2 ?_
  refine lv_iconst (v := (-1)) hx hb eX9_hooked_36.1 ic_m1 ?_
  refine lv_ixor hx hb eX9_hooked_36.2.1 ?_
  refine lv_iand hx hb eX9_hooked_36.2.2.1 ?_
  refine lv_topi (fun v_6 ev_6 => ?_)
  have hp := hp v_6 ev_6
  refine lv_istore_n (lv' := [(1, .int v_6), (0, .ref a_x)]) hx hb eX9_hooked_36.2.2.2.1 rfl hl (by decide) rfl (fun ls hl => ?_)
  refine lv_iconst (v := 0) hx hb eX9_hooked_36.2.2.2.2.1 ic_0 ?_
  refine lv_istore_n (lv' := [(2, .int 0), (1, .int v_6), (0, .ref a_x)]) hx hb eX9_hooked_36.2.2.2.2.2.1 rfl hl (by decide) rfl (fun ls hl => ?_)
  refine lv_iconst (v := (-1)) hx hb eX9_hooked_36.2.2.2.2.2.2.1 ic_m1 ?_
  refine lv_istore_n (lv' := [(3, .int (-1)), (2, .int 0), (1, .int v_6), (0, .ref a_x)]) hx hb eX9_hooked_36.2.2.2.2.2.2.2.1 rfl hl (by decide) rfl (fun ls hl => ?_)
  refine lv_iconst (v := 0) hx hb eX9_hooked_36.2.2.2.2.2.2.2.2.1 ic_0 ?_
  refine lv_istore (lv' := [(4, .int 0), (3, .int (-1)), (2, .int 0), (1, .int v_6), (0, .ref a_x)]) hx hb eX9_hooked_36.2.2.2.2.2.2.2.2.2.1 hl (by decide) rfl (fun ls hl => ?_)
  refine lv_iconst (v := 0) hx hb eX9_hooked_36.2.2.2.2.2.2.2.2.2.2.1 ic_0 ?_
  refine lv_istore (lv' := [(5, .int 0), (4, .int 0), (3, .int (-1)), (2, .int 0), (1, .int v_6), (0, .ref a_x)]) hx hb eX9_hooked_36.2.2.2.2.2.2.2.2.2.2.2.1 hl (by decide) rfl (fun ls hl => ?_)
  obtain ⟨n9, hp⟩ := hp
  exact kb_X9_hooked_50 C0 n9 v_6 0 (-1) 0 0 xM xQ qF jJ H locs ls hp hP hD hS (lv_sub hl [5, 4, 3, 2, 1, 0] rfl)
noncomputable abbrev wd_X9_broken (cI cC cZ cB cJ : ClassId) (a_x xG xD wY wJ wQ xI xK xJ tW uE qU uJ uL uI xH tX jE mX pD oO oQ eG qT : Nat) (oX rJ pN rP : Int32) (rX : Nat → Int32) (bZ bD bI aI : Int32) (wD gF qA nJ nY dQ : Nat → Int32) (jC eO eW dO fJ fY jD nG qF : Int32) (jJ : Nat → Int32) : va_W := [(a_x, .inr (9, [.ref xG, .ref xD, .ref wY, .ref wJ, .ref wQ, .ref xI, .ref xK, .ref xJ, .ref tW])), (xD, .inr (5, [.ref wY, .ref wJ, .ref uE, .ref qU, .ref uJ, .ref uL, .ref uI, .int oX, .int rJ, .int pN, .int rP])), (uE, .inl (cI, 8, .inl rX)), (wY, .inr (0, [.ref wJ, .ref wQ, .ref xH])), (wJ, .inr (3, [.ref tX, .ref jE, .ref mX, .ref pD, .ref oO, .ref oQ, .ref eG, .int bZ, .int bD, .int bI, .int aI])), (tX, .inl (cI, 16, .inl wD)), (jE, .inl (cI, 16, .inl gF)), (pD, .inl (cI, 16, .inl qA)), (oO, .inl (cI, 8, .inl nJ)), (oQ, .inl (cI, 8, .inl nY)), (eG, .inl (cI, 5, .inl dQ)), (wQ, .inr (2, [.int jC, .int eO, .int eW, .int dO, .int fJ, .int fY, .int jD, .int nG])), (xK, .inr (6, [.ref qT, .int qF])), (qT, .inl (cI, 16, .inl jJ))]
noncomputable abbrev q_X9_broken (dC : Nat → ClassId) (dI : Nat → Nat → Nat) (cI cC cZ cB cJ : ClassId) (A : Nat → Prop) (a_x xG xD wY wJ wQ xI xK xJ tW uE qU uJ uL uI xH tX jE mX pD oO oQ eG qT : Nat) (rJ pN rP bZ bD bI aI : Int32) (wD gF qA nJ nY dQ : Nat → Int32) (jC eO eW dO fJ fY jD nG : Int32) (post : Int32 → Int32 → (Nat → Int32) → Int32 → (Nat → Int32) → Prop) : Array Value → State → Outcome → State → Prop := va_Qi (fun (r : Int32) (u : Int32 × (Nat → Int32) × Int32 × (Nat → Int32)) => post r u.1 u.2.1 u.2.2.1 u.2.2.2) (fun u t => gB (dC, dI) (tyl cI cC cZ cB cJ) A (wd_X9_broken cI cC cZ cB cJ a_x xG xD wY wJ wQ xI xK xJ tW uE qU uJ uL uI xH tX jE mX pD oO oQ eG qT u.1 rJ pN rP u.2.1 bZ bD bI aI wD gF qA nJ nY dQ jC eO eW dO fJ fY jD nG u.2.2.1 u.2.2.2) t) A
noncomputable abbrev rm_X9_broken : Room := { frames := 5, cells := 0, slots := 0, locals := 115 }
noncomputable def wp_X9_broken (post : Int32 → Int32 → (Nat → Int32) → Int32 → (Nat → Int32) → Prop) (p0 oX : Int32) (rX : Nat → Int32) (bZ bD : Int32) (wD gF qA nJ nY dQ : Nat → Int32) (jC eO eW fY jD qF : Int32) (jJ : Nat → Int32) : Prop := wp_X3_hasStanding (fun r_1 => (¬ r_1 = 0 → wp_X5_look (fun xR yA => wp_X3_allStandings (fun r_4 => ∀ v_5 : Int32, v_5 = 1 <<< (p0 &&& 31) → ∀ v_6 : Int32, v_6 = r_4 &&& (v_5 ^^^ (-1)) → wp_X5_reachedBy (fun r_7 => ∀ v_8 : Int32, v_8 = xR &&& (r_7 ^^^ (-1)) → wp_X9_tell (fun aGB aBv => ∀ v_11 : Int32, v_11 = xR &&& (v_8 ^^^ (-1)) → wp_X5_smallestCover (fun r_12 => wp_J6_bitCount_0f7a4 (fun r_13 => post r_13 xR yA aGB aBv) r_12) v_11 v_6 yA bD) v_8 qF jJ) v_6 yA bD) bD) oX rX bZ bD wD gF qA nJ nY dQ jC eO eW fY jD) ∧ (r_1 = 0 → post (-1) oX rX qF jJ)) p0 bD
set_option maxHeartbeats 4000000 in
set_option maxRecDepth 100000 in
theorem c_X9_broken (l : Launch) (dC : Nat → ClassId) (dI : Nat → Nat → Nat) (cI cC cZ cB cJ : ClassId) (a_x xG xD wY wJ wQ xI xK xJ tW uE qU uJ uL uI xH tX jE mX pD oO oQ eG qT sz : Nat) (p0 oX rJ pN rP : Int32) (rX : Nat → Int32) (bZ bD bI aI : Int32) (wD gF qA nJ nY dQ : Nat → Int32) (jC eO eW dO fJ fY jD nG qF : Int32) (jJ : Nat → Int32) (post : Int32 → Int32 → (Nat → Int32) → Int32 → (Nat → Int32) → Prop) (hw : wp_X9_broken post p0 oX rX bZ bD wD gF qA nJ nY dQ jC eO eW fY jD qF jJ) : Met l yX9_broken (gw yX9_broken cX9_broken 4 (some .int)) rm_X9_broken (va_Pc [.ref a_x, .int p0] (gPre (dC, dI) (tyl cI cC cZ cB cJ) (wd_X9_broken cI cC cZ cB cJ a_x xG xD wY wJ wQ xI xK xJ tW uE qU uJ uL uI xH tX jE mX pD oO oQ eG qT oX rJ pN rP rX bZ bD bI aI wD gF qA nJ nY dQ jC eO eW dO fJ fY jD nG qF jJ) sz)) (q_X9_broken dC dI cI cC cZ cB cJ (va_A (wd_X9_broken cI cC cZ cB cJ a_x xG xD wY wJ wQ xI xK xJ tW uE qU uJ uL uI xH tX jE mX pD oO oQ eG qT oX rJ pN rP rX bZ bD bI aI wD gF qA nJ nY dQ jC eO eW dO fJ fY jD nG qF jJ) sz) a_x xG xD wY wJ wQ xI xK xJ tW uE qU uJ uL uI xH tX jE mX pD oO oQ eG qT rJ pN rP bZ bD bI aI wD gF qA nJ nY dQ jC eO eW dO fJ fY jD nG post) 0 0 (va_A (wd_X9_broken cI cC cZ cB cJ a_x xG xD wY wJ wQ xI xK xJ tW uE qU uJ uL uI xH tX jE mX pD oO oQ eG qT oX rJ pN rP rX bZ bD bI aI wD gF qA nJ nY dQ jC eO eW dO fJ fY jD nG qF jJ) sz) := by
  refine g_enter (own := RX9) (dC, dI) (tyl cI cC cZ cB cJ) (wd_X9_broken cI cC cZ cB cJ a_x xG xD wY wJ wQ xI xK xJ tW uE qU uJ uL uI xH tX jE mX pD oO oQ eG qT oX rJ pN rP rX bZ bD bI aI wD gF qA nJ nY dQ jC eO eW dO fJ fY jD nG qF jJ) sz [.ref a_x, .int p0] (fun A => q_X9_broken dC dI cI cC cZ cB cJ A a_x xG xD wY wJ wQ xI xK xJ tW uE qU uJ uL uI xH tX jE mX pD oO oQ eG qT rJ pN rP bZ bD bI aI wD gF qA nJ nY dQ jC eO eW dO fJ fY jD nG post) pn_RX9 rfl (Nat.le_of_ble_eq_true rfl) ?_
  intro p e s m args below meth c A H locs ls C0 hP hD hS hl
  have hl : lv_has ls 4 [(0, .ref a_x), (1, .int p0)] := hl
  obtain ⟨hx, hb, hr, hml, hown, hts, hlocks, hA, hK, hN, tL, tM, hZL, hTL, hZM, hTM, hZX⟩ := id C0
  have hp := hw
  unfold wp_X9_broken at hp
  refine lv_aload_n hx hb eX9_broken_0.1 rfl (lv_at hl 0 rfl) ?_
  refine va_get (D := (dC, dI)) (ci := 9) (v := .ref wJ) (C := RX9) (T := TX9) (N := 9) hx hb hts i_X9 hown hK hP 0 rfl rfl 3 (Nat.le_of_ble_eq_true rfl) (hts _ q_74) (fun _ h9 => h9) rfl eX9_broken_0.2.1 ?_
  refine lv_iload_n hx hb eX9_broken_0.2.2.1 rfl (lv_at hl 1 rfl) ?_
  have hm := mgk (wc := (wd_X3_hasStanding cI cC cZ cB cJ wJ tX jE mX pD oO oQ eG bZ bD bI aI)) hP aAB 14 rfl rfl rfl
  refine g_calli hP hD hS hA (mixT aAB) (mixF aAB) hm.1 hm.2 (nd_F _) (dis_g _) (g_runV (As := [.int p0]) (rest := []) C0 hP hD hS (mixT aAB) hm.1 (nd_T _) 4 3 rfl rfl (c_X3_hasStanding l dC dI cI cC cZ cB cJ wJ tX jE mX pD oO oQ eG H.size p0 bZ bD bI aI _ hp) q_195 q_198 q_196 q_197 q_48 h_X3_hasStanding rfl rfl ⟨Nat.le_of_ble_eq_true rfl, Nat.le_of_ble_eq_true rfl⟩ rfl rfl hl.1 rfl (lv_room (Nat.le_of_ble_eq_true rfl)) eX9_broken_0.2.2.2.1 ⟨Nat.zero_le _, Nat.zero_le _⟩) (fun r_1 u H locs hp hP hD hS => ?_)
  have hPD := PDm (ws' := (wd_X9_broken cI cC cZ cB cJ a_x xG xD wY wJ wQ xI xK xJ tW uE qU uJ uL uI xH tX jE mX pD oO oQ eG qT oX rJ pN rP rX bZ bD bI aI wD gF qA nJ nY dQ jC eO eW dO fJ fY jD nG qF jJ)) hP hD 14 rfl rfl rfl
  have hP := hPD.1
  have hD := hPD.2
  refine lv_if_ne (tgt := 13) hx hb eX9_broken_0.2.2.2.2.1 (by decide) (fun hc => ?_) (fun hc => ?_)
  · have hp := hp.1 hc
    refine lv_aload_n hx hb eX9_broken_0.2.2.2.2.2.2.2.1 rfl (lv_at hl 0 rfl) ?_
    refine va_get (D := (dC, dI)) (ci := 9) (v := .ref xD) (C := RX9) (T := TX9) (N := 9) hx hb hts i_X9 hown hK hP 0 rfl rfl 1 (Nat.le_of_ble_eq_true rfl) (hts _ q_444) (fun _ h9 => h9) rfl eX9_broken_0.2.2.2.2.2.2.2.2.1 ?_
    have hm := mgk (wc := (wd_X5_look cI cC cZ cB cJ xD wY wJ uE qU uJ uL uI wQ xH tX jE mX pD oO oQ eG oX rJ pN rP rX bZ bD bI aI wD gF qA nJ nY dQ jC eO eW dO fJ fY jD nG)) hP aA9 14 rfl rfl rfl
    refine g_callv hP hD hS hA (mixT aA9) (mixF aA9) hm.1 hm.2 (nd_F _) (dis_g _) (g_runV (As := []) (rest := []) C0 hP hD hS (mixT aA9) hm.1 (nd_T _) 1 5 rfl rfl (c_X5_look l dC dI cI cC cZ cB cJ xD wY wJ uE qU uJ uL uI wQ xH tX jE mX pD oO oQ eG H.size oX rJ pN rP rX bZ bD bI aI wD gF qA nJ nY dQ jC eO eW dO fJ fY jD nG _ hp) q_445 q_448 q_446 q_447 q_431 h_X5_look rfl rfl ⟨Nat.le_of_ble_eq_true rfl, Nat.le_of_ble_eq_true rfl⟩ rfl rfl hl.1 rfl (lv_room (Nat.le_of_ble_eq_true rfl)) eX9_broken_0.2.2.2.2.2.2.2.2.2.1 ⟨Nat.zero_le _, Nat.zero_le _⟩) (fun u H locs hp hP hD hS => ?_)
    obtain ⟨xR, yA⟩ := u
    have hPD := PDm (ws' := (wd_X9_broken cI cC cZ cB cJ a_x xG xD wY wJ wQ xI xK xJ tW uE qU uJ uL uI xH tX jE mX pD oO oQ eG qT xR rJ pN rP yA bZ bD bI aI wD gF qA nJ nY dQ jC eO eW dO fJ fY jD nG qF jJ)) hP hD 14 rfl rfl rfl
    have hP := hPD.1
    have hD := hPD.2
    refine lv_aload_n hx hb eX9_broken_0.2.2.2.2.2.2.2.2.2.2.1 rfl (lv_at hl 0 rfl) ?_
    refine va_get (D := (dC, dI)) (ci := 9) (v := .ref wJ) (C := RX9) (T := TX9) (N := 9) hx hb hts i_X9 hown hK hP 0 rfl rfl 3 (Nat.le_of_ble_eq_true rfl) (hts _ q_74) (fun _ h9 => h9) rfl eX9_broken_0.2.2.2.2.2.2.2.2.2.2.2.1 ?_
    have hm := mgk (wc := (wd_X3_allStandings cI cC cZ cB cJ wJ tX jE mX pD oO oQ eG bZ bD bI aI)) hP aAB 14 rfl rfl rfl
    refine g_calli hP hD hS hA (mixT aAB) (mixF aAB) hm.1 hm.2 (nd_F _) (dis_g _) (g_runV (As := []) (rest := []) C0 hP hD hS (mixT aAB) hm.1 (nd_T _) 4 3 rfl rfl (c_X3_allStandings l dC dI cI cC cZ cB cJ wJ tX jE mX pD oO oQ eG H.size bZ bD bI aI _ hp) q_426 q_463 q_427 q_428 q_48 h_X3_allStandings rfl rfl ⟨Nat.le_of_ble_eq_true rfl, Nat.le_of_ble_eq_true rfl⟩ rfl rfl hl.1 rfl (lv_room (Nat.le_of_ble_eq_true rfl)) eX9_broken_0.2.2.2.2.2.2.2.2.2.2.2.2.1 ⟨Nat.zero_le _, Nat.zero_le _⟩) (fun r_4 u H locs hp hP hD hS => ?_)
    have hPD := PDm (ws' := (wd_X9_broken cI cC cZ cB cJ a_x xG xD wY wJ wQ xI xK xJ tW uE qU uJ uL uI xH tX jE mX pD oO oQ eG qT xR rJ pN rP yA bZ bD bI aI wD gF qA nJ nY dQ jC eO eW dO fJ fY jD nG qF jJ)) hP hD 14 rfl rfl rfl
    have hP := hPD.1
    have hD := hPD.2
    refine lv_iconst (v := 1) hx hb eX9_broken_0.2.2.2.2.2.2.2.2.2.2.2.2.2.1 ic_1 ?_
    refine lv_iload_n hx hb eX9_broken_0.2.2.2.2.2.2.2.2.2.2.2.2.2.2.1 rfl (lv_at hl 1 rfl) ?_
    refine lv_ishl hx hb eX9_broken_0.2.2.2.2.2.2.2.2.2.2.2.2.2.2.2 ?_
    refine lv_topi (fun v_5 ev_5 => ?_)
    have hp := hp v_5 ev_5
    refine lv_iconst (v := (-1)) hx hb eX9_broken_30.1 ic_m1 ?_
    refine lv_ixor hx hb eX9_broken_30.2.1 ?_
    refine lv_iand hx hb eX9_broken_30.2.2.1 ?_
    refine lv_topi (fun v_6 ev_6 => ?_)
    have hp := hp v_6 ev_6
    refine lv_istore_n (lv' := [(2, .int v_6), (0, .ref a_x), (1, .int p0)]) hx hb eX9_broken_30.2.2.2.1 rfl hl (by decide) rfl (fun ls hl => ?_)
    refine lv_aload_n hx hb eX9_broken_30.2.2.2.2.1 rfl (lv_at hl 1 rfl) ?_
    refine va_get (D := (dC, dI)) (ci := 9) (v := .ref xD) (C := RX9) (T := TX9) (N := 9) hx hb hts i_X9 hown hK hP 0 rfl rfl 1 (Nat.le_of_ble_eq_true rfl) (hts _ q_444) (fun _ h9 => h9) rfl eX9_broken_30.2.2.2.2.2.1 ?_
    refine va_get (D := (dC, dI)) (ci := 5) (v := .int xR) (C := RX5) (T := TX5) (N := 11) hx hb hts i_X5 hown hK hP 1 rfl rfl 7 (Nat.le_of_ble_eq_true rfl) (hts _ q_462) (fun _ h9 => h9) rfl eX9_broken_30.2.2.2.2.2.2.1 ?_
    refine lv_aload_n hx hb eX9_broken_30.2.2.2.2.2.2.2.1 rfl (lv_at hl 1 rfl) ?_
    refine va_get (D := (dC, dI)) (ci := 9) (v := .ref xD) (C := RX9) (T := TX9) (N := 9) hx hb hts i_X9 hown hK hP 0 rfl rfl 1 (Nat.le_of_ble_eq_true rfl) (hts _ q_444) (fun _ h9 => h9) rfl eX9_broken_30.2.2.2.2.2.2.2.2.1 ?_
    refine lv_iload_n hx hb eX9_broken_30.2.2.2.2.2.2.2.2.2.1 rfl (lv_at hl 0 rfl) ?_
    have hm := mgk (wc := (wd_X5_reachedBy cI cC cZ cB cJ xD wY wJ uE qU uJ uL uI tX jE mX pD oO oQ eG xR rJ pN rP yA bZ bD bI aI)) hP aBq 14 rfl rfl rfl
    refine g_calli hP hD hS hA (mixT aBq) (mixF aBq) hm.1 hm.2 (nd_F _) (dis_g _) (g_runV (As := [.int v_6]) (rest := [.int xR]) C0 hP hD hS (mixT aBq) hm.1 (nd_T _) 1 5 rfl rfl (c_X5_reachedBy l dC dI cI cC cZ cB cJ xD wY wJ uE qU uJ uL uI tX jE mX pD oO oQ eG H.size v_6 xR rJ pN rP yA bZ bD bI aI _ hp) q_430 q_472 q_432 q_433 q_431 h_X5_reachedBy rfl rfl ⟨Nat.le_of_ble_eq_true rfl, Nat.le_of_ble_eq_true rfl⟩ rfl rfl hl.1 rfl (lv_room (Nat.le_of_ble_eq_true rfl)) eX9_broken_30.2.2.2.2.2.2.2.2.2.2.1 ⟨Nat.zero_le _, Nat.zero_le _⟩) (fun r_7 u H locs hp hP hD hS => ?_)
    have hPD := PDm (ws' := (wd_X9_broken cI cC cZ cB cJ a_x xG xD wY wJ wQ xI xK xJ tW uE qU uJ uL uI xH tX jE mX pD oO oQ eG qT xR rJ pN rP yA bZ bD bI aI wD gF qA nJ nY dQ jC eO eW dO fJ fY jD nG qF jJ)) hP hD 14 rfl rfl rfl
    have hP := hPD.1
    have hD := hPD.2
    refine lv_iconst (v := (-1)) hx hb eX9_broken_30.2.2.2.2.2.2.2.2.2.2.2.1 ic_m1 ?_
    refine lv_ixor hx hb eX9_broken_30.2.2.2.2.2.2.2.2.2.2.2.2.1 ?_
    refine lv_iand hx hb eX9_broken_30.2.2.2.2.2.2.2.2.2.2.2.2.2.1 ?_
    refine lv_topi (fun v_8 ev_8 => ?_)
    have hp := hp v_8 ev_8
    refine lv_istore_n (lv' := [(3, .int v_8), (2, .int v_6), (0, .ref a_x), (1, .int p0)]) hx hb eX9_broken_30.2.2.2.2.2.2.2.2.2.2.2.2.2.2.1 rfl hl (by decide) rfl (fun ls hl => ?_)
    refine lv_aload_n hx hb eX9_broken_30.2.2.2.2.2.2.2.2.2.2.2.2.2.2.2 rfl (lv_at hl 2 rfl) ?_
    refine lv_iload_n hx hb eX9_broken_54.1 rfl (lv_at hl 0 rfl) ?_
    have hm := mgk (wc := (wd_X9_tell cI cC cZ cB cJ a_x xG xD wY wJ wQ xI xK xJ tW qT qF jJ)) hP aBp 14 rfl rfl rfl
    refine g_callv hP hD hS hA (mixT aBp) (mixF aBp) hm.1 hm.2 (nd_F _) (dis_g _) (g_runV (As := [.int v_8]) (rest := []) C0 hP hD hS (mixT aBp) hm.1 (nd_T _) 0 9 rfl rfl (c_X9_tell l dC dI cI cC cZ cB cJ a_x xG xD wY wJ wQ xI xK xJ tW qT H.size v_8 qF jJ _ hp) q_373 q_376 q_374 q_375 q_256 h_X9_tell rfl rfl ⟨Nat.le_of_ble_eq_true rfl, Nat.le_of_ble_eq_true rfl⟩ rfl rfl hl.1 rfl (lv_room (Nat.le_of_ble_eq_true rfl)) eX9_broken_54.2.1 ⟨Nat.zero_le _, Nat.zero_le _⟩) (fun u H locs hp hP hD hS => ?_)
    obtain ⟨aGB, aBv⟩ := u
    have hPD := PDm (ws' := (wd_X9_broken cI cC cZ cB cJ a_x xG xD wY wJ wQ xI xK xJ tW uE qU uJ uL uI xH tX jE mX pD oO oQ eG qT xR rJ pN rP yA bZ bD bI aI wD gF qA nJ nY dQ jC eO eW dO fJ fY jD nG aGB aBv)) hP hD 14 rfl rfl rfl
    have hP := hPD.1
    have hD := hPD.2
    refine lv_aload_n hx hb eX9_broken_54.2.2.1 rfl (lv_at hl 2 rfl) ?_
    refine va_get (D := (dC, dI)) (ci := 9) (v := .ref xD) (C := RX9) (T := TX9) (N := 9) hx hb hts i_X9 hown hK hP 0 rfl rfl 1 (Nat.le_of_ble_eq_true rfl) (hts _ q_444) (fun _ h9 => h9) rfl eX9_broken_54.2.2.2.1 ?_
    refine lv_aload_n hx hb eX9_broken_54.2.2.2.2.1 rfl (lv_at hl 2 rfl) ?_
    refine va_get (D := (dC, dI)) (ci := 9) (v := .ref xD) (C := RX9) (T := TX9) (N := 9) hx hb hts i_X9 hown hK hP 0 rfl rfl 1 (Nat.le_of_ble_eq_true rfl) (hts _ q_444) (fun _ h9 => h9) rfl eX9_broken_54.2.2.2.2.2.1 ?_
    refine va_get (D := (dC, dI)) (ci := 5) (v := .int xR) (C := RX5) (T := TX5) (N := 11) hx hb hts i_X5 hown hK hP 1 rfl rfl 7 (Nat.le_of_ble_eq_true rfl) (hts _ q_462) (fun _ h9 => h9) rfl eX9_broken_54.2.2.2.2.2.2.1 ?_
    refine lv_iload_n hx hb eX9_broken_54.2.2.2.2.2.2.2.1 rfl (lv_at hl 0 rfl) ?_
    refine lv_iconst (v := (-1)) hx hb eX9_broken_54.2.2.2.2.2.2.2.2.1 ic_m1 ?_
    refine lv_ixor hx hb eX9_broken_54.2.2.2.2.2.2.2.2.2.1 ?_
    refine lv_iand hx hb eX9_broken_54.2.2.2.2.2.2.2.2.2.2.1 ?_
    refine lv_topi (fun v_11 ev_11 => ?_)
    have hp := hp v_11 ev_11
    refine lv_iload_n hx hb eX9_broken_54.2.2.2.2.2.2.2.2.2.2.2.1 rfl (lv_at hl 1 rfl) ?_
    have hm := mgk (wc := (wd_X5_smallestCover cI cC cZ cB cJ xD wY wJ uE qU uJ uL uI tX jE mX pD oO oQ eG xR rJ pN rP yA bZ bD bI aI)) hP aBq 14 rfl rfl rfl
    refine g_calli hP hD hS hA (mixT aBq) (mixF aBq) hm.1 hm.2 (nd_F _) (dis_g _) (g_runV (As := [.int v_11, .int v_6]) (rest := []) C0 hP hD hS (mixT aBq) hm.1 (nd_T _) 1 5 rfl rfl (c_X5_smallestCover l dC dI cI cC cZ cB cJ xD wY wJ uE qU uJ uL uI tX jE mX pD oO oQ eG H.size v_11 v_6 xR rJ pN rP yA bZ bD bI aI _ hp) q_464 q_467 q_465 q_466 q_431 h_X5_smallestCover rfl rfl ⟨Nat.le_of_ble_eq_true rfl, Nat.le_of_ble_eq_true rfl⟩ rfl rfl hl.1 rfl (lv_room (Nat.le_of_ble_eq_true rfl)) eX9_broken_54.2.2.2.2.2.2.2.2.2.2.2.2.1 ⟨Nat.zero_le _, Nat.zero_le _⟩) (fun r_12 u H locs hp hP hD hS => ?_)
    have hPD := PDm (ws' := (wd_X9_broken cI cC cZ cB cJ a_x xG xD wY wJ wQ xI xK xJ tW uE qU uJ uL uI xH tX jE mX pD oO oQ eG qT xR rJ pN rP yA bZ bD bI aI wD gF qA nJ nY dQ jC eO eW dO fJ fY jD nG aGB aBv)) hP hD 14 rfl rfl rfl
    have hP := hPD.1
    have hD := hPD.2
    have hm := mgk (wc := (wd_J6_bitCount_0f7a4 cI cC cZ cB cJ)) hP aAy 14 rfl rfl rfl
    refine g_calli hP hD hS hA (mixT aAy) (mixF aAy) hm.1 hm.2 (nd_F _) (dis_g _) (g_runS (As := [.int r_12]) (rest := []) C0 hP hD hS (mixT aAy) hm.1 (nd_T _) (c_J6_bitCount_0f7a4 l dC dI cI cC cZ cB cJ H.size r_12 _ hp) q_320 q_474 q_322 q_321 h_J6_bitCount_0f7a4 rfl rfl ⟨Nat.le_of_ble_eq_true rfl, Nat.le_of_ble_eq_true rfl⟩ rfl rfl hl.1 rfl (lv_room (Nat.le_of_ble_eq_true rfl)) eX9_broken_54.2.2.2.2.2.2.2.2.2.2.2.2.2.1 ⟨Nat.zero_le _, Nat.zero_le _⟩) (fun r_13 u H locs hp hP hD hS => ?_)
    have hPD := PDm (ws' := (wd_X9_broken cI cC cZ cB cJ a_x xG xD wY wJ wQ xI xK xJ tW uE qU uJ uL uI xH tX jE mX pD oO oQ eG qT xR rJ pN rP yA bZ bD bI aI wD gF qA nJ nY dQ jC eO eW dO fJ fY jD nG aGB aBv)) hP hD 14 rfl rfl rfl
    have hP := hPD.1
    have hD := hPD.2
    exact W.iret (v := r_13) hx hb hr (fun t ht hW => ⟨⟨r_13, (xR, yA, aGB, aBv), rfl, hp, by rw [ht]; exact hP, va_K.moved hW.alike hK, hD⟩, hS.F ht⟩) hS.2.2 eX9_broken_54.2.2.2.2.2.2.2.2.2.2.2.2.2.2
  · have hp := hp.2 hc
    refine lv_iconst (v := (-1)) hx hb eX9_broken_0.2.2.2.2.2.1 ic_m1 ?_
    exact W.iret (v := (-1)) hx hb hr (fun t ht hW => ⟨⟨(-1), (oX, rX, qF, jJ), rfl, hp, by rw [ht]; exact hP, va_K.moved hW.alike hK, hD⟩, hS.F ht⟩) hS.2.2 eX9_broken_0.2.2.2.2.2.2.1
noncomputable abbrev wd_X9_sweep (cI cC cZ cB cJ : ClassId) (a_x xG xD wY wJ wQ xI xK xJ tW uE qU uJ uL uI xH tX jE mX pD oO oQ eG uS sW uR qY sY qT : Nat) (oX rJ pN rP : Int32) (rX rO vI : Nat → Int32) (bZ bD bI aI : Int32) (wD gF pE qA nJ nY dQ : Nat → Int32) (jC eO eW dO fJ fY jD nG pG qB sH uP pQ mW : Int32) (qO qQ oF : Nat → Int32) (qF : Int32) (jJ : Nat → Int32) : va_W := [(a_x, .inr (9, [.ref xG, .ref xD, .ref wY, .ref wJ, .ref wQ, .ref xI, .ref xK, .ref xJ, .ref tW])), (xD, .inr (5, [.ref wY, .ref wJ, .ref uE, .ref qU, .ref uJ, .ref uL, .ref uI, .int oX, .int rJ, .int pN, .int rP])), (uE, .inl (cI, 8, .inl rX)), (qU, .inl (cI, 128, .inl rO)), (uJ, .inl (cI, 8, .inl vI)), (wY, .inr (0, [.ref wJ, .ref wQ, .ref xH])), (wJ, .inr (3, [.ref tX, .ref jE, .ref mX, .ref pD, .ref oO, .ref oQ, .ref eG, .int bZ, .int bD, .int bI, .int aI])), (tX, .inl (cI, 16, .inl wD)), (jE, .inl (cI, 16, .inl gF)), (mX, .inl (cI, 16, .inl pE)), (pD, .inl (cI, 16, .inl qA)), (oO, .inl (cI, 8, .inl nJ)), (oQ, .inl (cI, 8, .inl nY)), (eG, .inl (cI, 5, .inl dQ)), (wQ, .inr (2, [.int jC, .int eO, .int eW, .int dO, .int fJ, .int fY, .int jD, .int nG])), (xH, .inr (7, [.ref uS, .ref sW, .ref uR, .ref qY, .ref sY, .int pG, .int qB, .int sH, .int uP, .int pQ, .int mW])), (uS, .inl (cI, 7, .inl qO)), (uR, .inl (cI, 40, .inl qQ)), (qY, .inl (cI, 40, .inl oF)), (xK, .inr (6, [.ref qT, .int qF])), (qT, .inl (cI, 16, .inl jJ))]
noncomputable abbrev q_X9_sweep (dC : Nat → ClassId) (dI : Nat → Nat → Nat) (cI cC cZ cB cJ : ClassId) (A : Nat → Prop) (a_x xG xD wY wJ wQ xI xK xJ tW uE qU uJ uL uI xH tX jE mX pD oO oQ eG uS sW uR qY sY qT : Nat) (bZ bD bI aI : Int32) (wD gF pE qA nJ nY dQ : Nat → Int32) (jC eO eW dO fJ fY jD nG pG qB sH uP pQ mW : Int32) (oF : Nat → Int32) (post : Int32 → Int32 → Int32 → Int32 → Int32 → (Nat → Int32) → (Nat → Int32) → (Nat → Int32) → (Nat → Int32) → (Nat → Int32) → Int32 → (Nat → Int32) → Prop) : Array Value → State → Outcome → State → Prop := va_Qi (fun (r : Int32) (u : Int32 × Int32 × Int32 × Int32 × (Nat → Int32) × (Nat → Int32) × (Nat → Int32) × (Nat → Int32) × (Nat → Int32) × Int32 × (Nat → Int32)) => post r u.1 u.2.1 u.2.2.1 u.2.2.2.1 u.2.2.2.2.1 u.2.2.2.2.2.1 u.2.2.2.2.2.2.1 u.2.2.2.2.2.2.2.1 u.2.2.2.2.2.2.2.2.1 u.2.2.2.2.2.2.2.2.2.1 u.2.2.2.2.2.2.2.2.2.2) (fun u t => gB (dC, dI) (tyl cI cC cZ cB cJ) A (wd_X9_sweep cI cC cZ cB cJ a_x xG xD wY wJ wQ xI xK xJ tW uE qU uJ uL uI xH tX jE mX pD oO oQ eG uS sW uR qY sY qT u.1 u.2.1 u.2.2.1 u.2.2.2.1 u.2.2.2.2.1 u.2.2.2.2.2.1 u.2.2.2.2.2.2.1 bZ bD bI aI wD gF pE qA nJ nY dQ jC eO eW dO fJ fY jD nG pG qB sH uP pQ mW u.2.2.2.2.2.2.2.1 u.2.2.2.2.2.2.2.2.1 oF u.2.2.2.2.2.2.2.2.2.1 u.2.2.2.2.2.2.2.2.2.2) t) A
noncomputable abbrev rm_X9_sweep : Room := { frames := 5, cells := 0, slots := 0, locals := 115 }
section S_X9_sweep
variable {p : Program} {l : Launch} {e : Env} {s : State} {m : MethodId} {args : Array Value} {below : List Frame} {meth : Method} {c : Code} {dC : Nat → ClassId} {dI : Nat → Nat → Nat} {cI cC cZ cB cJ : ClassId} {A : Nat → Prop} {a_x xG xD wY wJ wQ xI xK xJ tW uE qU uJ uL uI xH tX jE mX pD oO oQ eG uS sW uR qY sY qT : Nat} {bZ bD bI aI : Int32} {wD gF pE qA nJ nY dQ : Nat → Int32} {jC eO eW dO fJ fY jD nG pG qB sH uP pQ mW : Int32} {oF : Nat → Int32} {post : Int32 → Int32 → Int32 → Int32 → Int32 → (Nat → Int32) → (Nat → Int32) → (Nat → Int32) → (Nat → Int32) → (Nat → Int32) → Int32 → (Nat → Int32) → Prop}
noncomputable def ws_X9_sweep_121 (post : Int32 → Int32 → Int32 → Int32 → Int32 → (Nat → Int32) → (Nat → Int32) → (Nat → Int32) → (Nat → Int32) → (Nat → Int32) → Int32 → (Nat → Int32) → Prop) (K37 : Int32 → Int32 → Int32 → Int32 → Int32 → Int32 → Int32 → Int32 → Int32 → (Nat → Int32) → (Nat → Int32) → (Nat → Int32) → (Nat → Int32) → (Nat → Int32) → Int32 → (Nat → Int32) → Prop) (bZ bD : Int32) (wD gF pE qA nJ nY dQ : Nat → Int32) (jC eO eW dO fJ fY jD pG : Int32) (oF : Nat → Int32) (x1 x2 x3 x4 x5 oX rJ pN rP : Int32) (rX rO vI qO qQ : Nat → Int32) (qF : Int32) (jJ : Nat → Int32) : Prop := ∀ v_12 : Int32, v_12 = x5 + 1 → K37 x1 x2 x3 x4 v_12 oX rJ pN rP rX rO vI qO qQ qF jJ
set_option maxHeartbeats 4000000 in
set_option maxRecDepth 100000 in
theorem ks_X9_sweep_121 (C0 : gc cX9_sweep (some .int) 8 RX9 (dC, dI) (tyl cI cC cZ cB cJ) A p s m args meth c) {K37 : Int32 → Int32 → Int32 → Int32 → Int32 → Int32 → Int32 → Int32 → Int32 → (Nat → Int32) → (Nat → Int32) → (Nat → Int32) → (Nat → Int32) → (Nat → Int32) → Int32 → (Nat → Int32) → Prop} (hK37 : ∀ (x1 : Int32) (x2 : Int32) (x3 : Int32) (x4 : Int32) (x5 : Int32) (oX : Int32) (rJ : Int32) (pN : Int32) (rP : Int32) (rX : Nat → Int32) (rO : Nat → Int32) (vI : Nat → Int32) (qO : Nat → Int32) (qQ : Nat → Int32) (qF : Int32) (jJ : Nat → Int32) (H : Heap) (locs : List Loc) (ls : Array Slot), K37 x1 x2 x3 x4 x5 oX rJ pN rP rX rO vI qO qQ qF jJ → va_P (dC, dI) classes (wd_X9_sweep cI cC cZ cB cJ a_x xG xD wY wJ wQ xI xK xJ tW uE qU uJ uL uI xH tX jE mX pD oO oQ eG uS sW uR qY sY qT oX rJ pN rP rX rO vI bZ bD bI aI wD gF pE qA nJ nY dQ jC eO eW dO fJ fY jD nG pG qB sH uP pQ mW qO qQ oF qF jJ) H → va_D A (wd_X9_sweep cI cC cZ cB cJ a_x xG xD wY wJ wQ xI xK xJ tW uE qU uJ uL uI xH tX jE mX pD oO oQ eG uS sW uR qY sY qT oX rJ pN rP rX rO vI bZ bD bI aI wD gF pE qA nJ nY dQ jC eO eW dO fJ fY jD nG pG qB sH uP pQ mW qO qQ oF qF jJ) → va_S A s.heap H locs → lv_has ls 8 [(0, .ref a_x), (1, .int x1), (2, .int x2), (3, .int x3), (4, .int x4), (5, .int x5)] → W p l e rm_X9_sweep s m args below meth c H locs 0 0 (MQ below (q_X9_sweep dC dI cI cC cZ cB cJ A a_x xG xD wY wJ wQ xI xK xJ tW uE qU uJ uL uI xH tX jE mX pD oO oQ eG uS sW uR qY sY qT bZ bD bI aI wD gF pE qA nJ nY dQ jC eO eW dO fJ fY jD nG pG qB sH uP pQ mW oF post) args s 0 0 A) (F0 m 37 ls [])) : ∀ (x1 x2 x3 x4 x5 oX rJ pN rP : Int32) (rX rO vI qO qQ : Nat → Int32) (qF : Int32) (jJ : Nat → Int32) (H : Heap) (locs : List Loc) (ls : Array Slot), (ws_X9_sweep_121 post K37 bZ bD wD gF pE qA nJ nY dQ jC eO eW dO fJ fY jD pG oF) x1 x2 x3 x4 x5 oX rJ pN rP rX rO vI qO qQ qF jJ → va_P (dC, dI) classes (wd_X9_sweep cI cC cZ cB cJ a_x xG xD wY wJ wQ xI xK xJ tW uE qU uJ uL uI xH tX jE mX pD oO oQ eG uS sW uR qY sY qT oX rJ pN rP rX rO vI bZ bD bI aI wD gF pE qA nJ nY dQ jC eO eW dO fJ fY jD nG pG qB sH uP pQ mW qO qQ oF qF jJ) H → va_D A (wd_X9_sweep cI cC cZ cB cJ a_x xG xD wY wJ wQ xI xK xJ tW uE qU uJ uL uI xH tX jE mX pD oO oQ eG uS sW uR qY sY qT oX rJ pN rP rX rO vI bZ bD bI aI wD gF pE qA nJ nY dQ jC eO eW dO fJ fY jD nG pG qB sH uP pQ mW qO qQ oF qF jJ) → va_S A s.heap H locs → lv_has ls 8 [(0, .ref a_x), (1, .int x1), (2, .int x2), (3, .int x3), (4, .int x4), (5, .int x5)] → W p l e rm_X9_sweep s m args below meth c H locs 0 0 (MQ below (q_X9_sweep dC dI cI cC cZ cB cJ A a_x xG xD wY wJ wQ xI xK xJ tW uE qU uJ uL uI xH tX jE mX pD oO oQ eG uS sW uR qY sY qT bZ bD bI aI wD gF pE qA nJ nY dQ jC eO eW dO fJ fY jD nG pG qB sH uP pQ mW oF post) args s 0 0 A) (F0 m 121 ls []) := by
  obtain ⟨hx, hb, hr, hml, hown, hts, hlocks, hA, hK, hN, tL, tM, hZL, hTL, hZM, hTM, hZX⟩ := id C0
  intro x1 x2 x3 x4 x5 oX rJ pN rP rX rO vI qO qQ qF jJ H locs ls hp hP hD hS hl
  unfold ws_X9_sweep_121 at hp
  obtain ⟨v_12, ev_12⟩ : ∃ y : Int32, y = x5 + 1 := ⟨_, rfl⟩
  refine lv_iinc (v := v_12) (lv' := [(5, .int v_12), (0, .ref a_x), (1, .int x1), (2, .int x2), (3, .int x3), (4, .int x4)]) hx hb eX9_sweep_95.2.2.2.2.2.2.2.2.2.2.2.2.2.1 hl (k := 5) rfl (by rw [ev_12]; rfl) (by decide) rfl (fun ls hl => ?_)
  have hp := hp v_12 ev_12
  refine lv_goto (tgt := 37) hx hb eX9_sweep_95.2.2.2.2.2.2.2.2.2.2.2.2.2.2.1 (by decide) ?_
  exact hK37 x1 x2 x3 x4 v_12 oX rJ pN rP rX rO vI qO qQ qF jJ H locs ls hp hP hD hS (lv_sub hl [1, 2, 3, 4, 5, 0] rfl)
noncomputable def ws_X9_sweep_111 (post : Int32 → Int32 → Int32 → Int32 → Int32 → (Nat → Int32) → (Nat → Int32) → (Nat → Int32) → (Nat → Int32) → (Nat → Int32) → Int32 → (Nat → Int32) → Prop) (K37 : Int32 → Int32 → Int32 → Int32 → Int32 → Int32 → Int32 → Int32 → Int32 → (Nat → Int32) → (Nat → Int32) → (Nat → Int32) → (Nat → Int32) → (Nat → Int32) → Int32 → (Nat → Int32) → Prop) (bZ bD : Int32) (wD gF pE qA nJ nY dQ : Nat → Int32) (jC eO eW dO fJ fY jD pG : Int32) (oF : Nat → Int32) (x1 x5 x6 x7 oX rJ pN rP : Int32) (rX rO vI qO qQ : Nat → Int32) (qF : Int32) (jJ : Nat → Int32) : Prop := ws_X9_sweep_121 post K37 bZ bD wD gF pE qA nJ nY dQ jC eO eW dO fJ fY jD pG oF x1 x5 x6 x7 x5 oX rJ pN rP rX rO vI qO qQ qF jJ
set_option maxHeartbeats 4000000 in
set_option maxRecDepth 100000 in
theorem ks_X9_sweep_111 (C0 : gc cX9_sweep (some .int) 8 RX9 (dC, dI) (tyl cI cC cZ cB cJ) A p s m args meth c) {K37 : Int32 → Int32 → Int32 → Int32 → Int32 → Int32 → Int32 → Int32 → Int32 → (Nat → Int32) → (Nat → Int32) → (Nat → Int32) → (Nat → Int32) → (Nat → Int32) → Int32 → (Nat → Int32) → Prop} (hK37 : ∀ (x1 : Int32) (x2 : Int32) (x3 : Int32) (x4 : Int32) (x5 : Int32) (oX : Int32) (rJ : Int32) (pN : Int32) (rP : Int32) (rX : Nat → Int32) (rO : Nat → Int32) (vI : Nat → Int32) (qO : Nat → Int32) (qQ : Nat → Int32) (qF : Int32) (jJ : Nat → Int32) (H : Heap) (locs : List Loc) (ls : Array Slot), K37 x1 x2 x3 x4 x5 oX rJ pN rP rX rO vI qO qQ qF jJ → va_P (dC, dI) classes (wd_X9_sweep cI cC cZ cB cJ a_x xG xD wY wJ wQ xI xK xJ tW uE qU uJ uL uI xH tX jE mX pD oO oQ eG uS sW uR qY sY qT oX rJ pN rP rX rO vI bZ bD bI aI wD gF pE qA nJ nY dQ jC eO eW dO fJ fY jD nG pG qB sH uP pQ mW qO qQ oF qF jJ) H → va_D A (wd_X9_sweep cI cC cZ cB cJ a_x xG xD wY wJ wQ xI xK xJ tW uE qU uJ uL uI xH tX jE mX pD oO oQ eG uS sW uR qY sY qT oX rJ pN rP rX rO vI bZ bD bI aI wD gF pE qA nJ nY dQ jC eO eW dO fJ fY jD nG pG qB sH uP pQ mW qO qQ oF qF jJ) → va_S A s.heap H locs → lv_has ls 8 [(0, .ref a_x), (1, .int x1), (2, .int x2), (3, .int x3), (4, .int x4), (5, .int x5)] → W p l e rm_X9_sweep s m args below meth c H locs 0 0 (MQ below (q_X9_sweep dC dI cI cC cZ cB cJ A a_x xG xD wY wJ wQ xI xK xJ tW uE qU uJ uL uI xH tX jE mX pD oO oQ eG uS sW uR qY sY qT bZ bD bI aI wD gF pE qA nJ nY dQ jC eO eW dO fJ fY jD nG pG qB sH uP pQ mW oF post) args s 0 0 A) (F0 m 37 ls [])) : ∀ (x1 x5 x6 x7 oX rJ pN rP : Int32) (rX rO vI qO qQ : Nat → Int32) (qF : Int32) (jJ : Nat → Int32) (H : Heap) (locs : List Loc) (ls : Array Slot), (ws_X9_sweep_111 post K37 bZ bD wD gF pE qA nJ nY dQ jC eO eW dO fJ fY jD pG oF) x1 x5 x6 x7 oX rJ pN rP rX rO vI qO qQ qF jJ → va_P (dC, dI) classes (wd_X9_sweep cI cC cZ cB cJ a_x xG xD wY wJ wQ xI xK xJ tW uE qU uJ uL uI xH tX jE mX pD oO oQ eG uS sW uR qY sY qT oX rJ pN rP rX rO vI bZ bD bI aI wD gF pE qA nJ nY dQ jC eO eW dO fJ fY jD nG pG qB sH uP pQ mW qO qQ oF qF jJ) H → va_D A (wd_X9_sweep cI cC cZ cB cJ a_x xG xD wY wJ wQ xI xK xJ tW uE qU uJ uL uI xH tX jE mX pD oO oQ eG uS sW uR qY sY qT oX rJ pN rP rX rO vI bZ bD bI aI wD gF pE qA nJ nY dQ jC eO eW dO fJ fY jD nG pG qB sH uP pQ mW qO qQ oF qF jJ) → va_S A s.heap H locs → lv_has ls 8 [(0, .ref a_x), (1, .int x1), (5, .int x5), (6, .int x6), (7, .int x7)] → W p l e rm_X9_sweep s m args below meth c H locs 0 0 (MQ below (q_X9_sweep dC dI cI cC cZ cB cJ A a_x xG xD wY wJ wQ xI xK xJ tW uE qU uJ uL uI xH tX jE mX pD oO oQ eG uS sW uR qY sY qT bZ bD bI aI wD gF pE qA nJ nY dQ jC eO eW dO fJ fY jD nG pG qB sH uP pQ mW oF post) args s 0 0 A) (F0 m 111 ls []) := by
  obtain ⟨hx, hb, hr, hml, hown, hts, hlocks, hA, hK, hN, tL, tM, hZL, hTL, hZM, hTM, hZX⟩ := id C0
  intro x1 x5 x6 x7 oX rJ pN rP rX rO vI qO qQ qF jJ H locs ls hp hP hD hS hl
  unfold ws_X9_sweep_111 at hp
  refine lv_iload hx hb eX9_sweep_95.2.2.2.2.2.2.2.1 (lv_at hl 2 rfl) ?_
  refine lv_istore_n (lv' := [(2, .int x5), (0, .ref a_x), (1, .int x1), (5, .int x5), (6, .int x6), (7, .int x7)]) hx hb eX9_sweep_95.2.2.2.2.2.2.2.2.1 rfl hl (by decide) rfl (fun ls hl => ?_)
  refine lv_iload hx hb eX9_sweep_95.2.2.2.2.2.2.2.2.2.1 (lv_at hl 4 rfl) ?_
  refine lv_istore_n (lv' := [(3, .int x6), (2, .int x5), (0, .ref a_x), (1, .int x1), (5, .int x5), (6, .int x6), (7, .int x7)]) hx hb eX9_sweep_95.2.2.2.2.2.2.2.2.2.2.1 rfl hl (by decide) rfl (fun ls hl => ?_)
  refine lv_iload hx hb eX9_sweep_95.2.2.2.2.2.2.2.2.2.2.2.1 (lv_at hl 6 rfl) ?_
  refine lv_istore (lv' := [(4, .int x7), (3, .int x6), (2, .int x5), (0, .ref a_x), (1, .int x1), (5, .int x5), (6, .int x6), (7, .int x7)]) hx hb eX9_sweep_95.2.2.2.2.2.2.2.2.2.2.2.2.1 hl (by decide) rfl (fun ls hl => ?_)
  exact ks_X9_sweep_121 C0 hK37 x1 x5 x6 x7 x5 oX rJ pN rP rX rO vI qO qQ qF jJ H locs ls hp hP hD hS (lv_sub hl [3, 4, 2, 1, 0, 5] rfl)
noncomputable def ws_X9_sweep_37 (post : Int32 → Int32 → Int32 → Int32 → Int32 → (Nat → Int32) → (Nat → Int32) → (Nat → Int32) → (Nat → Int32) → (Nat → Int32) → Int32 → (Nat → Int32) → Prop) (next : Int32 → Int32 → Int32 → Int32 → Int32 → Int32 → Int32 → Int32 → Int32 → (Nat → Int32) → (Nat → Int32) → (Nat → Int32) → (Nat → Int32) → (Nat → Int32) → Int32 → (Nat → Int32) → Prop) (bZ bD : Int32) (wD gF pE qA nJ nY dQ : Nat → Int32) (jC eO eW dO fJ fY jD pG : Int32) (oF : Nat → Int32) (x1 x2 x3 x4 x5 oX rJ pN rP : Int32) (rX rO vI qO qQ : Nat → Int32) (qF : Int32) (jJ : Nat → Int32) : Prop := wp_X3_allStandings (fun r_6 => (r_6 < x5 → wp_X9_tell_ (fun aBn aAp => post x3 oX rJ pN rP rX rO vI qO qQ aBn aAp) x2 x4 qF jJ) ∧ (¬ r_6 < x5 → wp_X5_reachedBy (fun r_9 => ∀ v_10 : Int32, v_10 = oX &&& r_9 → wp_X0_worthOf (fun r_11 => (r_11 < x3 → ws_X9_sweep_121 post next bZ bD wD gF pE qA nJ nY dQ jC eO eW dO fJ fY jD pG oF x1 x2 x3 x4 x5 oX rJ pN rP rX rO vI qO qQ qF jJ) ∧ (¬ r_11 < x3 → wp_X5_workSeconds (fun r_13 aDD aBZ aDE aF6 => (x1 < r_13 → ws_X9_sweep_121 post next bZ bD wD gF pE qA nJ nY dQ jC eO eW dO fJ fY jD pG oF x1 x2 x3 x4 x5 oX aDD aBZ aDE rX rO aF6 qO qQ qF jJ) ∧ (¬ x1 < r_13 → (x3 < r_11 → ws_X9_sweep_111 post next bZ bD wD gF pE qA nJ nY dQ jC eO eW dO fJ fY jD pG oF x1 x5 r_11 r_13 oX aDD aBZ aDE rX rO aF6 qO qQ qF jJ) ∧ (¬ x3 < r_11 → (x4 ≤ r_13 → ws_X9_sweep_121 post next bZ bD wD gF pE qA nJ nY dQ jC eO eW dO fJ fY jD pG oF x1 x2 x3 x4 x5 oX aDD aBZ aDE rX rO aF6 qO qQ qF jJ) ∧ (¬ x4 ≤ r_13 → ws_X9_sweep_111 post next bZ bD wD gF pE qA nJ nY dQ jC eO eW dO fJ fY jD pG oF x1 x5 r_11 r_13 oX aDD aBZ aDE rX rO aF6 qO qQ qF jJ)))) x5 oX rJ pN rP rX rO vI bZ bD nJ nY dQ fJ)) v_10 bZ pE dO) x5 rX bD)) bD
noncomputable def wb_X9_sweep_37 (post : Int32 → Int32 → Int32 → Int32 → Int32 → (Nat → Int32) → (Nat → Int32) → (Nat → Int32) → (Nat → Int32) → (Nat → Int32) → Int32 → (Nat → Int32) → Prop) (bZ bD : Int32) (wD gF pE qA nJ nY dQ : Nat → Int32) (jC eO eW dO fJ fY jD pG : Int32) (oF : Nat → Int32) : Nat → Int32 → Int32 → Int32 → Int32 → Int32 → Int32 → Int32 → Int32 → Int32 → (Nat → Int32) → (Nat → Int32) → (Nat → Int32) → (Nat → Int32) → (Nat → Int32) → Int32 → (Nat → Int32) → Prop := fun n => Nat.rec (motive := fun _ => Int32 → Int32 → Int32 → Int32 → Int32 → Int32 → Int32 → Int32 → Int32 → (Nat → Int32) → (Nat → Int32) → (Nat → Int32) → (Nat → Int32) → (Nat → Int32) → Int32 → (Nat → Int32) → Prop) (fun _ _ _ _ _ _ _ _ _ _ _ _ _ _ _ _ => False) (fun _ ih => ws_X9_sweep_37 post ih bZ bD wD gF pE qA nJ nY dQ jC eO eW dO fJ fY jD pG oF) n
set_option maxHeartbeats 4000000 in
set_option maxRecDepth 100000 in
theorem ks_X9_sweep_37 (C0 : gc cX9_sweep (some .int) 8 RX9 (dC, dI) (tyl cI cC cZ cB cJ) A p s m args meth c) {next : Int32 → Int32 → Int32 → Int32 → Int32 → Int32 → Int32 → Int32 → Int32 → (Nat → Int32) → (Nat → Int32) → (Nat → Int32) → (Nat → Int32) → (Nat → Int32) → Int32 → (Nat → Int32) → Prop} (hKn : ∀ (x1 : Int32) (x2 : Int32) (x3 : Int32) (x4 : Int32) (x5 : Int32) (oX : Int32) (rJ : Int32) (pN : Int32) (rP : Int32) (rX : Nat → Int32) (rO : Nat → Int32) (vI : Nat → Int32) (qO : Nat → Int32) (qQ : Nat → Int32) (qF : Int32) (jJ : Nat → Int32) (H : Heap) (locs : List Loc) (ls : Array Slot), next x1 x2 x3 x4 x5 oX rJ pN rP rX rO vI qO qQ qF jJ → va_P (dC, dI) classes (wd_X9_sweep cI cC cZ cB cJ a_x xG xD wY wJ wQ xI xK xJ tW uE qU uJ uL uI xH tX jE mX pD oO oQ eG uS sW uR qY sY qT oX rJ pN rP rX rO vI bZ bD bI aI wD gF pE qA nJ nY dQ jC eO eW dO fJ fY jD nG pG qB sH uP pQ mW qO qQ oF qF jJ) H → va_D A (wd_X9_sweep cI cC cZ cB cJ a_x xG xD wY wJ wQ xI xK xJ tW uE qU uJ uL uI xH tX jE mX pD oO oQ eG uS sW uR qY sY qT oX rJ pN rP rX rO vI bZ bD bI aI wD gF pE qA nJ nY dQ jC eO eW dO fJ fY jD nG pG qB sH uP pQ mW qO qQ oF qF jJ) → va_S A s.heap H locs → lv_has ls 8 [(0, .ref a_x), (1, .int x1), (2, .int x2), (3, .int x3), (4, .int x4), (5, .int x5)] → W p l e rm_X9_sweep s m args below meth c H locs 0 0 (MQ below (q_X9_sweep dC dI cI cC cZ cB cJ A a_x xG xD wY wJ wQ xI xK xJ tW uE qU uJ uL uI xH tX jE mX pD oO oQ eG uS sW uR qY sY qT bZ bD bI aI wD gF pE qA nJ nY dQ jC eO eW dO fJ fY jD nG pG qB sH uP pQ mW oF post) args s 0 0 A) (F0 m 37 ls [])) : ∀ (x1 x2 x3 x4 x5 oX rJ pN rP : Int32) (rX rO vI qO qQ : Nat → Int32) (qF : Int32) (jJ : Nat → Int32) (H : Heap) (locs : List Loc) (ls : Array Slot), (ws_X9_sweep_37 post next bZ bD wD gF pE qA nJ nY dQ jC eO eW dO fJ fY jD pG oF) x1 x2 x3 x4 x5 oX rJ pN rP rX rO vI qO qQ qF jJ → va_P (dC, dI) classes (wd_X9_sweep cI cC cZ cB cJ a_x xG xD wY wJ wQ xI xK xJ tW uE qU uJ uL uI xH tX jE mX pD oO oQ eG uS sW uR qY sY qT oX rJ pN rP rX rO vI bZ bD bI aI wD gF pE qA nJ nY dQ jC eO eW dO fJ fY jD nG pG qB sH uP pQ mW qO qQ oF qF jJ) H → va_D A (wd_X9_sweep cI cC cZ cB cJ a_x xG xD wY wJ wQ xI xK xJ tW uE qU uJ uL uI xH tX jE mX pD oO oQ eG uS sW uR qY sY qT oX rJ pN rP rX rO vI bZ bD bI aI wD gF pE qA nJ nY dQ jC eO eW dO fJ fY jD nG pG qB sH uP pQ mW qO qQ oF qF jJ) → va_S A s.heap H locs → lv_has ls 8 [(0, .ref a_x), (1, .int x1), (2, .int x2), (3, .int x3), (4, .int x4), (5, .int x5)] → W p l e rm_X9_sweep s m args below meth c H locs 0 0 (MQ below (q_X9_sweep dC dI cI cC cZ cB cJ A a_x xG xD wY wJ wQ xI xK xJ tW uE qU uJ uL uI xH tX jE mX pD oO oQ eG uS sW uR qY sY qT bZ bD bI aI wD gF pE qA nJ nY dQ jC eO eW dO fJ fY jD nG pG qB sH uP pQ mW oF post) args s 0 0 A) (F0 m 37 ls []) := by
  obtain ⟨hx, hb, hr, hml, hown, hts, hlocks, hA, hK, hN, tL, tM, hZL, hTL, hZM, hTM, hZX⟩ := id C0
  intro x1 x2 x3 x4 x5 oX rJ pN rP rX rO vI qO qQ qF jJ H locs ls hp hP hD hS hl
  unfold ws_X9_sweep_37 at hp
  refine lv_iload hx hb eX9_sweep_30.2.2.2.2.2.1 (lv_at hl 5 rfl) ?_
  refine lv_aload_n hx hb eX9_sweep_30.2.2.2.2.2.2.1 rfl (lv_at hl 0 rfl) ?_
  refine va_get (D := (dC, dI)) (ci := 9) (v := .ref wJ) (C := RX9) (T := TX9) (N := 9) hx hb hts i_X9 hown hK hP 0 rfl rfl 3 (Nat.le_of_ble_eq_true rfl) (hts _ q_74) (fun _ h9 => h9) rfl eX9_sweep_30.2.2.2.2.2.2.2.1 ?_
  have hm := mgk (wc := (wd_X3_allStandings cI cC cZ cB cJ wJ tX jE mX pD oO oQ eG bZ bD bI aI)) hP mk_142 21 rfl rfl rfl
  refine g_calli hP hD hS hA (mixT mk_142) (mixF mk_142) hm.1 hm.2 (nd_F _) (dis_g _) (g_runV (As := []) (rest := [.int x5]) C0 hP hD hS (mixT mk_142) hm.1 (nd_T _) 6 3 rfl rfl (c_X3_allStandings l dC dI cI cC cZ cB cJ wJ tX jE mX pD oO oQ eG H.size bZ bD bI aI _ hp) q_426 q_463 q_427 q_428 q_48 h_X3_allStandings rfl rfl ⟨Nat.le_of_ble_eq_true rfl, Nat.le_of_ble_eq_true rfl⟩ rfl rfl hl.1 rfl (lv_room (Nat.le_of_ble_eq_true rfl)) eX9_sweep_30.2.2.2.2.2.2.2.2.1 ⟨Nat.zero_le _, Nat.zero_le _⟩) (fun r_6 u H locs hp hP hD hS => ?_)
  have hPD := PDm (ws' := (wd_X9_sweep cI cC cZ cB cJ a_x xG xD wY wJ wQ xI xK xJ tW uE qU uJ uL uI xH tX jE mX pD oO oQ eG uS sW uR qY sY qT oX rJ pN rP rX rO vI bZ bD bI aI wD gF pE qA nJ nY dQ jC eO eW dO fJ fY jD nG pG qB sH uP pQ mW qO qQ oF qF jJ)) hP hD 21 rfl rfl rfl
  have hP := hPD.1
  have hD := hPD.2
  refine lv_icmp_gt (tgt := 127) hx hb eX9_sweep_30.2.2.2.2.2.2.2.2.2.1 (by decide) (fun hc => ?_) (fun hc => ?_)
  · have hp := hp.1 hc
    refine lv_aload_n hx hb eX9_sweep_95.2.2.2.2.2.2.2.2.2.2.2.2.2.2.2 rfl (lv_at hl 0 rfl) ?_
    refine lv_iload_n hx hb eX9_sweep_128.1 rfl (lv_at hl 2 rfl) ?_
    refine lv_iload hx hb eX9_sweep_128.2.1 (lv_at hl 4 rfl) ?_
    have hm := mgk (wc := (wd_X9_tell_ cI cC cZ cB cJ a_x xG xD wY wJ wQ xI xK xJ tW qT qF jJ)) hP mk_146 21 rfl rfl rfl
    refine g_callv hP hD hS hA (mixT mk_146) (mixF mk_146) hm.1 hm.2 (nd_F _) (dis_g _) (g_runV (As := [.int x2, .int x4]) (rest := []) C0 hP hD hS (mixT mk_146) hm.1 (nd_T _) 0 9 rfl rfl (c_X9_tell_ l dC dI cI cC cZ cB cJ a_x xG xD wY wJ wQ xI xK xJ tW qT H.size x2 x4 qF jJ _ hp) q_377 q_380 q_378 q_379 q_256 h_X9_tell_ rfl rfl ⟨Nat.le_of_ble_eq_true rfl, Nat.le_of_ble_eq_true rfl⟩ rfl rfl hl.1 rfl (lv_room (Nat.le_of_ble_eq_true rfl)) eX9_sweep_128.2.2.1 ⟨Nat.zero_le _, Nat.zero_le _⟩) (fun u H locs hp hP hD hS => ?_)
    obtain ⟨aBn, aAp⟩ := u
    have hPD := PDm (ws' := (wd_X9_sweep cI cC cZ cB cJ a_x xG xD wY wJ wQ xI xK xJ tW uE qU uJ uL uI xH tX jE mX pD oO oQ eG uS sW uR qY sY qT oX rJ pN rP rX rO vI bZ bD bI aI wD gF pE qA nJ nY dQ jC eO eW dO fJ fY jD nG pG qB sH uP pQ mW qO qQ oF aBn aAp)) hP hD 21 rfl rfl rfl
    have hP := hPD.1
    have hD := hPD.2
    refine lv_iload_n hx hb eX9_sweep_128.2.2.2.1 rfl (lv_at hl 3 rfl) ?_
    exact W.iret (v := x3) hx hb hr (fun t ht hW => ⟨⟨x3, (oX, rJ, pN, rP, rX, rO, vI, qO, qQ, aBn, aAp), rfl, hp, by rw [ht]; exact hP, va_K.moved hW.alike hK, hD⟩, hS.F ht⟩) hS.2.2 eX9_sweep_128.2.2.2.2
  · have hp := hp.2 hc
    refine lv_aload_n hx hb eX9_sweep_30.2.2.2.2.2.2.2.2.2.2.1 rfl (lv_at hl 0 rfl) ?_
    refine va_get (D := (dC, dI)) (ci := 9) (v := .ref wY) (C := RX9) (T := TX9) (N := 9) hx hb hts i_X9 hown hK hP 0 rfl rfl 2 (Nat.le_of_ble_eq_true rfl) (hts _ q_146) (fun _ h9 => h9) rfl eX9_sweep_30.2.2.2.2.2.2.2.2.2.2.2.1 ?_
    refine lv_aload_n hx hb eX9_sweep_30.2.2.2.2.2.2.2.2.2.2.2.2.1 rfl (lv_at hl 0 rfl) ?_
    refine va_get (D := (dC, dI)) (ci := 9) (v := .ref xD) (C := RX9) (T := TX9) (N := 9) hx hb hts i_X9 hown hK hP 0 rfl rfl 1 (Nat.le_of_ble_eq_true rfl) (hts _ q_444) (fun _ h9 => h9) rfl eX9_sweep_30.2.2.2.2.2.2.2.2.2.2.2.2.2.1 ?_
    refine va_get (D := (dC, dI)) (ci := 5) (v := .int oX) (C := RX5) (T := TX5) (N := 11) hx hb hts i_X5 hown hK hP 1 rfl rfl 7 (Nat.le_of_ble_eq_true rfl) (hts _ q_462) (fun _ h9 => h9) rfl eX9_sweep_30.2.2.2.2.2.2.2.2.2.2.2.2.2.2.1 ?_
    refine lv_aload_n hx hb eX9_sweep_30.2.2.2.2.2.2.2.2.2.2.2.2.2.2.2 rfl (lv_at hl 0 rfl) ?_
    refine va_get (D := (dC, dI)) (ci := 9) (v := .ref xD) (C := RX9) (T := TX9) (N := 9) hx hb hts i_X9 hown hK hP 0 rfl rfl 1 (Nat.le_of_ble_eq_true rfl) (hts _ q_444) (fun _ h9 => h9) rfl eX9_sweep_61.1 ?_
    refine lv_iload hx hb eX9_sweep_61.2.1 (lv_at hl 5 rfl) ?_
    have hm := mgk (wc := (wd_X5_reachedBy cI cC cZ cB cJ xD wY wJ uE qU uJ uL uI tX jE mX pD oO oQ eG oX rJ pN rP rX bZ bD bI aI)) hP mk_147 21 rfl rfl rfl
    refine g_calli hP hD hS hA (mixT mk_147) (mixF mk_147) hm.1 hm.2 (nd_F _) (dis_g _) (g_runV (As := [.int x5]) (rest := [.int oX, .ref wY]) C0 hP hD hS (mixT mk_147) hm.1 (nd_T _) 1 5 rfl rfl (c_X5_reachedBy l dC dI cI cC cZ cB cJ xD wY wJ uE qU uJ uL uI tX jE mX pD oO oQ eG H.size x5 oX rJ pN rP rX bZ bD bI aI _ hp) q_430 q_472 q_432 q_433 q_431 h_X5_reachedBy rfl rfl ⟨Nat.le_of_ble_eq_true rfl, Nat.le_of_ble_eq_true rfl⟩ rfl rfl hl.1 rfl (lv_room (Nat.le_of_ble_eq_true rfl)) eX9_sweep_61.2.2.1 ⟨Nat.zero_le _, Nat.zero_le _⟩) (fun r_9 u H locs hp hP hD hS => ?_)
    have hPD := PDm (ws' := (wd_X9_sweep cI cC cZ cB cJ a_x xG xD wY wJ wQ xI xK xJ tW uE qU uJ uL uI xH tX jE mX pD oO oQ eG uS sW uR qY sY qT oX rJ pN rP rX rO vI bZ bD bI aI wD gF pE qA nJ nY dQ jC eO eW dO fJ fY jD nG pG qB sH uP pQ mW qO qQ oF qF jJ)) hP hD 21 rfl rfl rfl
    have hP := hPD.1
    have hD := hPD.2
    refine lv_iand hx hb eX9_sweep_61.2.2.2.1 ?_
    refine lv_topi (fun v_10 ev_10 => ?_)
    have hp := hp v_10 ev_10
    have hm := mgk (wc := (wd_X0_worthOf cI cC cZ cB cJ wY wJ wQ xH tX jE mX pD oO oQ eG bZ bD bI aI pE jC eO eW dO fJ fY jD nG)) hP mk_162 21 rfl rfl rfl
    refine g_calli hP hD hS hA (mixT mk_162) (mixF mk_162) hm.1 hm.2 (nd_F _) (dis_g _) (g_runV (As := [.int v_10]) (rest := []) C0 hP hD hS (mixT mk_162) hm.1 (nd_T _) 5 0 rfl rfl (c_X0_worthOf l dC dI cI cC cZ cB cJ wY wJ wQ xH tX jE mX pD oO oQ eG H.size v_10 bZ bD bI aI pE jC eO eW dO fJ fY jD nG _ hp) q_297 q_417 q_298 q_299 q_187 h_X0_worthOf rfl rfl ⟨Nat.le_of_ble_eq_true rfl, Nat.le_of_ble_eq_true rfl⟩ rfl rfl hl.1 rfl (lv_room (Nat.le_of_ble_eq_true rfl)) eX9_sweep_61.2.2.2.2.1 ⟨Nat.zero_le _, Nat.zero_le _⟩) (fun r_11 u H locs hp hP hD hS => ?_)
    have hPD := PDm (ws' := (wd_X9_sweep cI cC cZ cB cJ a_x xG xD wY wJ wQ xI xK xJ tW uE qU uJ uL uI xH tX jE mX pD oO oQ eG uS sW uR qY sY qT oX rJ pN rP rX rO vI bZ bD bI aI wD gF pE qA nJ nY dQ jC eO eW dO fJ fY jD nG pG qB sH uP pQ mW qO qQ oF qF jJ)) hP hD 21 rfl rfl rfl
    have hP := hPD.1
    have hD := hPD.2
    refine lv_istore (lv' := [(6, .int r_11), (0, .ref a_x), (1, .int x1), (2, .int x2), (3, .int x3), (4, .int x4), (5, .int x5)]) hx hb eX9_sweep_61.2.2.2.2.2.1 hl (by decide) rfl (fun ls hl => ?_)
    refine lv_iload hx hb eX9_sweep_61.2.2.2.2.2.2.1 (lv_at hl 0 rfl) ?_
    refine lv_iload_n hx hb eX9_sweep_61.2.2.2.2.2.2.2.1 rfl (lv_at hl 4 rfl) ?_
    refine lv_icmp_lt (tgt := 121) hx hb eX9_sweep_61.2.2.2.2.2.2.2.2.1 (by decide) (fun hc => ?_) (fun hc => ?_)
    · have hp := hp.1 hc
      exact ks_X9_sweep_121 C0 hKn x1 x2 x3 x4 x5 oX rJ pN rP rX rO vI qO qQ qF jJ H locs ls hp hP hD hS (lv_sub hl [1, 2, 3, 4, 5, 6] rfl)
    · have hp := hp.2 hc
      refine lv_aload_n hx hb eX9_sweep_61.2.2.2.2.2.2.2.2.2.1 rfl (lv_at hl 1 rfl) ?_
      refine va_get (D := (dC, dI)) (ci := 9) (v := .ref xD) (C := RX9) (T := TX9) (N := 9) hx hb hts i_X9 hown hK hP 0 rfl rfl 1 (Nat.le_of_ble_eq_true rfl) (hts _ q_444) (fun _ h9 => h9) rfl eX9_sweep_61.2.2.2.2.2.2.2.2.2.2.1 ?_
      refine lv_iload hx hb eX9_sweep_61.2.2.2.2.2.2.2.2.2.2.2.1 (lv_at hl 6 rfl) ?_
      have hm := mgk (wc := (wd_X5_workSeconds cI cC cZ cB cJ xD wY wJ uE qU uJ uL uI wQ xH tX jE mX pD oO oQ eG oX rJ pN rP rX rO vI bZ bD bI aI nJ nY dQ jC eO eW dO fJ fY jD nG)) hP mk_145 21 rfl rfl rfl
      refine g_calli hP hD hS hA (mixT mk_145) (mixF mk_145) hm.1 hm.2 (nd_F _) (dis_g _) (g_runV (As := [.int x5]) (rest := []) C0 hP hD hS (mixT mk_145) hm.1 (nd_T _) 1 5 rfl rfl (c_X5_workSeconds l dC dI cI cC cZ cB cJ xD wY wJ uE qU uJ uL uI wQ xH tX jE mX pD oO oQ eG H.size x5 oX rJ pN rP rX rO vI bZ bD bI aI nJ nY dQ jC eO eW dO fJ fY jD nG _ hp) q_528 q_531 q_529 q_530 q_431 h_X5_workSeconds rfl rfl ⟨Nat.le_of_ble_eq_true rfl, Nat.le_of_ble_eq_true rfl⟩ rfl rfl hl.1 rfl (lv_room (Nat.le_of_ble_eq_true rfl)) eX9_sweep_61.2.2.2.2.2.2.2.2.2.2.2.2.1 ⟨Nat.zero_le _, Nat.zero_le _⟩) (fun r_13 u H locs hp hP hD hS => ?_)
      obtain ⟨aDD, aBZ, aDE, aF6⟩ := u
      have hPD := PDm (ws' := (wd_X9_sweep cI cC cZ cB cJ a_x xG xD wY wJ wQ xI xK xJ tW uE qU uJ uL uI xH tX jE mX pD oO oQ eG uS sW uR qY sY qT oX aDD aBZ aDE rX rO aF6 bZ bD bI aI wD gF pE qA nJ nY dQ jC eO eW dO fJ fY jD nG pG qB sH uP pQ mW qO qQ oF qF jJ)) hP hD 21 rfl rfl rfl
      have hP := hPD.1
      have hD := hPD.2
      refine lv_istore (lv' := [(7, .int r_13), (6, .int r_11), (0, .ref a_x), (1, .int x1), (2, .int x2), (3, .int x3), (4, .int x4), (5, .int x5)]) hx hb eX9_sweep_61.2.2.2.2.2.2.2.2.2.2.2.2.2.1 hl (by decide) rfl (fun ls hl => ?_)
      refine lv_iload hx hb eX9_sweep_61.2.2.2.2.2.2.2.2.2.2.2.2.2.2.1 (lv_at hl 0 rfl) ?_
      refine lv_iload_n hx hb eX9_sweep_61.2.2.2.2.2.2.2.2.2.2.2.2.2.2.2 rfl (lv_at hl 3 rfl) ?_
      refine lv_icmp_gt (tgt := 121) hx hb eX9_sweep_95.1 (by decide) (fun hc => ?_) (fun hc => ?_)
      · have hp := hp.1 hc
        exact ks_X9_sweep_121 C0 hKn x1 x2 x3 x4 x5 oX aDD aBZ aDE rX rO aF6 qO qQ qF jJ H locs ls hp hP hD hS (lv_sub hl [2, 3, 4, 5, 6, 7] rfl)
      · have hp := hp.2 hc
        refine lv_iload hx hb eX9_sweep_95.2.1 (lv_at hl 1 rfl) ?_
        refine lv_iload_n hx hb eX9_sweep_95.2.2.1 rfl (lv_at hl 5 rfl) ?_
        refine lv_icmp_gt (tgt := 111) hx hb eX9_sweep_95.2.2.2.1 (by decide) (fun hc => ?_) (fun hc => ?_)
        · have hp := hp.1 hc
          exact ks_X9_sweep_111 C0 hKn x1 x5 r_11 r_13 oX aDD aBZ aDE rX rO aF6 qO qQ qF jJ H locs ls hp hP hD hS (lv_sub hl [2, 3, 7, 1, 0] rfl)
        · have hp := hp.2 hc
          refine lv_iload hx hb eX9_sweep_95.2.2.2.2.1 (lv_at hl 0 rfl) ?_
          refine lv_iload hx hb eX9_sweep_95.2.2.2.2.2.1 (lv_at hl 6 rfl) ?_
          refine lv_icmp_ge (tgt := 121) hx hb eX9_sweep_95.2.2.2.2.2.2.1 (by decide) (fun hc => ?_) (fun hc => ?_)
          · have hp := hp.1 hc
            exact ks_X9_sweep_121 C0 hKn x1 x2 x3 x4 x5 oX aDD aBZ aDE rX rO aF6 qO qQ qF jJ H locs ls hp hP hD hS (lv_sub hl [2, 3, 4, 5, 6, 7] rfl)
          · have hp := hp.2 hc
            exact ks_X9_sweep_111 C0 hKn x1 x5 r_11 r_13 oX aDD aBZ aDE rX rO aF6 qO qQ qF jJ H locs ls hp hP hD hS (lv_sub hl [2, 3, 7, 1, 0] rfl)
set_option maxHeartbeats 4000000 in
set_option maxRecDepth 100000 in
theorem kb_X9_sweep_37 (C0 : gc cX9_sweep (some .int) 8 RX9 (dC, dI) (tyl cI cC cZ cB cJ) A p s m args meth c) : ∀ (n : Nat), ∀ (x1 x2 x3 x4 x5 oX rJ pN rP : Int32) (rX rO vI qO qQ : Nat → Int32) (qF : Int32) (jJ : Nat → Int32) (H : Heap) (locs : List Loc) (ls : Array Slot), (wb_X9_sweep_37 post bZ bD wD gF pE qA nJ nY dQ jC eO eW dO fJ fY jD pG oF n) x1 x2 x3 x4 x5 oX rJ pN rP rX rO vI qO qQ qF jJ → va_P (dC, dI) classes (wd_X9_sweep cI cC cZ cB cJ a_x xG xD wY wJ wQ xI xK xJ tW uE qU uJ uL uI xH tX jE mX pD oO oQ eG uS sW uR qY sY qT oX rJ pN rP rX rO vI bZ bD bI aI wD gF pE qA nJ nY dQ jC eO eW dO fJ fY jD nG pG qB sH uP pQ mW qO qQ oF qF jJ) H → va_D A (wd_X9_sweep cI cC cZ cB cJ a_x xG xD wY wJ wQ xI xK xJ tW uE qU uJ uL uI xH tX jE mX pD oO oQ eG uS sW uR qY sY qT oX rJ pN rP rX rO vI bZ bD bI aI wD gF pE qA nJ nY dQ jC eO eW dO fJ fY jD nG pG qB sH uP pQ mW qO qQ oF qF jJ) → va_S A s.heap H locs → lv_has ls 8 [(0, .ref a_x), (1, .int x1), (2, .int x2), (3, .int x3), (4, .int x4), (5, .int x5)] → W p l e rm_X9_sweep s m args below meth c H locs 0 0 (MQ below (q_X9_sweep dC dI cI cC cZ cB cJ A a_x xG xD wY wJ wQ xI xK xJ tW uE qU uJ uL uI xH tX jE mX pD oO oQ eG uS sW uR qY sY qT bZ bD bI aI wD gF pE qA nJ nY dQ jC eO eW dO fJ fY jD nG pG qB sH uP pQ mW oF post) args s 0 0 A) (F0 m 37 ls []) := by
  intro n
  induction n with
  | zero =>
    intro x1 x2 x3 x4 x5 oX rJ pN rP rX rO vI qO qQ qF jJ H locs ls hp
    exact False.elim hp
  | succ n ih =>
    intro x1 x2 x3 x4 x5 oX rJ pN rP rX rO vI qO qQ qF jJ H locs ls hp
    exact ks_X9_sweep_37 C0 ih x1 x2 x3 x4 x5 oX rJ pN rP rX rO vI qO qQ qF jJ H locs ls hp
end S_X9_sweep
noncomputable def wp_X9_sweep (post : Int32 → Int32 → Int32 → Int32 → Int32 → (Nat → Int32) → (Nat → Int32) → (Nat → Int32) → (Nat → Int32) → (Nat → Int32) → Int32 → (Nat → Int32) → Prop) (p0 oX rJ pN rP : Int32) (rX rO vI : Nat → Int32) (bZ bD : Int32) (wD gF pE qA nJ nY dQ : Nat → Int32) (jC eO eW dO fJ fY jD pG : Int32) (qO qQ oF : Nat → Int32) (qF : Int32) (jJ : Nat → Int32) : Prop := (p0 < 0 → post (-1) oX rJ pN rP rX rO vI qO qQ qF jJ) ∧ (¬ p0 < 0 → (p0 ≤ 9999 → wp_X5_look (fun xM xQ => wp_X5_timeAll (fun aBd aEw aEx => ∃ n : Nat, wb_X9_sweep_37 post bZ bD wD gF pE qA nJ nY dQ jC eO eW dO fJ fY jD pG oF n p0 0 0 0 1 xM rJ pN rP xQ aBd vI aEw aEx qF jJ) xM xQ rO bZ bD wD gF pE nJ nY dO pG qO qQ oF) oX rX bZ bD wD gF qA nJ nY dQ jC eO eW fY jD) ∧ (¬ p0 ≤ 9999 → post (-1) oX rJ pN rP rX rO vI qO qQ qF jJ))
set_option maxHeartbeats 4000000 in
set_option maxRecDepth 100000 in
theorem c_X9_sweep (l : Launch) (dC : Nat → ClassId) (dI : Nat → Nat → Nat) (cI cC cZ cB cJ : ClassId) (a_x xG xD wY wJ wQ xI xK xJ tW uE qU uJ uL uI xH tX jE mX pD oO oQ eG uS sW uR qY sY qT sz : Nat) (p0 oX rJ pN rP : Int32) (rX rO vI : Nat → Int32) (bZ bD bI aI : Int32) (wD gF pE qA nJ nY dQ : Nat → Int32) (jC eO eW dO fJ fY jD nG pG qB sH uP pQ mW : Int32) (qO qQ oF : Nat → Int32) (qF : Int32) (jJ : Nat → Int32) (post : Int32 → Int32 → Int32 → Int32 → Int32 → (Nat → Int32) → (Nat → Int32) → (Nat → Int32) → (Nat → Int32) → (Nat → Int32) → Int32 → (Nat → Int32) → Prop) (hw : wp_X9_sweep post p0 oX rJ pN rP rX rO vI bZ bD wD gF pE qA nJ nY dQ jC eO eW dO fJ fY jD pG qO qQ oF qF jJ) : Met l yX9_sweep (gw yX9_sweep cX9_sweep 8 (some .int)) rm_X9_sweep (va_Pc [.ref a_x, .int p0] (gPre (dC, dI) (tyl cI cC cZ cB cJ) (wd_X9_sweep cI cC cZ cB cJ a_x xG xD wY wJ wQ xI xK xJ tW uE qU uJ uL uI xH tX jE mX pD oO oQ eG uS sW uR qY sY qT oX rJ pN rP rX rO vI bZ bD bI aI wD gF pE qA nJ nY dQ jC eO eW dO fJ fY jD nG pG qB sH uP pQ mW qO qQ oF qF jJ) sz)) (q_X9_sweep dC dI cI cC cZ cB cJ (va_A (wd_X9_sweep cI cC cZ cB cJ a_x xG xD wY wJ wQ xI xK xJ tW uE qU uJ uL uI xH tX jE mX pD oO oQ eG uS sW uR qY sY qT oX rJ pN rP rX rO vI bZ bD bI aI wD gF pE qA nJ nY dQ jC eO eW dO fJ fY jD nG pG qB sH uP pQ mW qO qQ oF qF jJ) sz) a_x xG xD wY wJ wQ xI xK xJ tW uE qU uJ uL uI xH tX jE mX pD oO oQ eG uS sW uR qY sY qT bZ bD bI aI wD gF pE qA nJ nY dQ jC eO eW dO fJ fY jD nG pG qB sH uP pQ mW oF post) 0 0 (va_A (wd_X9_sweep cI cC cZ cB cJ a_x xG xD wY wJ wQ xI xK xJ tW uE qU uJ uL uI xH tX jE mX pD oO oQ eG uS sW uR qY sY qT oX rJ pN rP rX rO vI bZ bD bI aI wD gF pE qA nJ nY dQ jC eO eW dO fJ fY jD nG pG qB sH uP pQ mW qO qQ oF qF jJ) sz) := by
  refine g_enter (own := RX9) (dC, dI) (tyl cI cC cZ cB cJ) (wd_X9_sweep cI cC cZ cB cJ a_x xG xD wY wJ wQ xI xK xJ tW uE qU uJ uL uI xH tX jE mX pD oO oQ eG uS sW uR qY sY qT oX rJ pN rP rX rO vI bZ bD bI aI wD gF pE qA nJ nY dQ jC eO eW dO fJ fY jD nG pG qB sH uP pQ mW qO qQ oF qF jJ) sz [.ref a_x, .int p0] (fun A => q_X9_sweep dC dI cI cC cZ cB cJ A a_x xG xD wY wJ wQ xI xK xJ tW uE qU uJ uL uI xH tX jE mX pD oO oQ eG uS sW uR qY sY qT bZ bD bI aI wD gF pE qA nJ nY dQ jC eO eW dO fJ fY jD nG pG qB sH uP pQ mW oF post) pn_RX9 rfl (Nat.le_of_ble_eq_true rfl) ?_
  intro p e s m args below meth c A H locs ls C0 hP hD hS hl
  have hl : lv_has ls 8 [(0, .ref a_x), (1, .int p0)] := hl
  obtain ⟨hx, hb, hr, hml, hown, hts, hlocks, hA, hK, hN, tL, tM, hZL, hTL, hZM, hTM, hZX⟩ := id C0
  have hp := hw
  unfold wp_X9_sweep at hp
  refine lv_iload_n hx hb eX9_sweep_0.1 rfl (lv_at hl 1 rfl) ?_
  refine lv_if_lt (tgt := 11) hx hb eX9_sweep_0.2.1 (by decide) (fun hc => ?_) (fun hc => ?_)
  · have hp := hp.1 hc
    refine lv_iconst (v := (-1)) hx hb eX9_sweep_0.2.2.2.2.2.1 ic_m1 ?_
    exact W.iret (v := (-1)) hx hb hr (fun t ht hW => ⟨⟨(-1), (oX, rJ, pN, rP, rX, rO, vI, qO, qQ, qF, jJ), rfl, hp, by rw [ht]; exact hP, va_K.moved hW.alike hK, hD⟩, hS.F ht⟩) hS.2.2 eX9_sweep_0.2.2.2.2.2.2.1
  · have hp := hp.2 hc
    refine lv_iload_n hx hb eX9_sweep_0.2.2.1 rfl (lv_at hl 1 rfl) ?_
    refine lv_sipush (v := 9999) hx hb eX9_sweep_0.2.2.2.1 sp_9999 ?_
    refine lv_icmp_le (tgt := 13) hx hb eX9_sweep_0.2.2.2.2.1 (by decide) (fun hc => ?_) (fun hc => ?_)
    · have hp := hp.1 hc
      refine lv_aload_n hx hb eX9_sweep_0.2.2.2.2.2.2.2.1 rfl (lv_at hl 0 rfl) ?_
      refine va_get (D := (dC, dI)) (ci := 9) (v := .ref xD) (C := RX9) (T := TX9) (N := 9) hx hb hts i_X9 hown hK hP 0 rfl rfl 1 (Nat.le_of_ble_eq_true rfl) (hts _ q_444) (fun _ h9 => h9) rfl eX9_sweep_0.2.2.2.2.2.2.2.2.1 ?_
      have hm := mgk (wc := (wd_X5_look cI cC cZ cB cJ xD wY wJ uE qU uJ uL uI wQ xH tX jE mX pD oO oQ eG oX rJ pN rP rX bZ bD bI aI wD gF qA nJ nY dQ jC eO eW dO fJ fY jD nG)) hP mk_143 21 rfl rfl rfl
      refine g_callv hP hD hS hA (mixT mk_143) (mixF mk_143) hm.1 hm.2 (nd_F _) (dis_g _) (g_runV (As := []) (rest := []) C0 hP hD hS (mixT mk_143) hm.1 (nd_T _) 1 5 rfl rfl (c_X5_look l dC dI cI cC cZ cB cJ xD wY wJ uE qU uJ uL uI wQ xH tX jE mX pD oO oQ eG H.size oX rJ pN rP rX bZ bD bI aI wD gF qA nJ nY dQ jC eO eW dO fJ fY jD nG _ hp) q_445 q_448 q_446 q_447 q_431 h_X5_look rfl rfl ⟨Nat.le_of_ble_eq_true rfl, Nat.le_of_ble_eq_true rfl⟩ rfl rfl hl.1 rfl (lv_room (Nat.le_of_ble_eq_true rfl)) eX9_sweep_0.2.2.2.2.2.2.2.2.2.1 ⟨Nat.zero_le _, Nat.zero_le _⟩) (fun u H locs hp hP hD hS => ?_)
      obtain ⟨xM, xQ⟩ := u
      have hPD := PDm (ws' := (wd_X9_sweep cI cC cZ cB cJ a_x xG xD wY wJ wQ xI xK xJ tW uE qU uJ uL uI xH tX jE mX pD oO oQ eG uS sW uR qY sY qT xM rJ pN rP xQ rO vI bZ bD bI aI wD gF pE qA nJ nY dQ jC eO eW dO fJ fY jD nG pG qB sH uP pQ mW qO qQ oF qF jJ)) hP hD 21 rfl rfl rfl
      have hP := hPD.1
      have hD := hPD.2
      refine lv_aload_n hx hb eX9_sweep_0.2.2.2.2.2.2.2.2.2.2.1 rfl (lv_at hl 0 rfl) ?_
      refine va_get (D := (dC, dI)) (ci := 9) (v := .ref xD) (C := RX9) (T := TX9) (N := 9) hx hb hts i_X9 hown hK hP 0 rfl rfl 1 (Nat.le_of_ble_eq_true rfl) (hts _ q_444) (fun _ h9 => h9) rfl eX9_sweep_0.2.2.2.2.2.2.2.2.2.2.2.1 ?_
      have hm := mgk (wc := (wd_X5_timeAll cI cC cZ cB cJ xD wY wJ uE qU uJ uL uI wQ xH tX jE mX pD oO oQ eG uS sW uR qY sY xM rJ pN rP xQ rO bZ bD bI aI wD gF pE nJ nY jC eO eW dO fJ fY jD nG pG qB sH uP pQ mW qO qQ oF)) hP mk_144 21 rfl rfl rfl
      refine g_callv hP hD hS hA (mixT mk_144) (mixF mk_144) hm.1 hm.2 (nd_F _) (dis_g _) (g_runV (As := []) (rest := []) C0 hP hD hS (mixT mk_144) hm.1 (nd_T _) 1 5 rfl rfl (c_X5_timeAll l dC dI cI cC cZ cB cJ xD wY wJ uE qU uJ uL uI wQ xH tX jE mX pD oO oQ eG uS sW uR qY sY H.size xM rJ pN rP xQ rO bZ bD bI aI wD gF pE nJ nY jC eO eW dO fJ fY jD nG pG qB sH uP pQ mW qO qQ oF _ hp) q_524 q_527 q_525 q_526 q_431 h_X5_timeAll rfl rfl ⟨Nat.le_of_ble_eq_true rfl, Nat.le_of_ble_eq_true rfl⟩ rfl rfl hl.1 rfl (lv_room (Nat.le_of_ble_eq_true rfl)) eX9_sweep_0.2.2.2.2.2.2.2.2.2.2.2.2.1 ⟨Nat.zero_le _, Nat.zero_le _⟩) (fun u H locs hp hP hD hS => ?_)
      obtain ⟨aBd, aEw, aEx⟩ := u
      have hPD := PDm (ws' := (wd_X9_sweep cI cC cZ cB cJ a_x xG xD wY wJ wQ xI xK xJ tW uE qU uJ uL uI xH tX jE mX pD oO oQ eG uS sW uR qY sY qT xM rJ pN rP xQ aBd vI bZ bD bI aI wD gF pE qA nJ nY dQ jC eO eW dO fJ fY jD nG pG qB sH uP pQ mW aEw aEx oF qF jJ)) hP hD 21 rfl rfl rfl
      have hP := hPD.1
      have hD := hPD.2
      refine lv_iconst (v := 0) hx hb eX9_sweep_0.2.2.2.2.2.2.2.2.2.2.2.2.2.1 ic_0 ?_
      refine lv_istore_n (lv' := [(2, .int 0), (0, .ref a_x), (1, .int p0)]) hx hb eX9_sweep_0.2.2.2.2.2.2.2.2.2.2.2.2.2.2.1 rfl hl (by decide) rfl (fun ls hl => ?_)
      refine lv_iconst (v := 0) hx hb eX9_sweep_0.2.2.2.2.2.2.2.2.2.2.2.2.2.2.2 ic_0 ?_
      refine lv_istore_n (lv' := [(3, .int 0), (2, .int 0), (0, .ref a_x), (1, .int p0)]) hx hb eX9_sweep_30.1 rfl hl (by decide) rfl (fun ls hl => ?_)
      refine lv_iconst (v := 0) hx hb eX9_sweep_30.2.1 ic_0 ?_
      refine lv_istore (lv' := [(4, .int 0), (3, .int 0), (2, .int 0), (0, .ref a_x), (1, .int p0)]) hx hb eX9_sweep_30.2.2.1 hl (by decide) rfl (fun ls hl => ?_)
      refine lv_iconst (v := 1) hx hb eX9_sweep_30.2.2.2.1 ic_1 ?_
      refine lv_istore (lv' := [(5, .int 1), (4, .int 0), (3, .int 0), (2, .int 0), (0, .ref a_x), (1, .int p0)]) hx hb eX9_sweep_30.2.2.2.2.1 hl (by decide) rfl (fun ls hl => ?_)
      obtain ⟨n9, hp⟩ := hp
      exact kb_X9_sweep_37 C0 n9 p0 0 0 0 1 xM rJ pN rP xQ aBd vI aEw aEx qF jJ H locs ls hp hP hD hS (lv_sub hl [4, 5, 3, 2, 1, 0] rfl)
    · have hp := hp.2 hc
      refine lv_iconst (v := (-1)) hx hb eX9_sweep_0.2.2.2.2.2.1 ic_m1 ?_
      exact W.iret (v := (-1)) hx hb hr (fun t ht hW => ⟨⟨(-1), (oX, rJ, pN, rP, rX, rO, vI, qO, qQ, qF, jJ), rfl, hp, by rw [ht]; exact hP, va_K.moved hW.alike hK, hD⟩, hS.F ht⟩) hS.2.2 eX9_sweep_0.2.2.2.2.2.2.1
noncomputable abbrev wd_X5_addToDusk (cI cC cZ cB cJ : ClassId) (xD wY wJ uE qU uJ uL uI : Nat) (oX rJ pN rP : Int32) (vK : Nat → Int32) : va_W := [(xD, .inr (5, [.ref wY, .ref wJ, .ref uE, .ref qU, .ref uJ, .ref uL, .ref uI, .int oX, .int rJ, .int pN, .int rP])), (uI, .inl (cI, 301, .inl vK))]
noncomputable abbrev q_X5_addToDusk (dC : Nat → ClassId) (dI : Nat → Nat → Nat) (cI cC cZ cB cJ : ClassId) (A : Nat → Prop) (xD wY wJ uE qU uJ uL uI : Nat) (oX rJ pN rP : Int32) (post : (Nat → Int32) → Prop) : Array Value → State → Outcome → State → Prop := va_Qv (fun (u : (Nat → Int32)) => post u) (fun u t => gB (dC, dI) (tyl cI cC cZ cB cJ) A (wd_X5_addToDusk cI cC cZ cB cJ xD wY wJ uE qU uJ uL uI oX rJ pN rP u) t) A
noncomputable abbrev rm_X5_addToDusk : Room := { frames := 0, cells := 0, slots := 0, locals := 0 }
section S_X5_addToDusk
variable {p : Program} {l : Launch} {e : Env} {s : State} {m : MethodId} {args : Array Value} {below : List Frame} {meth : Method} {c : Code} {dC : Nat → ClassId} {dI : Nat → Nat → Nat} {cI cC cZ cB cJ : ClassId} {A : Nat → Prop} {xD wY wJ uE qU uJ uL uI : Nat} {oX rJ pN rP : Int32} {post : (Nat → Int32) → Prop}
noncomputable def ws_X5_addToDusk_52 (post : (Nat → Int32) → Prop) (K3 : Int32 → Int32 → Int32 → (Nat → Int32) → Prop) (x2 x3 x4 : Int32) (vK : Nat → Int32) : Prop := ∀ v_3 : Int32, v_3 = x4 + (-1) → K3 x2 x3 v_3 vK
set_option maxHeartbeats 4000000 in
set_option maxRecDepth 100000 in
theorem ks_X5_addToDusk_52 (C0 : gc cX5_addToDusk none 6 RX5 (dC, dI) (tyl cI cC cZ cB cJ) A p s m args meth c) {K3 : Int32 → Int32 → Int32 → (Nat → Int32) → Prop} (hK3 : ∀ (x2 : Int32) (x3 : Int32) (x4 : Int32) (vK : Nat → Int32) (H : Heap) (locs : List Loc) (ls : Array Slot), K3 x2 x3 x4 vK → va_P (dC, dI) classes (wd_X5_addToDusk cI cC cZ cB cJ xD wY wJ uE qU uJ uL uI oX rJ pN rP vK) H → va_D A (wd_X5_addToDusk cI cC cZ cB cJ xD wY wJ uE qU uJ uL uI oX rJ pN rP vK) → va_S A s.heap H locs → lv_has ls 6 [(0, .ref xD), (2, .int x2), (3, .int x3), (4, .int x4)] → W p l e rm_X5_addToDusk s m args below meth c H locs 0 0 (MQ below (q_X5_addToDusk dC dI cI cC cZ cB cJ A xD wY wJ uE qU uJ uL uI oX rJ pN rP post) args s 0 0 A) (F0 m 3 ls [])) : ∀ (x2 x3 x4 : Int32) (vK : Nat → Int32) (H : Heap) (locs : List Loc) (ls : Array Slot), (ws_X5_addToDusk_52 post K3) x2 x3 x4 vK → va_P (dC, dI) classes (wd_X5_addToDusk cI cC cZ cB cJ xD wY wJ uE qU uJ uL uI oX rJ pN rP vK) H → va_D A (wd_X5_addToDusk cI cC cZ cB cJ xD wY wJ uE qU uJ uL uI oX rJ pN rP vK) → va_S A s.heap H locs → lv_has ls 6 [(0, .ref xD), (2, .int x2), (3, .int x3), (4, .int x4)] → W p l e rm_X5_addToDusk s m args below meth c H locs 0 0 (MQ below (q_X5_addToDusk dC dI cI cC cZ cB cJ A xD wY wJ uE qU uJ uL uI oX rJ pN rP post) args s 0 0 A) (F0 m 52 ls []) := by
  obtain ⟨hx, hb, hr, hml, hown, hts, hlocks, hA, hK, hN, tL, tM, hZL, hTL, hZM, hTM, hZX⟩ := id C0
  intro x2 x3 x4 vK H locs ls hp hP hD hS hl
  unfold ws_X5_addToDusk_52 at hp
  obtain ⟨v_3, ev_3⟩ : ∃ y : Int32, y = x4 + (-1) := ⟨_, rfl⟩
  refine lv_iinc (v := v_3) (lv' := [(4, .int v_3), (0, .ref xD), (2, .int x2), (3, .int x3)]) hx hb eX5_addToDusk_29.2.2.2.2.2.2.2.2.2.2.2.2.2.2.1 hl (k := 3) rfl (by rw [ev_3]; rfl) (by decide) rfl (fun ls hl => ?_)
  have hp := hp v_3 ev_3
  refine lv_goto (tgt := 3) hx hb eX5_addToDusk_29.2.2.2.2.2.2.2.2.2.2.2.2.2.2.2 (by decide) ?_
  exact hK3 x2 x3 v_3 vK H locs ls hp hP hD hS (lv_sub hl [1, 2, 3, 0] rfl)
noncomputable def ws_X5_addToDusk_3 (post : (Nat → Int32) → Prop) (next : Int32 → Int32 → Int32 → (Nat → Int32) → Prop) (x2 x3 x4 : Int32) (vK : Nat → Int32) : Prop := (x4 < x2 → post vK) ∧ (¬ x4 < x2 → ∀ v_1 : Int32, v_1 = x4 - x2 → vp_in v_1 301 ∧ (∀ v_2 : Int32, v_2 = vK v_1.toNatClampNeg → (v_2 = (-2147483648) → ws_X5_addToDusk_52 post next x2 x3 x4 vK) ∧ (¬ v_2 = (-2147483648) → ∀ v_4 : Int32, v_4 = v_2 + x3 → vp_in x4 301 ∧ ((v_4 ≤ (vK x4.toNatClampNeg) → ws_X5_addToDusk_52 post next x2 x3 x4 vK) ∧ (¬ v_4 ≤ (vK x4.toNatClampNeg) → ∀ v_5 : Int32, v_5 = v_2 + x3 → vp_in x4 301 ∧ (ws_X5_addToDusk_52 post next x2 x3 x4 (upd vK x4.toNatClampNeg v_5)))))))
noncomputable def wb_X5_addToDusk_3 (post : (Nat → Int32) → Prop) : Nat → Int32 → Int32 → Int32 → (Nat → Int32) → Prop := fun n => Nat.rec (motive := fun _ => Int32 → Int32 → Int32 → (Nat → Int32) → Prop) (fun _ _ _ _ => False) (fun _ ih => ws_X5_addToDusk_3 post ih) n
set_option maxHeartbeats 4000000 in
set_option maxRecDepth 100000 in
theorem ks_X5_addToDusk_3 (C0 : gc cX5_addToDusk none 6 RX5 (dC, dI) (tyl cI cC cZ cB cJ) A p s m args meth c) {next : Int32 → Int32 → Int32 → (Nat → Int32) → Prop} (hKn : ∀ (x2 : Int32) (x3 : Int32) (x4 : Int32) (vK : Nat → Int32) (H : Heap) (locs : List Loc) (ls : Array Slot), next x2 x3 x4 vK → va_P (dC, dI) classes (wd_X5_addToDusk cI cC cZ cB cJ xD wY wJ uE qU uJ uL uI oX rJ pN rP vK) H → va_D A (wd_X5_addToDusk cI cC cZ cB cJ xD wY wJ uE qU uJ uL uI oX rJ pN rP vK) → va_S A s.heap H locs → lv_has ls 6 [(0, .ref xD), (2, .int x2), (3, .int x3), (4, .int x4)] → W p l e rm_X5_addToDusk s m args below meth c H locs 0 0 (MQ below (q_X5_addToDusk dC dI cI cC cZ cB cJ A xD wY wJ uE qU uJ uL uI oX rJ pN rP post) args s 0 0 A) (F0 m 3 ls [])) : ∀ (x2 x3 x4 : Int32) (vK : Nat → Int32) (H : Heap) (locs : List Loc) (ls : Array Slot), (ws_X5_addToDusk_3 post next) x2 x3 x4 vK → va_P (dC, dI) classes (wd_X5_addToDusk cI cC cZ cB cJ xD wY wJ uE qU uJ uL uI oX rJ pN rP vK) H → va_D A (wd_X5_addToDusk cI cC cZ cB cJ xD wY wJ uE qU uJ uL uI oX rJ pN rP vK) → va_S A s.heap H locs → lv_has ls 6 [(0, .ref xD), (2, .int x2), (3, .int x3), (4, .int x4)] → W p l e rm_X5_addToDusk s m args below meth c H locs 0 0 (MQ below (q_X5_addToDusk dC dI cI cC cZ cB cJ A xD wY wJ uE qU uJ uL uI oX rJ pN rP post) args s 0 0 A) (F0 m 3 ls []) := by
  obtain ⟨hx, hb, hr, hml, hown, hts, hlocks, hA, hK, hN, tL, tM, hZL, hTL, hZM, hTM, hZX⟩ := id C0
  intro x2 x3 x4 vK H locs ls hp hP hD hS hl
  unfold ws_X5_addToDusk_3 at hp
  refine lv_iload hx hb eX5_addToDusk_0.2.2.1 (lv_at hl 3 rfl) ?_
  refine lv_iload_n hx hb eX5_addToDusk_0.2.2.2.1 rfl (lv_at hl 1 rfl) ?_
  refine lv_icmp_lt (tgt := 58) hx hb eX5_addToDusk_0.2.2.2.2.1 (by decide) (fun hc => ?_) (fun hc => ?_)
  · have hp := hp.1 hc
    exact W.vret hx hb hr (fun t ht hW => ⟨⟨vK, rfl, hp, by rw [ht]; exact hP, va_K.moved hW.alike hK, hD⟩, hS.F ht⟩) hS.2.2 dX5_addToDusk_58
  · have hp := hp.2 hc
    refine lv_aload_n hx hb eX5_addToDusk_0.2.2.2.2.2.1 rfl (lv_at hl 0 rfl) ?_
    refine va_get (D := (dC, dI)) (ci := 5) (v := .ref uI) (C := RX5) (T := TX5) (N := 11) hx hb hts i_X5 hown hK hP 0 rfl rfl 6 (Nat.le_of_ble_eq_true rfl) (hts _ q_545) (fun _ h9 => h9) rfl eX5_addToDusk_0.2.2.2.2.2.2.1 ?_
    refine lv_iload hx hb eX5_addToDusk_0.2.2.2.2.2.2.2.1 (lv_at hl 3 rfl) ?_
    refine lv_iload_n hx hb eX5_addToDusk_0.2.2.2.2.2.2.2.2.1 rfl (lv_at hl 1 rfl) ?_
    refine lv_isub hx hb eX5_addToDusk_0.2.2.2.2.2.2.2.2.2.1 ?_
    refine lv_topi (fun v_1 ev_1 => ?_)
    have hp := hp v_1 ev_1
    have hin := hp.1
    have hp := hp.2
    refine va_iald hx hb hK hP 1 0 rfl rfl hin eX5_addToDusk_0.2.2.2.2.2.2.2.2.2.2.1 ?_
    refine lv_topi (fun v_2 ev_2 => ?_)
    have hp := hp v_2 ev_2
    refine lv_istore (lv' := [(5, .int v_2), (0, .ref xD), (2, .int x2), (3, .int x3), (4, .int x4)]) hx hb eX5_addToDusk_0.2.2.2.2.2.2.2.2.2.2.2.1 hl (by decide) rfl (fun ls hl => ?_)
    refine lv_iload hx hb eX5_addToDusk_0.2.2.2.2.2.2.2.2.2.2.2.2.1 (lv_at hl 0 rfl) ?_
    refine lv_ldc (v := (-2147483648)) hx hb hown (hts _ q_546) eX5_addToDusk_0.2.2.2.2.2.2.2.2.2.2.2.2.2.1 ?_
    refine lv_icmp_eq (tgt := 52) hx hb eX5_addToDusk_0.2.2.2.2.2.2.2.2.2.2.2.2.2.2.1 (by decide) (fun hc => ?_) (fun hc => ?_)
    · have hp := hp.1 hc
      exact ks_X5_addToDusk_52 C0 hKn x2 x3 x4 vK H locs ls hp hP hD hS (lv_sub hl [1, 2, 3, 4] rfl)
    · have hp := hp.2 hc
      refine lv_iload hx hb eX5_addToDusk_0.2.2.2.2.2.2.2.2.2.2.2.2.2.2.2 (lv_at hl 0 rfl) ?_
      refine lv_iload_n hx hb eX5_addToDusk_29.1 rfl (lv_at hl 3 rfl) ?_
      refine lv_iadd hx hb eX5_addToDusk_29.2.1 ?_
      refine lv_topi (fun v_4 ev_4 => ?_)
      have hp := hp v_4 ev_4
      refine lv_aload_n hx hb eX5_addToDusk_29.2.2.1 rfl (lv_at hl 1 rfl) ?_
      refine va_get (D := (dC, dI)) (ci := 5) (v := .ref uI) (C := RX5) (T := TX5) (N := 11) hx hb hts i_X5 hown hK hP 0 rfl rfl 6 (Nat.le_of_ble_eq_true rfl) (hts _ q_545) (fun _ h9 => h9) rfl eX5_addToDusk_29.2.2.2.1 ?_
      refine lv_iload hx hb eX5_addToDusk_29.2.2.2.2.1 (lv_at hl 4 rfl) ?_
      have hin := hp.1
      have hp := hp.2
      refine va_iald hx hb hK hP 1 0 rfl rfl hin eX5_addToDusk_29.2.2.2.2.2.1 ?_
      refine lv_icmp_le (tgt := 52) hx hb eX5_addToDusk_29.2.2.2.2.2.2.1 (by decide) (fun hc => ?_) (fun hc => ?_)
      · have hp := hp.1 hc
        exact ks_X5_addToDusk_52 C0 hKn x2 x3 x4 vK H locs ls hp hP hD hS (lv_sub hl [1, 2, 3, 4] rfl)
      · have hp := hp.2 hc
        refine lv_aload_n hx hb eX5_addToDusk_29.2.2.2.2.2.2.2.1 rfl (lv_at hl 1 rfl) ?_
        refine va_get (D := (dC, dI)) (ci := 5) (v := .ref uI) (C := RX5) (T := TX5) (N := 11) hx hb hts i_X5 hown hK hP 0 rfl rfl 6 (Nat.le_of_ble_eq_true rfl) (hts _ q_545) (fun _ h9 => h9) rfl eX5_addToDusk_29.2.2.2.2.2.2.2.2.1 ?_
        refine lv_iload hx hb eX5_addToDusk_29.2.2.2.2.2.2.2.2.2.1 (lv_at hl 4 rfl) ?_
        refine lv_iload hx hb eX5_addToDusk_29.2.2.2.2.2.2.2.2.2.2.1 (lv_at hl 0 rfl) ?_
        refine lv_iload_n hx hb eX5_addToDusk_29.2.2.2.2.2.2.2.2.2.2.2.1 rfl (lv_at hl 3 rfl) ?_
        refine lv_iadd hx hb eX5_addToDusk_29.2.2.2.2.2.2.2.2.2.2.2.2.1 ?_
        refine lv_topi (fun v_5 ev_5 => ?_)
        have hp := hp v_5 ev_5
        have hin := hp.1
        have hp := hp.2
        refine va_iast hx hb hK hP hD hS 1 0 rfl rfl hin eX5_addToDusk_29.2.2.2.2.2.2.2.2.2.2.2.2.2.1 (fun H locs hP hD hS => ?_)
        have hP : va_P (dC, dI) classes (wd_X5_addToDusk cI cC cZ cB cJ xD wY wJ uE qU uJ uL uI oX rJ pN rP (upd vK x4.toNatClampNeg v_5)) H := hP
        have hD : va_D A (wd_X5_addToDusk cI cC cZ cB cJ xD wY wJ uE qU uJ uL uI oX rJ pN rP (upd vK x4.toNatClampNeg v_5)) := hD
        exact ks_X5_addToDusk_52 C0 hKn x2 x3 x4 (upd vK x4.toNatClampNeg v_5) H locs ls hp hP hD hS (lv_sub hl [1, 2, 3, 4] rfl)
set_option maxHeartbeats 4000000 in
set_option maxRecDepth 100000 in
theorem kb_X5_addToDusk_3 (C0 : gc cX5_addToDusk none 6 RX5 (dC, dI) (tyl cI cC cZ cB cJ) A p s m args meth c) : ∀ (n : Nat), ∀ (x2 x3 x4 : Int32) (vK : Nat → Int32) (H : Heap) (locs : List Loc) (ls : Array Slot), (wb_X5_addToDusk_3 post n) x2 x3 x4 vK → va_P (dC, dI) classes (wd_X5_addToDusk cI cC cZ cB cJ xD wY wJ uE qU uJ uL uI oX rJ pN rP vK) H → va_D A (wd_X5_addToDusk cI cC cZ cB cJ xD wY wJ uE qU uJ uL uI oX rJ pN rP vK) → va_S A s.heap H locs → lv_has ls 6 [(0, .ref xD), (2, .int x2), (3, .int x3), (4, .int x4)] → W p l e rm_X5_addToDusk s m args below meth c H locs 0 0 (MQ below (q_X5_addToDusk dC dI cI cC cZ cB cJ A xD wY wJ uE qU uJ uL uI oX rJ pN rP post) args s 0 0 A) (F0 m 3 ls []) := by
  intro n
  induction n with
  | zero =>
    intro x2 x3 x4 vK H locs ls hp
    exact False.elim hp
  | succ n ih =>
    intro x2 x3 x4 vK H locs ls hp
    exact ks_X5_addToDusk_3 C0 ih x2 x3 x4 vK H locs ls hp
end S_X5_addToDusk
noncomputable def wp_X5_addToDusk (post : (Nat → Int32) → Prop) (p0 p1 p2 : Int32) (vK : Nat → Int32) : Prop := ∃ n : Nat, wb_X5_addToDusk_3 post n p1 p2 p0 vK
set_option maxHeartbeats 4000000 in
set_option maxRecDepth 100000 in
theorem c_X5_addToDusk (l : Launch) (dC : Nat → ClassId) (dI : Nat → Nat → Nat) (cI cC cZ cB cJ : ClassId) (xD wY wJ uE qU uJ uL uI sz : Nat) (p0 p1 p2 oX rJ pN rP : Int32) (vK : Nat → Int32) (post : (Nat → Int32) → Prop) (hw : wp_X5_addToDusk post p0 p1 p2 vK) : Met l yX5_addToDusk (gw yX5_addToDusk cX5_addToDusk 6 none) rm_X5_addToDusk (va_Pc [.ref xD, .int p0, .int p1, .int p2] (gPre (dC, dI) (tyl cI cC cZ cB cJ) (wd_X5_addToDusk cI cC cZ cB cJ xD wY wJ uE qU uJ uL uI oX rJ pN rP vK) sz)) (q_X5_addToDusk dC dI cI cC cZ cB cJ (va_A (wd_X5_addToDusk cI cC cZ cB cJ xD wY wJ uE qU uJ uL uI oX rJ pN rP vK) sz) xD wY wJ uE qU uJ uL uI oX rJ pN rP post) 0 0 (va_A (wd_X5_addToDusk cI cC cZ cB cJ xD wY wJ uE qU uJ uL uI oX rJ pN rP vK) sz) := by
  refine g_enter (own := RX5) (dC, dI) (tyl cI cC cZ cB cJ) (wd_X5_addToDusk cI cC cZ cB cJ xD wY wJ uE qU uJ uL uI oX rJ pN rP vK) sz [.ref xD, .int p0, .int p1, .int p2] (fun A => q_X5_addToDusk dC dI cI cC cZ cB cJ A xD wY wJ uE qU uJ uL uI oX rJ pN rP post) pn_RX5 rfl (Nat.le_of_ble_eq_true rfl) ?_
  intro p e s m args below meth c A H locs ls C0 hP hD hS hl
  have hl : lv_has ls 6 [(0, .ref xD), (1, .int p0), (2, .int p1), (3, .int p2)] := hl
  obtain ⟨hx, hb, hr, hml, hown, hts, hlocks, hA, hK, hN, tL, tM, hZL, hTL, hZM, hTM, hZX⟩ := id C0
  have hp := hw
  unfold wp_X5_addToDusk at hp
  refine lv_iload_n hx hb eX5_addToDusk_0.1 rfl (lv_at hl 1 rfl) ?_
  refine lv_istore (lv' := [(4, .int p0), (0, .ref xD), (1, .int p0), (2, .int p1), (3, .int p2)]) hx hb eX5_addToDusk_0.2.1 hl (by decide) rfl (fun ls hl => ?_)
  obtain ⟨n9, hp⟩ := hp
  exact kb_X5_addToDusk_3 C0 n9 p1 p2 p0 vK H locs ls hp hP hD hS (lv_sub hl [1, 3, 4, 0] rfl)
noncomputable abbrev wd_X5_fillDusk (cI cC cZ cB cJ : ClassId) (xD wY wJ uE qU uJ uL uI wQ xH tX jE mX pD oO oQ eG uS sW uR qY sY : Nat) (oX rJ pN rP : Int32) (vK : Nat → Int32) (bZ bD bI aI : Int32) (wD gF pE qA nJ nY dQ : Nat → Int32) (jC eO eW dO fJ fY jD nG pG qB sH uP pQ mW : Int32) (qO qQ oF : Nat → Int32) : va_W := [(xD, .inr (5, [.ref wY, .ref wJ, .ref uE, .ref qU, .ref uJ, .ref uL, .ref uI, .int oX, .int rJ, .int pN, .int rP])), (uI, .inl (cI, 301, .inl vK)), (wY, .inr (0, [.ref wJ, .ref wQ, .ref xH])), (wJ, .inr (3, [.ref tX, .ref jE, .ref mX, .ref pD, .ref oO, .ref oQ, .ref eG, .int bZ, .int bD, .int bI, .int aI])), (tX, .inl (cI, 16, .inl wD)), (jE, .inl (cI, 16, .inl gF)), (mX, .inl (cI, 16, .inl pE)), (pD, .inl (cI, 16, .inl qA)), (oO, .inl (cI, 8, .inl nJ)), (oQ, .inl (cI, 8, .inl nY)), (eG, .inl (cI, 5, .inl dQ)), (wQ, .inr (2, [.int jC, .int eO, .int eW, .int dO, .int fJ, .int fY, .int jD, .int nG])), (xH, .inr (7, [.ref uS, .ref sW, .ref uR, .ref qY, .ref sY, .int pG, .int qB, .int sH, .int uP, .int pQ, .int mW])), (uS, .inl (cI, 7, .inl qO)), (uR, .inl (cI, 40, .inl qQ)), (qY, .inl (cI, 40, .inl oF))]
noncomputable abbrev q_X5_fillDusk (dC : Nat → ClassId) (dI : Nat → Nat → Nat) (cI cC cZ cB cJ : ClassId) (A : Nat → Prop) (xD wY wJ uE qU uJ uL uI wQ xH tX jE mX pD oO oQ eG uS sW uR qY sY : Nat) (oX rJ pN rP bZ bD bI aI : Int32) (wD gF pE qA nJ nY dQ : Nat → Int32) (jC eO eW dO fJ fY jD nG pG qB sH uP pQ mW : Int32) (oF : Nat → Int32) (post : (Nat → Int32) → (Nat → Int32) → (Nat → Int32) → Prop) : Array Value → State → Outcome → State → Prop := va_Qv (fun (u : (Nat → Int32) × (Nat → Int32) × (Nat → Int32)) => post u.1 u.2.1 u.2.2) (fun u t => gB (dC, dI) (tyl cI cC cZ cB cJ) A (wd_X5_fillDusk cI cC cZ cB cJ xD wY wJ uE qU uJ uL uI wQ xH tX jE mX pD oO oQ eG uS sW uR qY sY oX rJ pN rP u.1 bZ bD bI aI wD gF pE qA nJ nY dQ jC eO eW dO fJ fY jD nG pG qB sH uP pQ mW u.2.1 u.2.2 oF) t) A
noncomputable abbrev rm_X5_fillDusk : Room := { frames := 4, cells := 0, slots := 0, locals := 92 }
section S_X5_fillDusk
variable {p : Program} {l : Launch} {e : Env} {s : State} {m : MethodId} {args : Array Value} {below : List Frame} {meth : Method} {c : Code} {dC : Nat → ClassId} {dI : Nat → Nat → Nat} {cI cC cZ cB cJ : ClassId} {A : Nat → Prop} {xD wY wJ uE qU uJ uL uI wQ xH tX jE mX pD oO oQ eG uS sW uR qY sY : Nat} {oX rJ pN rP bZ bD bI aI : Int32} {wD gF pE qA nJ nY dQ : Nat → Int32} {jC eO eW dO fJ fY jD nG pG qB sH uP pQ mW : Int32} {oF : Nat → Int32} {post : (Nat → Int32) → (Nat → Int32) → (Nat → Int32) → Prop}
noncomputable def ws_X5_fillDusk_123 (post : (Nat → Int32) → (Nat → Int32) → (Nat → Int32) → Prop) (K47 : Int32 → Int32 → Int32 → (Nat → Int32) → (Nat → Int32) → (Nat → Int32) → Prop) (bZ : Int32) (wD gF pE qA nJ nY dQ : Nat → Int32) (jC eO eW dO fJ fY jD pG : Int32) (oF : Nat → Int32) (x2 x3 x4 : Int32) (vK qO qQ : Nat → Int32) : Prop := ∀ v_4 : Int32, v_4 = x4 + 1 → K47 x2 x3 v_4 vK qO qQ
set_option maxHeartbeats 4000000 in
set_option maxRecDepth 100000 in
theorem ks_X5_fillDusk_123 (C0 : gc cX5_fillDusk none 7 RX5 (dC, dI) (tyl cI cC cZ cB cJ) A p s m args meth c) {K47 : Int32 → Int32 → Int32 → (Nat → Int32) → (Nat → Int32) → (Nat → Int32) → Prop} (hK47 : ∀ (x2 : Int32) (x3 : Int32) (x4 : Int32) (vK : Nat → Int32) (qO : Nat → Int32) (qQ : Nat → Int32) (H : Heap) (locs : List Loc) (ls : Array Slot), K47 x2 x3 x4 vK qO qQ → va_P (dC, dI) classes (wd_X5_fillDusk cI cC cZ cB cJ xD wY wJ uE qU uJ uL uI wQ xH tX jE mX pD oO oQ eG uS sW uR qY sY oX rJ pN rP vK bZ bD bI aI wD gF pE qA nJ nY dQ jC eO eW dO fJ fY jD nG pG qB sH uP pQ mW qO qQ oF) H → va_D A (wd_X5_fillDusk cI cC cZ cB cJ xD wY wJ uE qU uJ uL uI wQ xH tX jE mX pD oO oQ eG uS sW uR qY sY oX rJ pN rP vK bZ bD bI aI wD gF pE qA nJ nY dQ jC eO eW dO fJ fY jD nG pG qB sH uP pQ mW qO qQ oF) → va_S A s.heap H locs → lv_has ls 7 [(0, .ref xD), (2, .int x2), (3, .int x3), (4, .int x4)] → W p l e rm_X5_fillDusk s m args below meth c H locs 0 0 (MQ below (q_X5_fillDusk dC dI cI cC cZ cB cJ A xD wY wJ uE qU uJ uL uI wQ xH tX jE mX pD oO oQ eG uS sW uR qY sY oX rJ pN rP bZ bD bI aI wD gF pE qA nJ nY dQ jC eO eW dO fJ fY jD nG pG qB sH uP pQ mW oF post) args s 0 0 A) (F0 m 47 ls [])) : ∀ (x2 x3 x4 : Int32) (vK qO qQ : Nat → Int32) (H : Heap) (locs : List Loc) (ls : Array Slot), (ws_X5_fillDusk_123 post K47 bZ wD gF pE qA nJ nY dQ jC eO eW dO fJ fY jD pG oF) x2 x3 x4 vK qO qQ → va_P (dC, dI) classes (wd_X5_fillDusk cI cC cZ cB cJ xD wY wJ uE qU uJ uL uI wQ xH tX jE mX pD oO oQ eG uS sW uR qY sY oX rJ pN rP vK bZ bD bI aI wD gF pE qA nJ nY dQ jC eO eW dO fJ fY jD nG pG qB sH uP pQ mW qO qQ oF) H → va_D A (wd_X5_fillDusk cI cC cZ cB cJ xD wY wJ uE qU uJ uL uI wQ xH tX jE mX pD oO oQ eG uS sW uR qY sY oX rJ pN rP vK bZ bD bI aI wD gF pE qA nJ nY dQ jC eO eW dO fJ fY jD nG pG qB sH uP pQ mW qO qQ oF) → va_S A s.heap H locs → lv_has ls 7 [(0, .ref xD), (2, .int x2), (3, .int x3), (4, .int x4)] → W p l e rm_X5_fillDusk s m args below meth c H locs 0 0 (MQ below (q_X5_fillDusk dC dI cI cC cZ cB cJ A xD wY wJ uE qU uJ uL uI wQ xH tX jE mX pD oO oQ eG uS sW uR qY sY oX rJ pN rP bZ bD bI aI wD gF pE qA nJ nY dQ jC eO eW dO fJ fY jD nG pG qB sH uP pQ mW oF post) args s 0 0 A) (F0 m 123 ls []) := by
  obtain ⟨hx, hb, hr, hml, hown, hts, hlocks, hA, hK, hN, tL, tM, hZL, hTL, hZM, hTM, hZX⟩ := id C0
  intro x2 x3 x4 vK qO qQ H locs ls hp hP hD hS hl
  unfold ws_X5_fillDusk_123 at hp
  obtain ⟨v_4, ev_4⟩ : ∃ y : Int32, y = x4 + 1 := ⟨_, rfl⟩
  refine lv_iinc (v := v_4) (lv' := [(4, .int v_4), (0, .ref xD), (2, .int x2), (3, .int x3)]) hx hb eX5_fillDusk_117.2.2.2.1 hl (k := 3) rfl (by rw [ev_4]; rfl) (by decide) rfl (fun ls hl => ?_)
  have hp := hp v_4 ev_4
  refine lv_goto (tgt := 47) hx hb eX5_fillDusk_117.2.2.2.2.1 (by decide) ?_
  exact hK47 x2 x3 v_4 vK qO qQ H locs ls hp hP hD hS (lv_sub hl [1, 2, 3, 0] rfl)
noncomputable def ws_X5_fillDusk_47 (post : (Nat → Int32) → (Nat → Int32) → (Nat → Int32) → Prop) (next : Int32 → Int32 → Int32 → (Nat → Int32) → (Nat → Int32) → (Nat → Int32) → Prop) (bZ : Int32) (wD gF pE qA nJ nY dQ : Nat → Int32) (jC eO eW dO fJ fY jD pG : Int32) (oF : Nat → Int32) (x2 x3 x4 : Int32) (vK qO qQ : Nat → Int32) : Prop := (bZ ≤ x4 → post vK qO qQ) ∧ (¬ bZ ≤ x4 → ∀ v_3 : Int32, v_3 = x3 >>> (x4 &&& 31) → ((v_3 &&& 1) = 0 → ws_X5_fillDusk_123 post next bZ wD gF pE qA nJ nY dQ jC eO eW dO fJ fY jD pG oF x2 x3 x4 vK qO qQ) ∧ (¬ (v_3 &&& 1) = 0 → ∀ v_5 : Int32, v_5 = 1 <<< (x4 &&& 31) → wp_X0_pickSeconds (fun r_6 aEs aEt => ∀ v_9 : Int32, v_9 = (if 1 < r_6 then r_6 else 1) → wp_X0_worthOf (fun r_10 => ∀ v_11 : Int32, v_11 = r_10 <<< (16 &&& 31) → ∀ v_12 : Int32, v_12 = v_11 - v_5 → wp_X5_addToDusk (fun pl_best_13 => ws_X5_fillDusk_123 post next bZ wD gF pE qA nJ nY dQ jC eO eW dO fJ fY jD pG oF x2 x3 x4 pl_best_13 aEs aEt) x2 v_9 v_12 vK) v_5 bZ pE dO) x4 fJ 0 0 bZ wD gF pE nJ nY dO pG qO qQ oF))
noncomputable def wb_X5_fillDusk_47 (post : (Nat → Int32) → (Nat → Int32) → (Nat → Int32) → Prop) (bZ : Int32) (wD gF pE qA nJ nY dQ : Nat → Int32) (jC eO eW dO fJ fY jD pG : Int32) (oF : Nat → Int32) : Nat → Int32 → Int32 → Int32 → (Nat → Int32) → (Nat → Int32) → (Nat → Int32) → Prop := fun n => Nat.rec (motive := fun _ => Int32 → Int32 → Int32 → (Nat → Int32) → (Nat → Int32) → (Nat → Int32) → Prop) (fun _ _ _ _ _ _ => False) (fun _ ih => ws_X5_fillDusk_47 post ih bZ wD gF pE qA nJ nY dQ jC eO eW dO fJ fY jD pG oF) n
set_option maxHeartbeats 4000000 in
set_option maxRecDepth 100000 in
theorem ks_X5_fillDusk_47 (C0 : gc cX5_fillDusk none 7 RX5 (dC, dI) (tyl cI cC cZ cB cJ) A p s m args meth c) {next : Int32 → Int32 → Int32 → (Nat → Int32) → (Nat → Int32) → (Nat → Int32) → Prop} (hKn : ∀ (x2 : Int32) (x3 : Int32) (x4 : Int32) (vK : Nat → Int32) (qO : Nat → Int32) (qQ : Nat → Int32) (H : Heap) (locs : List Loc) (ls : Array Slot), next x2 x3 x4 vK qO qQ → va_P (dC, dI) classes (wd_X5_fillDusk cI cC cZ cB cJ xD wY wJ uE qU uJ uL uI wQ xH tX jE mX pD oO oQ eG uS sW uR qY sY oX rJ pN rP vK bZ bD bI aI wD gF pE qA nJ nY dQ jC eO eW dO fJ fY jD nG pG qB sH uP pQ mW qO qQ oF) H → va_D A (wd_X5_fillDusk cI cC cZ cB cJ xD wY wJ uE qU uJ uL uI wQ xH tX jE mX pD oO oQ eG uS sW uR qY sY oX rJ pN rP vK bZ bD bI aI wD gF pE qA nJ nY dQ jC eO eW dO fJ fY jD nG pG qB sH uP pQ mW qO qQ oF) → va_S A s.heap H locs → lv_has ls 7 [(0, .ref xD), (2, .int x2), (3, .int x3), (4, .int x4)] → W p l e rm_X5_fillDusk s m args below meth c H locs 0 0 (MQ below (q_X5_fillDusk dC dI cI cC cZ cB cJ A xD wY wJ uE qU uJ uL uI wQ xH tX jE mX pD oO oQ eG uS sW uR qY sY oX rJ pN rP bZ bD bI aI wD gF pE qA nJ nY dQ jC eO eW dO fJ fY jD nG pG qB sH uP pQ mW oF post) args s 0 0 A) (F0 m 47 ls [])) : ∀ (x2 x3 x4 : Int32) (vK qO qQ : Nat → Int32) (H : Heap) (locs : List Loc) (ls : Array Slot), (ws_X5_fillDusk_47 post next bZ wD gF pE qA nJ nY dQ jC eO eW dO fJ fY jD pG oF) x2 x3 x4 vK qO qQ → va_P (dC, dI) classes (wd_X5_fillDusk cI cC cZ cB cJ xD wY wJ uE qU uJ uL uI wQ xH tX jE mX pD oO oQ eG uS sW uR qY sY oX rJ pN rP vK bZ bD bI aI wD gF pE qA nJ nY dQ jC eO eW dO fJ fY jD nG pG qB sH uP pQ mW qO qQ oF) H → va_D A (wd_X5_fillDusk cI cC cZ cB cJ xD wY wJ uE qU uJ uL uI wQ xH tX jE mX pD oO oQ eG uS sW uR qY sY oX rJ pN rP vK bZ bD bI aI wD gF pE qA nJ nY dQ jC eO eW dO fJ fY jD nG pG qB sH uP pQ mW qO qQ oF) → va_S A s.heap H locs → lv_has ls 7 [(0, .ref xD), (2, .int x2), (3, .int x3), (4, .int x4)] → W p l e rm_X5_fillDusk s m args below meth c H locs 0 0 (MQ below (q_X5_fillDusk dC dI cI cC cZ cB cJ A xD wY wJ uE qU uJ uL uI wQ xH tX jE mX pD oO oQ eG uS sW uR qY sY oX rJ pN rP bZ bD bI aI wD gF pE qA nJ nY dQ jC eO eW dO fJ fY jD nG pG qB sH uP pQ mW oF post) args s 0 0 A) (F0 m 47 ls []) := by
  obtain ⟨hx, hb, hr, hml, hown, hts, hlocks, hA, hK, hN, tL, tM, hZL, hTL, hZM, hTM, hZX⟩ := id C0
  intro x2 x3 x4 vK qO qQ H locs ls hp hP hD hS hl
  unfold ws_X5_fillDusk_47 at hp
  refine lv_iload hx hb eX5_fillDusk_26.2.2.2.2.2.2.2.2.2.2.2.1 (lv_at hl 3 rfl) ?_
  refine lv_aload_n hx hb eX5_fillDusk_26.2.2.2.2.2.2.2.2.2.2.2.2.1 rfl (lv_at hl 0 rfl) ?_
  refine va_get (D := (dC, dI)) (ci := 5) (v := .ref wJ) (C := RX5) (T := TX5) (N := 11) hx hb hts i_X5 hown hK hP 0 rfl rfl 1 (Nat.le_of_ble_eq_true rfl) (hts _ q_419) (fun _ h9 => h9) rfl eX5_fillDusk_26.2.2.2.2.2.2.2.2.2.2.2.2.2.1 ?_
  refine va_get (D := (dC, dI)) (ci := 3) (v := .int bZ) (C := RX3) (T := TX3) (N := 11) hx hb hts i_X3 hown hK hP 3 rfl rfl 7 (Nat.le_of_ble_eq_true rfl) (hts _ q_504) (fun _ h9 => h9) rfl eX5_fillDusk_26.2.2.2.2.2.2.2.2.2.2.2.2.2.2.1 ?_
  refine lv_icmp_ge (tgt := 129) hx hb eX5_fillDusk_26.2.2.2.2.2.2.2.2.2.2.2.2.2.2.2 (by decide) (fun hc => ?_) (fun hc => ?_)
  · have hp := hp.1 hc
    exact W.vret hx hb hr (fun t ht hW => ⟨⟨(vK, qO, qQ), rfl, hp, by rw [ht]; exact hP, va_K.moved hW.alike hK, hD⟩, hS.F ht⟩) hS.2.2 eX5_fillDusk_117.2.2.2.2.2
  · have hp := hp.2 hc
    refine lv_iload_n hx hb eX5_fillDusk_59.1 rfl (lv_at hl 2 rfl) ?_
    refine lv_iload hx hb eX5_fillDusk_59.2.1 (lv_at hl 3 rfl) ?_
    refine lv_ishr hx hb eX5_fillDusk_59.2.2.1 ?_
    refine lv_topi (fun v_3 ev_3 => ?_)
    have hp := hp v_3 ev_3
    refine lv_iconst (v := 1) hx hb eX5_fillDusk_59.2.2.2.1 ic_1 ?_
    refine lv_iand hx hb eX5_fillDusk_59.2.2.2.2.1 ?_
    refine lv_if_eq (tgt := 123) hx hb eX5_fillDusk_59.2.2.2.2.2.1 (by decide) (fun hc => ?_) (fun hc => ?_)
    · have hp := hp.1 hc
      exact ks_X5_fillDusk_123 C0 hKn x2 x3 x4 vK qO qQ H locs ls hp hP hD hS (lv_sub hl [0, 1, 2, 3] rfl)
    · have hp := hp.2 hc
      refine lv_iconst (v := 1) hx hb eX5_fillDusk_59.2.2.2.2.2.2.1 ic_1 ?_
      refine lv_iload hx hb eX5_fillDusk_59.2.2.2.2.2.2.2.1 (lv_at hl 3 rfl) ?_
      refine lv_ishl hx hb eX5_fillDusk_59.2.2.2.2.2.2.2.2.1 ?_
      refine lv_topi (fun v_5 ev_5 => ?_)
      have hp := hp v_5 ev_5
      refine lv_istore (lv' := [(5, .int v_5), (0, .ref xD), (2, .int x2), (3, .int x3), (4, .int x4)]) hx hb eX5_fillDusk_59.2.2.2.2.2.2.2.2.2.1 hl (by decide) rfl (fun ls hl => ?_)
      refine lv_aload_n hx hb eX5_fillDusk_59.2.2.2.2.2.2.2.2.2.2.1 rfl (lv_at hl 1 rfl) ?_
      refine va_get (D := (dC, dI)) (ci := 5) (v := .ref wY) (C := RX5) (T := TX5) (N := 11) hx hb hts i_X5 hown hK hP 0 rfl rfl 0 (Nat.le_of_ble_eq_true rfl) (hts _ q_423) (fun _ h9 => h9) rfl eX5_fillDusk_59.2.2.2.2.2.2.2.2.2.2.2.1 ?_
      refine lv_iload hx hb eX5_fillDusk_59.2.2.2.2.2.2.2.2.2.2.2.2.1 (lv_at hl 4 rfl) ?_
      refine lv_aload_n hx hb eX5_fillDusk_59.2.2.2.2.2.2.2.2.2.2.2.2.2.1 rfl (lv_at hl 1 rfl) ?_
      refine va_get (D := (dC, dI)) (ci := 5) (v := .ref wY) (C := RX5) (T := TX5) (N := 11) hx hb hts i_X5 hown hK hP 0 rfl rfl 0 (Nat.le_of_ble_eq_true rfl) (hts _ q_423) (fun _ h9 => h9) rfl eX5_fillDusk_59.2.2.2.2.2.2.2.2.2.2.2.2.2.2.1 ?_
      refine va_get (D := (dC, dI)) (ci := 0) (v := .ref wQ) (C := RX0) (T := TX0) (N := 3) hx hb hts i_X0 hown hK hP 2 rfl rfl 1 (Nat.le_of_ble_eq_true rfl) (hts _ q_437) (fun _ h9 => h9) rfl eX5_fillDusk_59.2.2.2.2.2.2.2.2.2.2.2.2.2.2.2 ?_
      refine va_get (D := (dC, dI)) (ci := 2) (v := .int fJ) (C := RX2) (T := TX2) (N := 8) hx hb hts i_X2 hown hK hP 11 rfl rfl 4 (Nat.le_of_ble_eq_true rfl) (hts _ q_511) (fun _ h9 => h9) rfl eX5_fillDusk_87.1 ?_
      refine lv_iconst (v := 0) hx hb eX5_fillDusk_87.2.1 ic_0 ?_
      refine lv_iconst (v := 0) hx hb eX5_fillDusk_87.2.2.1 ic_0 ?_
      have hm := mgk (wc := (wd_X0_pickSeconds cI cC cZ cB cJ wY wJ wQ xH tX jE mX pD oO oQ eG uS sW uR qY sY bZ bD bI aI wD gF pE nJ nY jC eO eW dO fJ fY jD nG pG qB sH uP pQ mW qO qQ oF)) hP mk_163 16 rfl rfl rfl
      refine g_calli hP hD hS hA (mixT mk_163) (mixF mk_163) hm.1 hm.2 (nd_F _) (dis_g _) (g_runV (As := [.int x4, .int fJ, .int 0, .int 0]) (rest := []) C0 hP hD hS (mixT mk_163) hm.1 (nd_T _) 2 0 rfl rfl (c_X0_pickSeconds l dC dI cI cC cZ cB cJ wY wJ wQ xH tX jE mX pD oO oQ eG uS sW uR qY sY H.size x4 fJ 0 0 bZ bD bI aI wD gF pE nJ nY jC eO eW dO fJ fY jD nG pG qB sH uP pQ mW qO qQ oF _ hp) q_325 q_507 q_326 q_327 q_187 h_X0_pickSeconds rfl rfl ⟨Nat.le_of_ble_eq_true rfl, Nat.le_of_ble_eq_true rfl⟩ rfl rfl hl.1 rfl (lv_room (Nat.le_of_ble_eq_true rfl)) eX5_fillDusk_87.2.2.2.1 ⟨Nat.zero_le _, Nat.zero_le _⟩) (fun r_6 u H locs hp hP hD hS => ?_)
      obtain ⟨aEs, aEt⟩ := u
      have hPD := PDm (ws' := (wd_X5_fillDusk cI cC cZ cB cJ xD wY wJ uE qU uJ uL uI wQ xH tX jE mX pD oO oQ eG uS sW uR qY sY oX rJ pN rP vK bZ bD bI aI wD gF pE qA nJ nY dQ jC eO eW dO fJ fY jD nG pG qB sH uP pQ mW aEs aEt oF)) hP hD 16 rfl rfl rfl
      have hP := hPD.1
      have hD := hPD.2
      refine lv_istore (lv' := [(6, .int r_6), (5, .int v_5), (0, .ref xD), (2, .int x2), (3, .int x3), (4, .int x4)]) hx hb eX5_fillDusk_87.2.2.2.2.1 hl (by decide) rfl (fun ls hl => ?_)
      refine lv_aload_n hx hb eX5_fillDusk_87.2.2.2.2.2.1 rfl (lv_at hl 2 rfl) ?_
      refine lv_iload_n hx hb eX5_fillDusk_87.2.2.2.2.2.2.1 rfl (lv_at hl 3 rfl) ?_
      refine lv_iconst (v := 1) hx hb eX5_fillDusk_87.2.2.2.2.2.2.2.1 ic_1 ?_
      refine lv_iload hx hb eX5_fillDusk_87.2.2.2.2.2.2.2.2.1 (lv_at hl 0 rfl) ?_
      refine va_mmax hx hb (by rw [hml]; exact hl.1.symm) hown (hts _ q_549) (hts _ q_134) (hts _ q_16) (hts _ q_135) (Nat.le_of_ble_eq_true rfl) (Nat.le_of_ble_eq_true rfl) (Nat.zero_le _) (Nat.zero_le _) eX5_fillDusk_87.2.2.2.2.2.2.2.2.2.1 ?_
      refine lv_topi (fun v_9 ev_9 => ?_)
      have hp := hp v_9 ev_9
      refine lv_aload_n hx hb eX5_fillDusk_87.2.2.2.2.2.2.2.2.2.2.1 rfl (lv_at hl 2 rfl) ?_
      refine va_get (D := (dC, dI)) (ci := 5) (v := .ref wY) (C := RX5) (T := TX5) (N := 11) hx hb hts i_X5 hown hK hP 0 rfl rfl 0 (Nat.le_of_ble_eq_true rfl) (hts _ q_423) (fun _ h9 => h9) rfl eX5_fillDusk_87.2.2.2.2.2.2.2.2.2.2.2.1 ?_
      refine lv_iload hx hb eX5_fillDusk_87.2.2.2.2.2.2.2.2.2.2.2.2.1 (lv_at hl 1 rfl) ?_
      have hm := mgk (wc := (wd_X0_worthOf cI cC cZ cB cJ wY wJ wQ xH tX jE mX pD oO oQ eG bZ bD bI aI pE jC eO eW dO fJ fY jD nG)) hP mk_164 16 rfl rfl rfl
      refine g_calli hP hD hS hA (mixT mk_164) (mixF mk_164) hm.1 hm.2 (nd_F _) (dis_g _) (g_runV (As := [.int v_5]) (rest := [.int v_9, .int x2, .ref xD]) C0 hP hD hS (mixT mk_164) hm.1 (nd_T _) 2 0 rfl rfl (c_X0_worthOf l dC dI cI cC cZ cB cJ wY wJ wQ xH tX jE mX pD oO oQ eG H.size v_5 bZ bD bI aI pE jC eO eW dO fJ fY jD nG _ hp) q_297 q_473 q_298 q_299 q_187 h_X0_worthOf rfl rfl ⟨Nat.le_of_ble_eq_true rfl, Nat.le_of_ble_eq_true rfl⟩ rfl rfl hl.1 rfl (lv_room (Nat.le_of_ble_eq_true rfl)) eX5_fillDusk_87.2.2.2.2.2.2.2.2.2.2.2.2.2.1 ⟨Nat.zero_le _, Nat.zero_le _⟩) (fun r_10 u H locs hp hP hD hS => ?_)
      have hPD := PDm (ws' := (wd_X5_fillDusk cI cC cZ cB cJ xD wY wJ uE qU uJ uL uI wQ xH tX jE mX pD oO oQ eG uS sW uR qY sY oX rJ pN rP vK bZ bD bI aI wD gF pE qA nJ nY dQ jC eO eW dO fJ fY jD nG pG qB sH uP pQ mW aEs aEt oF)) hP hD 16 rfl rfl rfl
      have hP := hPD.1
      have hD := hPD.2
      refine lv_bipush (v := 16) hx hb eX5_fillDusk_87.2.2.2.2.2.2.2.2.2.2.2.2.2.2.1 bp_16 ?_
      refine lv_ishl hx hb eX5_fillDusk_87.2.2.2.2.2.2.2.2.2.2.2.2.2.2.2 ?_
      refine lv_topi (fun v_11 ev_11 => ?_)
      have hp := hp v_11 ev_11
      refine lv_iload hx hb eX5_fillDusk_117.1 (lv_at hl 1 rfl) ?_
      refine lv_isub hx hb eX5_fillDusk_117.2.1 ?_
      refine lv_topi (fun v_12 ev_12 => ?_)
      have hp := hp v_12 ev_12
      have hm := mgk (wc := (wd_X5_addToDusk cI cC cZ cB cJ xD wY wJ uE qU uJ uL uI oX rJ pN rP vK)) hP mk_165 16 rfl rfl rfl
      refine g_callv hP hD hS hA (mixT mk_165) (mixF mk_165) hm.1 hm.2 (nd_F _) (dis_g _) (g_runV (As := [.int x2, .int v_9, .int v_12]) (rest := []) C0 hP hD hS (mixT mk_165) hm.1 (nd_T _) 0 5 rfl rfl (c_X5_addToDusk l dC dI cI cC cZ cB cJ xD wY wJ uE qU uJ uL uI H.size x2 v_9 v_12 oX rJ pN rP vK _ hp) q_550 q_553 q_551 q_552 q_431 h_X5_addToDusk rfl rfl ⟨Nat.le_of_ble_eq_true rfl, Nat.le_of_ble_eq_true rfl⟩ rfl rfl hl.1 rfl (lv_room (Nat.le_of_ble_eq_true rfl)) eX5_fillDusk_117.2.2.1 ⟨Nat.zero_le _, Nat.zero_le _⟩) (fun u H locs hp hP hD hS => ?_)
      obtain ⟨pl_best_13, rfl⟩ : ∃ z, z = u := ⟨_, rfl⟩
      have hPD := PDm (ws' := (wd_X5_fillDusk cI cC cZ cB cJ xD wY wJ uE qU uJ uL uI wQ xH tX jE mX pD oO oQ eG uS sW uR qY sY oX rJ pN rP pl_best_13 bZ bD bI aI wD gF pE qA nJ nY dQ jC eO eW dO fJ fY jD nG pG qB sH uP pQ mW aEs aEt oF)) hP hD 16 rfl rfl rfl
      have hP := hPD.1
      have hD := hPD.2
      exact ks_X5_fillDusk_123 C0 hKn x2 x3 x4 pl_best_13 aEs aEt H locs ls hp hP hD hS (lv_sub hl [2, 3, 4, 5] rfl)
set_option maxHeartbeats 4000000 in
set_option maxRecDepth 100000 in
theorem kb_X5_fillDusk_47 (C0 : gc cX5_fillDusk none 7 RX5 (dC, dI) (tyl cI cC cZ cB cJ) A p s m args meth c) : ∀ (n : Nat), ∀ (x2 x3 x4 : Int32) (vK qO qQ : Nat → Int32) (H : Heap) (locs : List Loc) (ls : Array Slot), (wb_X5_fillDusk_47 post bZ wD gF pE qA nJ nY dQ jC eO eW dO fJ fY jD pG oF n) x2 x3 x4 vK qO qQ → va_P (dC, dI) classes (wd_X5_fillDusk cI cC cZ cB cJ xD wY wJ uE qU uJ uL uI wQ xH tX jE mX pD oO oQ eG uS sW uR qY sY oX rJ pN rP vK bZ bD bI aI wD gF pE qA nJ nY dQ jC eO eW dO fJ fY jD nG pG qB sH uP pQ mW qO qQ oF) H → va_D A (wd_X5_fillDusk cI cC cZ cB cJ xD wY wJ uE qU uJ uL uI wQ xH tX jE mX pD oO oQ eG uS sW uR qY sY oX rJ pN rP vK bZ bD bI aI wD gF pE qA nJ nY dQ jC eO eW dO fJ fY jD nG pG qB sH uP pQ mW qO qQ oF) → va_S A s.heap H locs → lv_has ls 7 [(0, .ref xD), (2, .int x2), (3, .int x3), (4, .int x4)] → W p l e rm_X5_fillDusk s m args below meth c H locs 0 0 (MQ below (q_X5_fillDusk dC dI cI cC cZ cB cJ A xD wY wJ uE qU uJ uL uI wQ xH tX jE mX pD oO oQ eG uS sW uR qY sY oX rJ pN rP bZ bD bI aI wD gF pE qA nJ nY dQ jC eO eW dO fJ fY jD nG pG qB sH uP pQ mW oF post) args s 0 0 A) (F0 m 47 ls []) := by
  intro n
  induction n with
  | zero =>
    intro x2 x3 x4 vK qO qQ H locs ls hp
    exact False.elim hp
  | succ n ih =>
    intro x2 x3 x4 vK qO qQ H locs ls hp
    exact ks_X5_fillDusk_47 C0 ih x2 x3 x4 vK qO qQ H locs ls hp
noncomputable def ws_X5_fillDusk_17 (post : (Nat → Int32) → (Nat → Int32) → (Nat → Int32) → Prop) (next : Int32 → Int32 → (Nat → Int32) → (Nat → Int32) → (Nat → Int32) → Prop) (bZ : Int32) (wD gF pE qA nJ nY dQ : Nat → Int32) (jC eO eW dO fJ fY jD pG : Int32) (oF : Nat → Int32) (x2 x3 : Int32) (vK qO qQ : Nat → Int32) : Prop := (x2 < x3 → wp_X0_readyHere (fun r_2 => ∃ n : Nat, wb_X5_fillDusk_47 post bZ wD gF pE qA nJ nY dQ jC eO eW dO fJ fY jD pG oF n x2 r_2 0 vK qO qQ) bZ wD gF qA nJ nY dQ jC eO eW fJ fY jD) ∧ (¬ x2 < x3 → vp_in x3 301 ∧ (∀ v_14 : Int32, v_14 = x3 + 1 → next x2 v_14 (upd vK x3.toNatClampNeg (-2147483648)) qO qQ))
noncomputable def wb_X5_fillDusk_17 (post : (Nat → Int32) → (Nat → Int32) → (Nat → Int32) → Prop) (bZ : Int32) (wD gF pE qA nJ nY dQ : Nat → Int32) (jC eO eW dO fJ fY jD pG : Int32) (oF : Nat → Int32) : Nat → Int32 → Int32 → (Nat → Int32) → (Nat → Int32) → (Nat → Int32) → Prop := fun n => Nat.rec (motive := fun _ => Int32 → Int32 → (Nat → Int32) → (Nat → Int32) → (Nat → Int32) → Prop) (fun _ _ _ _ _ => False) (fun _ ih => ws_X5_fillDusk_17 post ih bZ wD gF pE qA nJ nY dQ jC eO eW dO fJ fY jD pG oF) n
set_option maxHeartbeats 4000000 in
set_option maxRecDepth 100000 in
theorem ks_X5_fillDusk_17 (C0 : gc cX5_fillDusk none 7 RX5 (dC, dI) (tyl cI cC cZ cB cJ) A p s m args meth c) {next : Int32 → Int32 → (Nat → Int32) → (Nat → Int32) → (Nat → Int32) → Prop} (hKn : ∀ (x2 : Int32) (x3 : Int32) (vK : Nat → Int32) (qO : Nat → Int32) (qQ : Nat → Int32) (H : Heap) (locs : List Loc) (ls : Array Slot), next x2 x3 vK qO qQ → va_P (dC, dI) classes (wd_X5_fillDusk cI cC cZ cB cJ xD wY wJ uE qU uJ uL uI wQ xH tX jE mX pD oO oQ eG uS sW uR qY sY oX rJ pN rP vK bZ bD bI aI wD gF pE qA nJ nY dQ jC eO eW dO fJ fY jD nG pG qB sH uP pQ mW qO qQ oF) H → va_D A (wd_X5_fillDusk cI cC cZ cB cJ xD wY wJ uE qU uJ uL uI wQ xH tX jE mX pD oO oQ eG uS sW uR qY sY oX rJ pN rP vK bZ bD bI aI wD gF pE qA nJ nY dQ jC eO eW dO fJ fY jD nG pG qB sH uP pQ mW qO qQ oF) → va_S A s.heap H locs → lv_has ls 7 [(0, .ref xD), (2, .int x2), (3, .int x3)] → W p l e rm_X5_fillDusk s m args below meth c H locs 0 0 (MQ below (q_X5_fillDusk dC dI cI cC cZ cB cJ A xD wY wJ uE qU uJ uL uI wQ xH tX jE mX pD oO oQ eG uS sW uR qY sY oX rJ pN rP bZ bD bI aI wD gF pE qA nJ nY dQ jC eO eW dO fJ fY jD nG pG qB sH uP pQ mW oF post) args s 0 0 A) (F0 m 17 ls [])) : ∀ (x2 x3 : Int32) (vK qO qQ : Nat → Int32) (H : Heap) (locs : List Loc) (ls : Array Slot), (ws_X5_fillDusk_17 post next bZ wD gF pE qA nJ nY dQ jC eO eW dO fJ fY jD pG oF) x2 x3 vK qO qQ → va_P (dC, dI) classes (wd_X5_fillDusk cI cC cZ cB cJ xD wY wJ uE qU uJ uL uI wQ xH tX jE mX pD oO oQ eG uS sW uR qY sY oX rJ pN rP vK bZ bD bI aI wD gF pE qA nJ nY dQ jC eO eW dO fJ fY jD nG pG qB sH uP pQ mW qO qQ oF) H → va_D A (wd_X5_fillDusk cI cC cZ cB cJ xD wY wJ uE qU uJ uL uI wQ xH tX jE mX pD oO oQ eG uS sW uR qY sY oX rJ pN rP vK bZ bD bI aI wD gF pE qA nJ nY dQ jC eO eW dO fJ fY jD nG pG qB sH uP pQ mW qO qQ oF) → va_S A s.heap H locs → lv_has ls 7 [(0, .ref xD), (2, .int x2), (3, .int x3)] → W p l e rm_X5_fillDusk s m args below meth c H locs 0 0 (MQ below (q_X5_fillDusk dC dI cI cC cZ cB cJ A xD wY wJ uE qU uJ uL uI wQ xH tX jE mX pD oO oQ eG uS sW uR qY sY oX rJ pN rP bZ bD bI aI wD gF pE qA nJ nY dQ jC eO eW dO fJ fY jD nG pG qB sH uP pQ mW oF post) args s 0 0 A) (F0 m 17 ls []) := by
  obtain ⟨hx, hb, hr, hml, hown, hts, hlocks, hA, hK, hN, tL, tM, hZL, hTL, hZM, hTM, hZX⟩ := id C0
  intro x2 x3 vK qO qQ H locs ls hp hP hD hS hl
  unfold ws_X5_fillDusk_17 at hp
  refine lv_iload_n hx hb eX5_fillDusk_0.2.2.2.2.2.2.2.2.2.2.2.1 rfl (lv_at hl 2 rfl) ?_
  refine lv_iload_n hx hb eX5_fillDusk_0.2.2.2.2.2.2.2.2.2.2.2.2.1 rfl (lv_at hl 1 rfl) ?_
  refine lv_icmp_gt (tgt := 36) hx hb eX5_fillDusk_0.2.2.2.2.2.2.2.2.2.2.2.2.2.1 (by decide) (fun hc => ?_) (fun hc => ?_)
  · have hp := hp.1 hc
    refine lv_aload_n hx hb eX5_fillDusk_26.2.2.2.2.2.1 rfl (lv_at hl 0 rfl) ?_
    refine va_get (D := (dC, dI)) (ci := 5) (v := .ref wY) (C := RX5) (T := TX5) (N := 11) hx hb hts i_X5 hown hK hP 0 rfl rfl 0 (Nat.le_of_ble_eq_true rfl) (hts _ q_423) (fun _ h9 => h9) rfl eX5_fillDusk_26.2.2.2.2.2.2.1 ?_
    have hm := mgk (wc := (wd_X0_readyHere cI cC cZ cB cJ wY wJ wQ xH tX jE mX pD oO oQ eG bZ bD bI aI wD gF qA nJ nY dQ jC eO eW dO fJ fY jD nG)) hP mk_166 16 rfl rfl rfl
    refine g_calli hP hD hS hA (mixT mk_166) (mixF mk_166) hm.1 hm.2 (nd_F _) (dis_g _) (g_runV (As := []) (rest := []) C0 hP hD hS (mixT mk_166) hm.1 (nd_T _) 2 0 rfl rfl (c_X0_readyHere l dC dI cI cC cZ cB cJ wY wJ wQ xH tX jE mX pD oO oQ eG H.size bZ bD bI aI wD gF qA nJ nY dQ jC eO eW dO fJ fY jD nG _ hp) q_347 q_548 q_348 q_349 q_187 h_X0_readyHere rfl rfl ⟨Nat.le_of_ble_eq_true rfl, Nat.le_of_ble_eq_true rfl⟩ rfl rfl hl.1 rfl (lv_room (Nat.le_of_ble_eq_true rfl)) eX5_fillDusk_26.2.2.2.2.2.2.2.1 ⟨Nat.zero_le _, Nat.zero_le _⟩) (fun r_2 u H locs hp hP hD hS => ?_)
    have hPD := PDm (ws' := (wd_X5_fillDusk cI cC cZ cB cJ xD wY wJ uE qU uJ uL uI wQ xH tX jE mX pD oO oQ eG uS sW uR qY sY oX rJ pN rP vK bZ bD bI aI wD gF pE qA nJ nY dQ jC eO eW dO fJ fY jD nG pG qB sH uP pQ mW qO qQ oF)) hP hD 16 rfl rfl rfl
    have hP := hPD.1
    have hD := hPD.2
    refine lv_istore_n (lv' := [(3, .int r_2), (0, .ref xD), (2, .int x2)]) hx hb eX5_fillDusk_26.2.2.2.2.2.2.2.2.1 rfl hl (by decide) rfl (fun ls hl => ?_)
    refine lv_iconst (v := 0) hx hb eX5_fillDusk_26.2.2.2.2.2.2.2.2.2.1 ic_0 ?_
    refine lv_istore (lv' := [(4, .int 0), (3, .int r_2), (0, .ref xD), (2, .int x2)]) hx hb eX5_fillDusk_26.2.2.2.2.2.2.2.2.2.2.1 hl (by decide) rfl (fun ls hl => ?_)
    obtain ⟨n9, hp⟩ := hp
    exact kb_X5_fillDusk_47 C0 n9 x2 r_2 0 vK qO qQ H locs ls hp hP hD hS (lv_sub hl [2, 3, 1, 0] rfl)
  · have hp := hp.2 hc
    refine lv_aload_n hx hb eX5_fillDusk_0.2.2.2.2.2.2.2.2.2.2.2.2.2.2.1 rfl (lv_at hl 0 rfl) ?_
    refine va_get (D := (dC, dI)) (ci := 5) (v := .ref uI) (C := RX5) (T := TX5) (N := 11) hx hb hts i_X5 hown hK hP 0 rfl rfl 6 (Nat.le_of_ble_eq_true rfl) (hts _ q_545) (fun _ h9 => h9) rfl eX5_fillDusk_0.2.2.2.2.2.2.2.2.2.2.2.2.2.2.2 ?_
    refine lv_iload_n hx hb eX5_fillDusk_26.1 rfl (lv_at hl 2 rfl) ?_
    refine lv_ldc (v := (-2147483648)) hx hb hown (hts _ q_546) eX5_fillDusk_26.2.1 ?_
    have hin := hp.1
    have hp := hp.2
    refine va_iast hx hb hK hP hD hS 1 0 rfl rfl hin eX5_fillDusk_26.2.2.1 (fun H locs hP hD hS => ?_)
    have hP : va_P (dC, dI) classes (wd_X5_fillDusk cI cC cZ cB cJ xD wY wJ uE qU uJ uL uI wQ xH tX jE mX pD oO oQ eG uS sW uR qY sY oX rJ pN rP (upd vK x3.toNatClampNeg (-2147483648)) bZ bD bI aI wD gF pE qA nJ nY dQ jC eO eW dO fJ fY jD nG pG qB sH uP pQ mW qO qQ oF) H := hP
    have hD : va_D A (wd_X5_fillDusk cI cC cZ cB cJ xD wY wJ uE qU uJ uL uI wQ xH tX jE mX pD oO oQ eG uS sW uR qY sY oX rJ pN rP (upd vK x3.toNatClampNeg (-2147483648)) bZ bD bI aI wD gF pE qA nJ nY dQ jC eO eW dO fJ fY jD nG pG qB sH uP pQ mW qO qQ oF) := hD
    obtain ⟨v_14, ev_14⟩ : ∃ y : Int32, y = x3 + 1 := ⟨_, rfl⟩
    refine lv_iinc (v := v_14) (lv' := [(3, .int v_14), (0, .ref xD), (2, .int x2)]) hx hb eX5_fillDusk_26.2.2.2.1 hl (k := 2) rfl (by rw [ev_14]; rfl) (by decide) rfl (fun ls hl => ?_)
    have hp := hp v_14 ev_14
    refine lv_goto (tgt := 17) hx hb eX5_fillDusk_26.2.2.2.2.1 (by decide) ?_
    exact hKn x2 v_14 (upd vK x3.toNatClampNeg (-2147483648)) qO qQ H locs ls hp hP hD hS (lv_sub hl [1, 2, 0] rfl)
set_option maxHeartbeats 4000000 in
set_option maxRecDepth 100000 in
theorem kb_X5_fillDusk_17 (C0 : gc cX5_fillDusk none 7 RX5 (dC, dI) (tyl cI cC cZ cB cJ) A p s m args meth c) : ∀ (n : Nat), ∀ (x2 x3 : Int32) (vK qO qQ : Nat → Int32) (H : Heap) (locs : List Loc) (ls : Array Slot), (wb_X5_fillDusk_17 post bZ wD gF pE qA nJ nY dQ jC eO eW dO fJ fY jD pG oF n) x2 x3 vK qO qQ → va_P (dC, dI) classes (wd_X5_fillDusk cI cC cZ cB cJ xD wY wJ uE qU uJ uL uI wQ xH tX jE mX pD oO oQ eG uS sW uR qY sY oX rJ pN rP vK bZ bD bI aI wD gF pE qA nJ nY dQ jC eO eW dO fJ fY jD nG pG qB sH uP pQ mW qO qQ oF) H → va_D A (wd_X5_fillDusk cI cC cZ cB cJ xD wY wJ uE qU uJ uL uI wQ xH tX jE mX pD oO oQ eG uS sW uR qY sY oX rJ pN rP vK bZ bD bI aI wD gF pE qA nJ nY dQ jC eO eW dO fJ fY jD nG pG qB sH uP pQ mW qO qQ oF) → va_S A s.heap H locs → lv_has ls 7 [(0, .ref xD), (2, .int x2), (3, .int x3)] → W p l e rm_X5_fillDusk s m args below meth c H locs 0 0 (MQ below (q_X5_fillDusk dC dI cI cC cZ cB cJ A xD wY wJ uE qU uJ uL uI wQ xH tX jE mX pD oO oQ eG uS sW uR qY sY oX rJ pN rP bZ bD bI aI wD gF pE qA nJ nY dQ jC eO eW dO fJ fY jD nG pG qB sH uP pQ mW oF post) args s 0 0 A) (F0 m 17 ls []) := by
  intro n
  induction n with
  | zero =>
    intro x2 x3 vK qO qQ H locs ls hp
    exact False.elim hp
  | succ n ih =>
    intro x2 x3 vK qO qQ H locs ls hp
    exact ks_X5_fillDusk_17 C0 ih x2 x3 vK qO qQ H locs ls hp
end S_X5_fillDusk
noncomputable def wp_X5_fillDusk (post : (Nat → Int32) → (Nat → Int32) → (Nat → Int32) → Prop) (p0 : Int32) (vK : Nat → Int32) (bZ : Int32) (wD gF pE qA nJ nY dQ : Nat → Int32) (jC eO eW dO fJ fY jD pG : Int32) (qO qQ oF : Nat → Int32) : Prop := ∀ v_1 : Int32, v_1 = (if 300 < p0 then 300 else p0) → ∃ n : Nat, wb_X5_fillDusk_17 post bZ wD gF pE qA nJ nY dQ jC eO eW dO fJ fY jD pG oF n v_1 1 (upd vK (0 : Int32).toNatClampNeg 0) qO qQ
set_option maxHeartbeats 4000000 in
set_option maxRecDepth 100000 in
theorem c_X5_fillDusk (l : Launch) (dC : Nat → ClassId) (dI : Nat → Nat → Nat) (cI cC cZ cB cJ : ClassId) (xD wY wJ uE qU uJ uL uI wQ xH tX jE mX pD oO oQ eG uS sW uR qY sY sz : Nat) (p0 oX rJ pN rP : Int32) (vK : Nat → Int32) (bZ bD bI aI : Int32) (wD gF pE qA nJ nY dQ : Nat → Int32) (jC eO eW dO fJ fY jD nG pG qB sH uP pQ mW : Int32) (qO qQ oF : Nat → Int32) (post : (Nat → Int32) → (Nat → Int32) → (Nat → Int32) → Prop) (hw : wp_X5_fillDusk post p0 vK bZ wD gF pE qA nJ nY dQ jC eO eW dO fJ fY jD pG qO qQ oF) : Met l yX5_fillDusk (gw yX5_fillDusk cX5_fillDusk 7 none) rm_X5_fillDusk (va_Pc [.ref xD, .int p0] (gPre (dC, dI) (tyl cI cC cZ cB cJ) (wd_X5_fillDusk cI cC cZ cB cJ xD wY wJ uE qU uJ uL uI wQ xH tX jE mX pD oO oQ eG uS sW uR qY sY oX rJ pN rP vK bZ bD bI aI wD gF pE qA nJ nY dQ jC eO eW dO fJ fY jD nG pG qB sH uP pQ mW qO qQ oF) sz)) (q_X5_fillDusk dC dI cI cC cZ cB cJ (va_A (wd_X5_fillDusk cI cC cZ cB cJ xD wY wJ uE qU uJ uL uI wQ xH tX jE mX pD oO oQ eG uS sW uR qY sY oX rJ pN rP vK bZ bD bI aI wD gF pE qA nJ nY dQ jC eO eW dO fJ fY jD nG pG qB sH uP pQ mW qO qQ oF) sz) xD wY wJ uE qU uJ uL uI wQ xH tX jE mX pD oO oQ eG uS sW uR qY sY oX rJ pN rP bZ bD bI aI wD gF pE qA nJ nY dQ jC eO eW dO fJ fY jD nG pG qB sH uP pQ mW oF post) 0 0 (va_A (wd_X5_fillDusk cI cC cZ cB cJ xD wY wJ uE qU uJ uL uI wQ xH tX jE mX pD oO oQ eG uS sW uR qY sY oX rJ pN rP vK bZ bD bI aI wD gF pE qA nJ nY dQ jC eO eW dO fJ fY jD nG pG qB sH uP pQ mW qO qQ oF) sz) := by
  refine g_enter (own := RX5) (dC, dI) (tyl cI cC cZ cB cJ) (wd_X5_fillDusk cI cC cZ cB cJ xD wY wJ uE qU uJ uL uI wQ xH tX jE mX pD oO oQ eG uS sW uR qY sY oX rJ pN rP vK bZ bD bI aI wD gF pE qA nJ nY dQ jC eO eW dO fJ fY jD nG pG qB sH uP pQ mW qO qQ oF) sz [.ref xD, .int p0] (fun A => q_X5_fillDusk dC dI cI cC cZ cB cJ A xD wY wJ uE qU uJ uL uI wQ xH tX jE mX pD oO oQ eG uS sW uR qY sY oX rJ pN rP bZ bD bI aI wD gF pE qA nJ nY dQ jC eO eW dO fJ fY jD nG pG qB sH uP pQ mW oF post) pn_RX5 rfl (Nat.le_of_ble_eq_true rfl) ?_
  intro p e s m args below meth c A H locs ls C0 hP hD hS hl
  have hl : lv_has ls 7 [(0, .ref xD), (1, .int p0)] := hl
  obtain ⟨hx, hb, hr, hml, hown, hts, hlocks, hA, hK, hN, tL, tM, hZL, hTL, hZM, hTM, hZX⟩ := id C0
  have hp := hw
  unfold wp_X5_fillDusk at hp
  refine lv_iload_n hx hb eX5_fillDusk_0.1 rfl (lv_at hl 1 rfl) ?_
  refine lv_sipush (v := 300) hx hb eX5_fillDusk_0.2.1 sp_300 ?_
  refine va_mmin hx hb (by rw [hml]; exact hl.1.symm) hown (hts _ q_547) (hts _ q_15) (hts _ q_16) (hts _ q_17) (Nat.le_of_ble_eq_true rfl) (Nat.le_of_ble_eq_true rfl) (Nat.zero_le _) (Nat.zero_le _) eX5_fillDusk_0.2.2.1 ?_
  refine lv_topi (fun v_1 ev_1 => ?_)
  have hp := hp v_1 ev_1
  refine lv_istore_n (lv' := [(2, .int v_1), (0, .ref xD), (1, .int p0)]) hx hb eX5_fillDusk_0.2.2.2.1 rfl hl (by decide) rfl (fun ls hl => ?_)
  refine lv_aload_n hx hb eX5_fillDusk_0.2.2.2.2.1 rfl (lv_at hl 1 rfl) ?_
  refine va_get (D := (dC, dI)) (ci := 5) (v := .ref uI) (C := RX5) (T := TX5) (N := 11) hx hb hts i_X5 hown hK hP 0 rfl rfl 6 (Nat.le_of_ble_eq_true rfl) (hts _ q_545) (fun _ h9 => h9) rfl eX5_fillDusk_0.2.2.2.2.2.1 ?_
  refine lv_iconst (v := 0) hx hb eX5_fillDusk_0.2.2.2.2.2.2.1 ic_0 ?_
  refine lv_iconst (v := 0) hx hb eX5_fillDusk_0.2.2.2.2.2.2.2.1 ic_0 ?_
  refine va_iast hx hb hK hP hD hS 1 0 rfl rfl (g_in rfl) eX5_fillDusk_0.2.2.2.2.2.2.2.2.1 (fun H locs hP hD hS => ?_)
  have hP : va_P (dC, dI) classes (wd_X5_fillDusk cI cC cZ cB cJ xD wY wJ uE qU uJ uL uI wQ xH tX jE mX pD oO oQ eG uS sW uR qY sY oX rJ pN rP (upd vK (0 : Int32).toNatClampNeg 0) bZ bD bI aI wD gF pE qA nJ nY dQ jC eO eW dO fJ fY jD nG pG qB sH uP pQ mW qO qQ oF) H := hP
  have hD : va_D A (wd_X5_fillDusk cI cC cZ cB cJ xD wY wJ uE qU uJ uL uI wQ xH tX jE mX pD oO oQ eG uS sW uR qY sY oX rJ pN rP (upd vK (0 : Int32).toNatClampNeg 0) bZ bD bI aI wD gF pE qA nJ nY dQ jC eO eW dO fJ fY jD nG pG qB sH uP pQ mW qO qQ oF) := hD
  refine lv_iconst (v := 1) hx hb eX5_fillDusk_0.2.2.2.2.2.2.2.2.2.1 ic_1 ?_
  refine lv_istore_n (lv' := [(3, .int 1), (2, .int v_1), (0, .ref xD), (1, .int p0)]) hx hb eX5_fillDusk_0.2.2.2.2.2.2.2.2.2.2.1 rfl hl (by decide) rfl (fun ls hl => ?_)
  obtain ⟨n9, hp⟩ := hp
  exact kb_X5_fillDusk_17 C0 n9 v_1 1 (upd vK (0 : Int32).toNatClampNeg 0) qO qQ H locs ls hp hP hD hS (lv_sub hl [2, 1, 0] rfl)
