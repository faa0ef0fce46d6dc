noncomputable abbrev wd_X9_fits (cI cC cZ cB cJ : ClassId) (a_x xG xD wY wJ wQ xI xK xJ tW uE qU uJ uL uI xH tX jE mX pD oO oQ eG qT : Nat) (oX rJ pN rP : Int32) (rX : Nat → Int32) (bZ bD bI aI : Int32) (wD gF qA nJ nY dQ : Nat → Int32) (jC eO eW dO fJ fY jD nG qF : Int32) (jJ : Nat → Int32) : va_W := [(a_x, .inr (9, [.ref xG, .ref xD, .ref wY, .ref wJ, .ref wQ, .ref xI, .ref xK, .ref xJ, .ref tW])), (xD, .inr (5, [.ref wY, .ref wJ, .ref uE, .ref qU, .ref uJ, .ref uL, .ref uI, .int oX, .int rJ, .int pN, .int rP])), (uE, .inl (cI, 8, .inl rX)), (wY, .inr (0, [.ref wJ, .ref wQ, .ref xH])), (wJ, .inr (3, [.ref tX, .ref jE, .ref mX, .ref pD, .ref oO, .ref oQ, .ref eG, .int bZ, .int bD, .int bI, .int aI])), (tX, .inl (cI, 16, .inl wD)), (jE, .inl (cI, 16, .inl gF)), (pD, .inl (cI, 16, .inl qA)), (oO, .inl (cI, 8, .inl nJ)), (oQ, .inl (cI, 8, .inl nY)), (eG, .inl (cI, 5, .inl dQ)), (wQ, .inr (2, [.int jC, .int eO, .int eW, .int dO, .int fJ, .int fY, .int jD, .int nG])), (xK, .inr (6, [.ref qT, .int qF])), (qT, .inl (cI, 16, .inl jJ))]
noncomputable abbrev q_X9_fits (dC : Nat → ClassId) (dI : Nat → Nat → Nat) (cI cC cZ cB cJ : ClassId) (A : Nat → Prop) (a_x xG xD wY wJ wQ xI xK xJ tW uE qU uJ uL uI xH tX jE mX pD oO oQ eG qT : Nat) (rJ pN rP bZ bD bI aI : Int32) (wD gF qA nJ nY dQ : Nat → Int32) (jC eO eW dO fJ fY jD nG : Int32) (post : Int32 → Int32 → (Nat → Int32) → Int32 → (Nat → Int32) → Prop) : Array Value → State → Outcome → State → Prop := va_Qi (fun (r : Int32) (u : Int32 × (Nat → Int32) × Int32 × (Nat → Int32)) => post r u.1 u.2.1 u.2.2.1 u.2.2.2) (fun u t => gB (dC, dI) (tyl cI cC cZ cB cJ) A (wd_X9_fits cI cC cZ cB cJ a_x xG xD wY wJ wQ xI xK xJ tW uE qU uJ uL uI xH tX jE mX pD oO oQ eG qT u.1 rJ pN rP u.2.1 bZ bD bI aI wD gF qA nJ nY dQ jC eO eW dO fJ fY jD nG u.2.2.1 u.2.2.2) t) A
noncomputable abbrev rm_X9_fits : Room := { frames := 5, cells := 0, slots := 0, locals := 115 }
section S_X9_fits
variable {p : Program} {l : Launch} {e : Env} {s : State} {m : MethodId} {args : Array Value} {below : List Frame} {meth : Method} {c : Code} {dC : Nat → ClassId} {dI : Nat → Nat → Nat} {cI cC cZ cB cJ : ClassId} {A : Nat → Prop} {a_x xG xD wY wJ wQ xI xK xJ tW uE qU uJ uL uI xH tX jE mX pD oO oQ eG qT : Nat} {rJ pN rP bZ bD bI aI : Int32} {wD gF qA nJ nY dQ : Nat → Int32} {jC eO eW dO fJ fY jD nG : Int32} {post : Int32 → Int32 → (Nat → Int32) → Int32 → (Nat → Int32) → Prop}
noncomputable def ws_X9_fits_104 (post : Int32 → Int32 → (Nat → Int32) → Int32 → (Nat → Int32) → Prop) (K33 : Int32 → Int32 → Int32 → Int32 → Int32 → Int32 → (Nat → Int32) → Int32 → (Nat → Int32) → Prop) (bZ bD : Int32) (wD gF qA nJ nY dQ : Nat → Int32) (jC eO eW fY jD x1 x2 x3 x4 x5 oX : Int32) (rX : Nat → Int32) (qF : Int32) (jJ : Nat → Int32) : Prop := ∀ v_8 : Int32, v_8 = x5 + 1 → K33 x1 x2 x3 x4 v_8 oX rX qF jJ
set_option maxHeartbeats 4000000 in
set_option maxRecDepth 100000 in
theorem ks_X9_fits_104 (C0 : gc cX9_fits (some .int) 6 RX9 (dC, dI) (tyl cI cC cZ cB cJ) A p s m args meth c) {K33 : Int32 → Int32 → Int32 → Int32 → Int32 → Int32 → (Nat → Int32) → Int32 → (Nat → Int32) → Prop} (hK33 : ∀ (x1 : Int32) (x2 : Int32) (x3 : Int32) (x4 : Int32) (x5 : Int32) (oX : Int32) (rX : Nat → Int32) (qF : Int32) (jJ : Nat → Int32) (H : Heap) (locs : List Loc) (ls : Array Slot), K33 x1 x2 x3 x4 x5 oX rX qF jJ → va_P (dC, dI) classes (wd_X9_fits cI cC cZ cB cJ a_x xG xD wY wJ wQ xI xK xJ tW uE qU uJ uL uI xH tX jE mX pD oO oQ eG qT oX rJ pN rP rX bZ bD bI aI wD gF qA nJ nY dQ jC eO eW dO fJ fY jD nG qF jJ) H → va_D A (wd_X9_fits cI cC cZ cB cJ a_x xG xD wY wJ wQ xI xK xJ tW uE qU uJ uL uI xH tX jE mX pD oO oQ eG qT oX rJ pN rP rX bZ bD bI aI wD gF qA nJ nY dQ jC eO eW dO fJ fY jD nG qF jJ) → va_S A s.heap H locs → lv_has ls 6 [(0, .ref a_x), (1, .int x1), (2, .int x2), (3, .int x3), (4, .int x4), (5, .int x5)] → W p l e rm_X9_fits s m args below meth c H locs 0 0 (MQ below (q_X9_fits dC dI cI cC cZ cB cJ A a_x xG xD wY wJ wQ xI xK xJ tW uE qU uJ uL uI xH tX jE mX pD oO oQ eG qT rJ pN rP bZ bD bI aI wD gF qA nJ nY dQ jC eO eW dO fJ fY jD nG post) args s 0 0 A) (F0 m 33 ls [])) : ∀ (x1 x2 x3 x4 x5 oX : Int32) (rX : Nat → Int32) (qF : Int32) (jJ : Nat → Int32) (H : Heap) (locs : List Loc) (ls : Array Slot), (ws_X9_fits_104 post K33 bZ bD wD gF qA nJ nY dQ jC eO eW fY jD) x1 x2 x3 x4 x5 oX rX qF jJ → va_P (dC, dI) classes (wd_X9_fits cI cC cZ cB cJ a_x xG xD wY wJ wQ xI xK xJ tW uE qU uJ uL uI xH tX jE mX pD oO oQ eG qT oX rJ pN rP rX bZ bD bI aI wD gF qA nJ nY dQ jC eO eW dO fJ fY jD nG qF jJ) H → va_D A (wd_X9_fits cI cC cZ cB cJ a_x xG xD wY wJ wQ xI xK xJ tW uE qU uJ uL uI xH tX jE mX pD oO oQ eG qT oX rJ pN rP rX bZ bD bI aI wD gF qA nJ nY dQ jC eO eW dO fJ fY jD nG qF jJ) → va_S A s.heap H locs → lv_has ls 6 [(0, .ref a_x), (1, .int x1), (2, .int x2), (3, .int x3), (4, .int x4), (5, .int x5)] → W p l e rm_X9_fits s m args below meth c H locs 0 0 (MQ below (q_X9_fits dC dI cI cC cZ cB cJ A a_x xG xD wY wJ wQ xI xK xJ tW uE qU uJ uL uI xH tX jE mX pD oO oQ eG qT rJ pN rP bZ bD bI aI wD gF qA nJ nY dQ jC eO eW dO fJ fY jD nG post) args s 0 0 A) (F0 m 104 ls []) := by
  obtain ⟨hx, hb, hr, hml, hown, hts, hlocks, hA, hK, hN, tL, tM, hZL, hTL, hZM, hTM, hZX⟩ := id C0
  intro x1 x2 x3 x4 x5 oX rX qF jJ H locs ls hp hP hD hS hl
  unfold ws_X9_fits_104 at hp
  obtain ⟨v_8, ev_8⟩ : ∃ y : Int32, y = x5 + 1 := ⟨_, rfl⟩
  refine lv_iinc (v := v_8) (lv' := [(5, .int v_8), (0, .ref a_x), (1, .int x1), (2, .int x2), (3, .int x3), (4, .int x4)]) hx hb eX9_fits_92.2.2.2.2.2.1 hl (k := 5) rfl (by rw [ev_8]; rfl) (by decide) rfl (fun ls hl => ?_)
  have hp := hp v_8 ev_8
  refine lv_goto (tgt := 33) hx hb eX9_fits_92.2.2.2.2.2.2.1 (by decide) ?_
  exact hK33 x1 x2 x3 x4 v_8 oX rX qF jJ H locs ls hp hP hD hS (lv_sub hl [1, 2, 3, 4, 5, 0] rfl)
noncomputable def ws_X9_fits_100 (post : Int32 → Int32 → (Nat → Int32) → Int32 → (Nat → Int32) → Prop) (K33 : Int32 → Int32 → Int32 → Int32 → Int32 → Int32 → (Nat → Int32) → Int32 → (Nat → Int32) → Prop) (bZ bD : Int32) (wD gF qA nJ nY dQ : Nat → Int32) (jC eO eW fY jD x1 x2 x3 x5 oX : Int32) (rX : Nat → Int32) (qF : Int32) (jJ : Nat → Int32) : Prop := ws_X9_fits_104 post K33 bZ bD wD gF qA nJ nY dQ jC eO eW fY jD x1 x2 x3 x5 x5 oX rX qF jJ
set_option maxHeartbeats 4000000 in
set_option maxRecDepth 100000 in
theorem ks_X9_fits_100 (C0 : gc cX9_fits (some .int) 6 RX9 (dC, dI) (tyl cI cC cZ cB cJ) A p s m args meth c) {K33 : Int32 → Int32 → Int32 → Int32 → Int32 → Int32 → (Nat → Int32) → Int32 → (Nat → Int32) → Prop} (hK33 : ∀ (x1 : Int32) (x2 : Int32) (x3 : Int32) (x4 : Int32) (x5 : Int32) (oX : Int32) (rX : Nat → Int32) (qF : Int32) (jJ : Nat → Int32) (H : Heap) (locs : List Loc) (ls : Array Slot), K33 x1 x2 x3 x4 x5 oX rX qF jJ → va_P (dC, dI) classes (wd_X9_fits cI cC cZ cB cJ a_x xG xD wY wJ wQ xI xK xJ tW uE qU uJ uL uI xH tX jE mX pD oO oQ eG qT oX rJ pN rP rX bZ bD bI aI wD gF qA nJ nY dQ jC eO eW dO fJ fY jD nG qF jJ) H → va_D A (wd_X9_fits cI cC cZ cB cJ a_x xG xD wY wJ wQ xI xK xJ tW uE qU uJ uL uI xH tX jE mX pD oO oQ eG qT oX rJ pN rP rX bZ bD bI aI wD gF qA nJ nY dQ jC eO eW dO fJ fY jD nG qF jJ) → va_S A s.heap H locs → lv_has ls 6 [(0, .ref a_x), (1, .int x1), (2, .int x2), (3, .int x3), (4, .int x4), (5, .int x5)] → W p l e rm_X9_fits s m args below meth c H locs 0 0 (MQ below (q_X9_fits dC dI cI cC cZ cB cJ A a_x xG xD wY wJ wQ xI xK xJ tW uE qU uJ uL uI xH tX jE mX pD oO oQ eG qT rJ pN rP bZ bD bI aI wD gF qA nJ nY dQ jC eO eW dO fJ fY jD nG post) args s 0 0 A) (F0 m 33 ls [])) : ∀ (x1 x2 x3 x5 oX : Int32) (rX : Nat → Int32) (qF : Int32) (jJ : Nat → Int32) (H : Heap) (locs : List Loc) (ls : Array Slot), (ws_X9_fits_100 post K33 bZ bD wD gF qA nJ nY dQ jC eO eW fY jD) x1 x2 x3 x5 oX rX qF jJ → va_P (dC, dI) classes (wd_X9_fits cI cC cZ cB cJ a_x xG xD wY wJ wQ xI xK xJ tW uE qU uJ uL uI xH tX jE mX pD oO oQ eG qT oX rJ pN rP rX bZ bD bI aI wD gF qA nJ nY dQ jC eO eW dO fJ fY jD nG qF jJ) H → va_D A (wd_X9_fits cI cC cZ cB cJ a_x xG xD wY wJ wQ xI xK xJ tW uE qU uJ uL uI xH tX jE mX pD oO oQ eG qT oX rJ pN rP rX bZ bD bI aI wD gF qA nJ nY dQ jC eO eW dO fJ fY jD nG qF jJ) → va_S A s.heap H locs → lv_has ls 6 [(0, .ref a_x), (1, .int x1), (2, .int x2), (3, .int x3), (5, .int x5)] → W p l e rm_X9_fits s m args below meth c H locs 0 0 (MQ below (q_X9_fits dC dI cI cC cZ cB cJ A a_x xG xD wY wJ wQ xI xK xJ tW uE qU uJ uL uI xH tX jE mX pD oO oQ eG qT rJ pN rP bZ bD bI aI wD gF qA nJ nY dQ jC eO eW dO fJ fY jD nG post) args s 0 0 A) (F0 m 100 ls []) := by
  obtain ⟨hx, hb, hr, hml, hown, hts, hlocks, hA, hK, hN, tL, tM, hZL, hTL, hZM, hTM, hZX⟩ := id C0
  intro x1 x2 x3 x5 oX rX qF jJ H locs ls hp hP hD hS hl
  unfold ws_X9_fits_100 at hp
  refine lv_iload hx hb eX9_fits_92.2.2.2.1 (lv_at hl 4 rfl) ?_
  refine lv_istore (lv' := [(4, .int x5), (0, .ref a_x), (1, .int x1), (2, .int x2), (3, .int x3), (5, .int x5)]) hx hb eX9_fits_92.2.2.2.2.1 hl (by decide) rfl (fun ls hl => ?_)
  exact ks_X9_fits_104 C0 hK33 x1 x2 x3 x5 x5 oX rX qF jJ H locs ls hp hP hD hS (lv_sub hl [1, 2, 3, 4, 0, 5] rfl)
noncomputable def ws_X9_fits_81 (post : Int32 → Int32 → (Nat → Int32) → Int32 → (Nat → Int32) → Prop) (K33 : Int32 → Int32 → Int32 → Int32 → Int32 → Int32 → (Nat → Int32) → Int32 → (Nat → Int32) → Prop) (bZ bD : Int32) (wD gF qA nJ nY dQ : Nat → Int32) (jC eO eW fY jD x1 x2 x3 x4 x5 oX : Int32) (rX : Nat → Int32) (qF : Int32) (jJ : Nat → Int32) : Prop := (x4 = (-1) → ws_X9_fits_100 post K33 bZ bD wD gF qA nJ nY dQ jC eO eW fY jD x1 x2 x3 x5 oX rX qF jJ) ∧ (¬ x4 = (-1) → wp_J6_bitCount_0f7a4 (fun r_10 => wp_J6_bitCount_0f7a4 (fun r_11 => (r_10 ≤ r_11 → ws_X9_fits_104 post K33 bZ bD wD gF qA nJ nY dQ jC eO eW fY jD x1 x2 x3 x4 x5 oX rX qF jJ) ∧ (¬ r_10 ≤ r_11 → ws_X9_fits_100 post K33 bZ bD wD gF qA nJ nY dQ jC eO eW fY jD x1 x2 x3 x5 oX rX qF jJ)) x4) x5)
set_option maxHeartbeats 4000000 in
set_option maxRecDepth 100000 in
theorem ks_X9_fits_81 (C0 : gc cX9_fits (some .int) 6 RX9 (dC, dI) (tyl cI cC cZ cB cJ) A p s m args meth c) {K33 : Int32 → Int32 → Int32 → Int32 → Int32 → Int32 → (Nat → Int32) → Int32 → (Nat → Int32) → Prop} (hK33 : ∀ (x1 : Int32) (x2 : Int32) (x3 : Int32) (x4 : Int32) (x5 : Int32) (oX : Int32) (rX : Nat → Int32) (qF : Int32) (jJ : Nat → Int32) (H : Heap) (locs : List Loc) (ls : Array Slot), K33 x1 x2 x3 x4 x5 oX rX qF jJ → va_P (dC, dI) classes (wd_X9_fits cI cC cZ cB cJ a_x xG xD wY wJ wQ xI xK xJ tW uE qU uJ uL uI xH tX jE mX pD oO oQ eG qT oX rJ pN rP rX bZ bD bI aI wD gF qA nJ nY dQ jC eO eW dO fJ fY jD nG qF jJ) H → va_D A (wd_X9_fits cI cC cZ cB cJ a_x xG xD wY wJ wQ xI xK xJ tW uE qU uJ uL uI xH tX jE mX pD oO oQ eG qT oX rJ pN rP rX bZ bD bI aI wD gF qA nJ nY dQ jC eO eW dO fJ fY jD nG qF jJ) → va_S A s.heap H locs → lv_has ls 6 [(0, .ref a_x), (1, .int x1), (2, .int x2), (3, .int x3), (4, .int x4), (5, .int x5)] → W p l e rm_X9_fits s m args below meth c H locs 0 0 (MQ below (q_X9_fits dC dI cI cC cZ cB cJ A a_x xG xD wY wJ wQ xI xK xJ tW uE qU uJ uL uI xH tX jE mX pD oO oQ eG qT rJ pN rP bZ bD bI aI wD gF qA nJ nY dQ jC eO eW dO fJ fY jD nG post) args s 0 0 A) (F0 m 33 ls [])) : ∀ (x1 x2 x3 x4 x5 oX : Int32) (rX : Nat → Int32) (qF : Int32) (jJ : Nat → Int32) (H : Heap) (locs : List Loc) (ls : Array Slot), (ws_X9_fits_81 post K33 bZ bD wD gF qA nJ nY dQ jC eO eW fY jD) x1 x2 x3 x4 x5 oX rX qF jJ → va_P (dC, dI) classes (wd_X9_fits cI cC cZ cB cJ a_x xG xD wY wJ wQ xI xK xJ tW uE qU uJ uL uI xH tX jE mX pD oO oQ eG qT oX rJ pN rP rX bZ bD bI aI wD gF qA nJ nY dQ jC eO eW dO fJ fY jD nG qF jJ) H → va_D A (wd_X9_fits cI cC cZ cB cJ a_x xG xD wY wJ wQ xI xK xJ tW uE qU uJ uL uI xH tX jE mX pD oO oQ eG qT oX rJ pN rP rX bZ bD bI aI wD gF qA nJ nY dQ jC eO eW dO fJ fY jD nG qF jJ) → va_S A s.heap H locs → lv_has ls 6 [(0, .ref a_x), (1, .int x1), (2, .int x2), (3, .int x3), (4, .int x4), (5, .int x5)] → W p l e rm_X9_fits s m args below meth c H locs 0 0 (MQ below (q_X9_fits dC dI cI cC cZ cB cJ A a_x xG xD wY wJ wQ xI xK xJ tW uE qU uJ uL uI xH tX jE mX pD oO oQ eG qT rJ pN rP bZ bD bI aI wD gF qA nJ nY dQ jC eO eW dO fJ fY jD nG post) args s 0 0 A) (F0 m 81 ls []) := by
  obtain ⟨hx, hb, hr, hml, hown, hts, hlocks, hA, hK, hN, tL, tM, hZL, hTL, hZM, hTM, hZX⟩ := id C0
  intro x1 x2 x3 x4 x5 oX rX qF jJ H locs ls hp hP hD hS hl
  unfold ws_X9_fits_81 at hp
  refine lv_iload hx hb eX9_fits_58.2.2.2.2.2.2.2.2.2.2.2.1 (lv_at hl 4 rfl) ?_
  refine lv_iconst (v := (-1)) hx hb eX9_fits_58.2.2.2.2.2.2.2.2.2.2.2.2.1 ic_m1 ?_
  refine lv_icmp_eq (tgt := 100) hx hb eX9_fits_58.2.2.2.2.2.2.2.2.2.2.2.2.2.1 (by decide) (fun hc => ?_) (fun hc => ?_)
  · have hp := hp.1 hc
    exact ks_X9_fits_100 C0 hK33 x1 x2 x3 x5 oX rX qF jJ H locs ls hp hP hD hS (lv_sub hl [0, 1, 2, 3, 5] rfl)
  · have hp := hp.2 hc
    refine lv_iload hx hb eX9_fits_58.2.2.2.2.2.2.2.2.2.2.2.2.2.2.1 (lv_at hl 5 rfl) ?_
    have hm := mgk (wc := (wd_J6_bitCount_0f7a4 cI cC cZ cB cJ)) hP aAy 14 rfl rfl rfl
    refine g_calli hP hD hS hA (mixT aAy) (mixF aAy) hm.1 hm.2 (nd_F _) (dis_g _) (g_runS (As := [.int x5]) (rest := []) C0 hP hD hS (mixT aAy) hm.1 (nd_T _) (c_J6_bitCount_0f7a4 l dC dI cI cC cZ cB cJ H.size x5 _ hp) q_320 q_474 q_322 q_321 h_J6_bitCount_0f7a4 rfl rfl ⟨Nat.le_of_ble_eq_true rfl, Nat.le_of_ble_eq_true rfl⟩ rfl rfl hl.1 rfl (lv_room (Nat.le_of_ble_eq_true rfl)) eX9_fits_58.2.2.2.2.2.2.2.2.2.2.2.2.2.2.2 ⟨Nat.zero_le _, Nat.zero_le _⟩) (fun r_10 u H locs hp hP hD hS => ?_)
    have hPD := PDm (ws' := (wd_X9_fits cI cC cZ cB cJ a_x xG xD wY wJ wQ xI xK xJ tW uE qU uJ uL uI xH tX jE mX pD oO oQ eG qT oX rJ pN rP rX bZ bD bI aI wD gF qA nJ nY dQ jC eO eW dO fJ fY jD nG qF jJ)) hP hD 14 rfl rfl rfl
    have hP := hPD.1
    have hD := hPD.2
    refine lv_iload hx hb eX9_fits_92.1 (lv_at hl 4 rfl) ?_
    have hm := mgk (wc := (wd_J6_bitCount_0f7a4 cI cC cZ cB cJ)) hP aAy 14 rfl rfl rfl
    refine g_calli hP hD hS hA (mixT aAy) (mixF aAy) hm.1 hm.2 (nd_F _) (dis_g _) (g_runS (As := [.int x4]) (rest := [.int r_10]) C0 hP hD hS (mixT aAy) hm.1 (nd_T _) (c_J6_bitCount_0f7a4 l dC dI cI cC cZ cB cJ H.size x4 _ hp) q_320 q_474 q_322 q_321 h_J6_bitCount_0f7a4 rfl rfl ⟨Nat.le_of_ble_eq_true rfl, Nat.le_of_ble_eq_true rfl⟩ rfl rfl hl.1 rfl (lv_room (Nat.le_of_ble_eq_true rfl)) eX9_fits_92.2.1 ⟨Nat.zero_le _, Nat.zero_le _⟩) (fun r_11 u H locs hp hP hD hS => ?_)
    have hPD := PDm (ws' := (wd_X9_fits cI cC cZ cB cJ a_x xG xD wY wJ wQ xI xK xJ tW uE qU uJ uL uI xH tX jE mX pD oO oQ eG qT oX rJ pN rP rX bZ bD bI aI wD gF qA nJ nY dQ jC eO eW dO fJ fY jD nG qF jJ)) hP hD 14 rfl rfl rfl
    have hP := hPD.1
    have hD := hPD.2
    refine lv_icmp_le (tgt := 104) hx hb eX9_fits_92.2.2.1 (by decide) (fun hc => ?_) (fun hc => ?_)
    · have hp := hp.1 hc
      exact ks_X9_fits_104 C0 hK33 x1 x2 x3 x4 x5 oX rX qF jJ H locs ls hp hP hD hS (lv_sub hl [0, 1, 2, 3, 4, 5] rfl)
    · have hp := hp.2 hc
      exact ks_X9_fits_100 C0 hK33 x1 x2 x3 x5 oX rX qF jJ H locs ls hp hP hD hS (lv_sub hl [0, 1, 2, 3, 5] rfl)
noncomputable def ws_X9_fits_78 (post : Int32 → Int32 → (Nat → Int32) → Int32 → (Nat → Int32) → Prop) (K33 : Int32 → Int32 → Int32 → Int32 → Int32 → Int32 → (Nat → Int32) → Int32 → (Nat → Int32) → Prop) (bZ bD : Int32) (wD gF qA nJ nY dQ : Nat → Int32) (jC eO eW fY jD x1 x2 x4 x5 oX : Int32) (rX : Nat → Int32) (qF : Int32) (jJ : Nat → Int32) : Prop := ws_X9_fits_81 post K33 bZ bD wD gF qA nJ nY dQ jC eO eW fY jD x1 x2 x5 x4 x5 oX rX qF jJ
set_option maxHeartbeats 4000000 in
set_option maxRecDepth 100000 in
theorem ks_X9_fits_78 (C0 : gc cX9_fits (some .int) 6 RX9 (dC, dI) (tyl cI cC cZ cB cJ) A p s m args meth c) {K33 : Int32 → Int32 → Int32 → Int32 → Int32 → Int32 → (Nat → Int32) → Int32 → (Nat → Int32) → Prop} (hK33 : ∀ (x1 : Int32) (x2 : Int32) (x3 : Int32) (x4 : Int32) (x5 : Int32) (oX : Int32) (rX : Nat → Int32) (qF : Int32) (jJ : Nat → Int32) (H : Heap) (locs : List Loc) (ls : Array Slot), K33 x1 x2 x3 x4 x5 oX rX qF jJ → va_P (dC, dI) classes (wd_X9_fits cI cC cZ cB cJ a_x xG xD wY wJ wQ xI xK xJ tW uE qU uJ uL uI xH tX jE mX pD oO oQ eG qT oX rJ pN rP rX bZ bD bI aI wD gF qA nJ nY dQ jC eO eW dO fJ fY jD nG qF jJ) H → va_D A (wd_X9_fits cI cC cZ cB cJ a_x xG xD wY wJ wQ xI xK xJ tW uE qU uJ uL uI xH tX jE mX pD oO oQ eG qT oX rJ pN rP rX bZ bD bI aI wD gF qA nJ nY dQ jC eO eW dO fJ fY jD nG qF jJ) → va_S A s.heap H locs → lv_has ls 6 [(0, .ref a_x), (1, .int x1), (2, .int x2), (3, .int x3), (4, .int x4), (5, .int x5)] → W p l e rm_X9_fits s m args below meth c H locs 0 0 (MQ below (q_X9_fits dC dI cI cC cZ cB cJ A a_x xG xD wY wJ wQ xI xK xJ tW uE qU uJ uL uI xH tX jE mX pD oO oQ eG qT rJ pN rP bZ bD bI aI wD gF qA nJ nY dQ jC eO eW dO fJ fY jD nG post) args s 0 0 A) (F0 m 33 ls [])) : ∀ (x1 x2 x4 x5 oX : Int32) (rX : Nat → Int32) (qF : Int32) (jJ : Nat → Int32) (H : Heap) (locs : List Loc) (ls : Array Slot), (ws_X9_fits_78 post K33 bZ bD wD gF qA nJ nY dQ jC eO eW fY jD) x1 x2 x4 x5 oX rX qF jJ → va_P (dC, dI) classes (wd_X9_fits cI cC cZ cB cJ a_x xG xD wY wJ wQ xI xK xJ tW uE qU uJ uL uI xH tX jE mX pD oO oQ eG qT oX rJ pN rP rX bZ bD bI aI wD gF qA nJ nY dQ jC eO eW dO fJ fY jD nG qF jJ) H → va_D A (wd_X9_fits cI cC cZ cB cJ a_x xG xD wY wJ wQ xI xK xJ tW uE qU uJ uL uI xH tX jE mX pD oO oQ eG qT oX rJ pN rP rX bZ bD bI aI wD gF qA nJ nY dQ jC eO eW dO fJ fY jD nG qF jJ) → va_S A s.heap H locs → lv_has ls 6 [(0, .ref a_x), (1, .int x1), (2, .int x2), (4, .int x4), (5, .int x5)] → W p l e rm_X9_fits s m args below meth c H locs 0 0 (MQ below (q_X9_fits dC dI cI cC cZ cB cJ A a_x xG xD wY wJ wQ xI xK xJ tW uE qU uJ uL uI xH tX jE mX pD oO oQ eG qT rJ pN rP bZ bD bI aI wD gF qA nJ nY dQ jC eO eW dO fJ fY jD nG post) args s 0 0 A) (F0 m 78 ls []) := by
  obtain ⟨hx, hb, hr, hml, hown, hts, hlocks, hA, hK, hN, tL, tM, hZL, hTL, hZM, hTM, hZX⟩ := id C0
  intro x1 x2 x4 x5 oX rX qF jJ H locs ls hp hP hD hS hl
  unfold ws_X9_fits_78 at hp
  refine lv_iload hx hb eX9_fits_58.2.2.2.2.2.2.2.2.2.1 (lv_at hl 4 rfl) ?_
  refine lv_istore_n (lv' := [(3, .int x5), (0, .ref a_x), (1, .int x1), (2, .int x2), (4, .int x4), (5, .int x5)]) hx hb eX9_fits_58.2.2.2.2.2.2.2.2.2.2.1 rfl hl (by decide) rfl (fun ls hl => ?_)
  exact ks_X9_fits_81 C0 hK33 x1 x2 x5 x4 x5 oX rX qF jJ H locs ls hp hP hD hS (lv_sub hl [1, 2, 3, 0, 4, 5] rfl)
noncomputable def ws_X9_fits_33 (post : Int32 → Int32 → (Nat → Int32) → Int32 → (Nat → Int32) → Prop) (next : Int32 → Int32 → Int32 → Int32 → Int32 → Int32 → (Nat → Int32) → Int32 → (Nat → Int32) → Prop) (bZ bD : Int32) (wD gF qA nJ nY dQ : Nat → Int32) (jC eO eW fY jD x1 x2 x3 x4 x5 oX : Int32) (rX : Nat → Int32) (qF : Int32) (jJ : Nat → Int32) : Prop := wp_X3_allStandings (fun r_4 => (r_4 < x5 → wp_X9_tell_ (fun aLf aDn => post x2 oX rX aLf aDn) x3 x4 qF jJ) ∧ (¬ r_4 < x5 → wp_X5_isFitting (fun r_7 => (r_7 = 0 → ws_X9_fits_104 post next bZ bD wD gF qA nJ nY dQ jC eO eW fY jD x1 x2 x3 x4 x5 oX rX qF jJ) ∧ (¬ r_7 = 0 → ∀ v_9 : Int32, v_9 = x2 + 1 → (x3 = (-1) → ws_X9_fits_78 post next bZ bD wD gF qA nJ nY dQ jC eO eW fY jD x1 v_9 x4 x5 oX rX qF jJ) ∧ (¬ x3 = (-1) → wp_J6_bitCount_0f7a4 (fun r_12 => wp_J6_bitCount_0f7a4 (fun r_13 => (r_13 ≤ r_12 → ws_X9_fits_81 post next bZ bD wD gF qA nJ nY dQ jC eO eW fY jD x1 v_9 x3 x4 x5 oX rX qF jJ) ∧ (¬ r_13 ≤ r_12 → ws_X9_fits_78 post next bZ bD wD gF qA nJ nY dQ jC eO eW fY jD x1 v_9 x4 x5 oX rX qF jJ)) x3) x5))) x5 x1 rX bD)) bD
noncomputable def wb_X9_fits_33 (post : Int32 → Int32 → (Nat → Int32) → Int32 → (Nat → Int32) → Prop) (bZ bD : Int32) (wD gF qA nJ nY dQ : Nat → Int32) (jC eO eW fY jD : Int32) : Nat → Int32 → Int32 → Int32 → Int32 → Int32 → Int32 → (Nat → Int32) → Int32 → (Nat → Int32) → Prop := fun n => Nat.rec (motive := fun _ => Int32 → Int32 → Int32 → Int32 → Int32 → Int32 → (Nat → Int32) → Int32 → (Nat → Int32) → Prop) (fun _ _ _ _ _ _ _ _ _ => False) (fun _ ih => ws_X9_fits_33 post ih bZ bD wD gF qA nJ nY dQ jC eO eW fY jD) n
set_option maxHeartbeats 4000000 in
set_option maxRecDepth 100000 in
theorem ks_X9_fits_33 (C0 : gc cX9_fits (some .int) 6 RX9 (dC, dI) (tyl cI cC cZ cB cJ) A p s m args meth c) {next : Int32 → Int32 → Int32 → Int32 → Int32 → Int32 → (Nat → Int32) → Int32 → (Nat → Int32) → Prop} (hKn : ∀ (x1 : Int32) (x2 : Int32) (x3 : Int32) (x4 : Int32) (x5 : Int32) (oX : Int32) (rX : Nat → Int32) (qF : Int32) (jJ : Nat → Int32) (H : Heap) (locs : List Loc) (ls : Array Slot), next x1 x2 x3 x4 x5 oX rX qF jJ → va_P (dC, dI) classes (wd_X9_fits cI cC cZ cB cJ a_x xG xD wY wJ wQ xI xK xJ tW uE qU uJ uL uI xH tX jE mX pD oO oQ eG qT oX rJ pN rP rX bZ bD bI aI wD gF qA nJ nY dQ jC eO eW dO fJ fY jD nG qF jJ) H → va_D A (wd_X9_fits cI cC cZ cB cJ a_x xG xD wY wJ wQ xI xK xJ tW uE qU uJ uL uI xH tX jE mX pD oO oQ eG qT oX rJ pN rP rX bZ bD bI aI wD gF qA nJ nY dQ jC eO eW dO fJ fY jD nG qF jJ) → va_S A s.heap H locs → lv_has ls 6 [(0, .ref a_x), (1, .int x1), (2, .int x2), (3, .int x3), (4, .int x4), (5, .int x5)] → W p l e rm_X9_fits s m args below meth c H locs 0 0 (MQ below (q_X9_fits dC dI cI cC cZ cB cJ A a_x xG xD wY wJ wQ xI xK xJ tW uE qU uJ uL uI xH tX jE mX pD oO oQ eG qT rJ pN rP bZ bD bI aI wD gF qA nJ nY dQ jC eO eW dO fJ fY jD nG post) args s 0 0 A) (F0 m 33 ls [])) : ∀ (x1 x2 x3 x4 x5 oX : Int32) (rX : Nat → Int32) (qF : Int32) (jJ : Nat → Int32) (H : Heap) (locs : List Loc) (ls : Array Slot), (ws_X9_fits_33 post next bZ bD wD gF qA nJ nY dQ jC eO eW fY jD) x1 x2 x3 x4 x5 oX rX qF jJ → va_P (dC, dI) classes (wd_X9_fits cI cC cZ cB cJ a_x xG xD wY wJ wQ xI xK xJ tW uE qU uJ uL uI xH tX jE mX pD oO oQ eG qT oX rJ pN rP rX bZ bD bI aI wD gF qA nJ nY dQ jC eO eW dO fJ fY jD nG qF jJ) H → va_D A (wd_X9_fits cI cC cZ cB cJ a_x xG xD wY wJ wQ xI xK xJ tW uE qU uJ uL uI xH tX jE mX pD oO oQ eG qT oX rJ pN rP rX bZ bD bI aI wD gF qA nJ nY dQ jC eO eW dO fJ fY jD nG qF jJ) → va_S A s.heap H locs → lv_has ls 6 [(0, .ref a_x), (1, .int x1), (2, .int x2), (3, .int x3), (4, .int x4), (5, .int x5)] → W p l e rm_X9_fits s m args below meth c H locs 0 0 (MQ below (q_X9_fits dC dI cI cC cZ cB cJ A a_x xG xD wY wJ wQ xI xK xJ tW uE qU uJ uL uI xH tX jE mX pD oO oQ eG qT rJ pN rP bZ bD bI aI wD gF qA nJ nY dQ jC eO eW dO fJ fY jD nG post) args s 0 0 A) (F0 m 33 ls []) := by
  obtain ⟨hx, hb, hr, hml, hown, hts, hlocks, hA, hK, hN, tL, tM, hZL, hTL, hZM, hTM, hZX⟩ := id C0
  intro x1 x2 x3 x4 x5 oX rX qF jJ H locs ls hp hP hD hS hl
  unfold ws_X9_fits_33 at hp
  refine lv_iload hx hb eX9_fits_26.2.2.2.2.2.1 (lv_at hl 5 rfl) ?_
  refine lv_aload_n hx hb eX9_fits_26.2.2.2.2.2.2.1 rfl (lv_at hl 0 rfl) ?_
  refine va_get (D := (dC, dI)) (ci := 9) (v := .ref wJ) (C := RX9) (T := TX9) (N := 9) hx hb hts i_X9 hown hK hP 0 rfl rfl 3 (Nat.le_of_ble_eq_true rfl) (hts _ q_74) (fun _ h9 => h9) rfl eX9_fits_26.2.2.2.2.2.2.2.1 ?_
  have hm := mgk (wc := (wd_X3_allStandings cI cC cZ cB cJ wJ tX jE mX pD oO oQ eG bZ bD bI aI)) hP aAB 14 rfl rfl rfl
  refine g_calli hP hD hS hA (mixT aAB) (mixF aAB) hm.1 hm.2 (nd_F _) (dis_g _) (g_runV (As := []) (rest := [.int x5]) C0 hP hD hS (mixT aAB) hm.1 (nd_T _) 4 3 rfl rfl (c_X3_allStandings l dC dI cI cC cZ cB cJ wJ tX jE mX pD oO oQ eG H.size bZ bD bI aI _ hp) q_426 q_463 q_427 q_428 q_48 h_X3_allStandings rfl rfl ⟨Nat.le_of_ble_eq_true rfl, Nat.le_of_ble_eq_true rfl⟩ rfl rfl hl.1 rfl (lv_room (Nat.le_of_ble_eq_true rfl)) eX9_fits_26.2.2.2.2.2.2.2.2.1 ⟨Nat.zero_le _, Nat.zero_le _⟩) (fun r_4 u H locs hp hP hD hS => ?_)
  have hPD := PDm (ws' := (wd_X9_fits cI cC cZ cB cJ a_x xG xD wY wJ wQ xI xK xJ tW uE qU uJ uL uI xH tX jE mX pD oO oQ eG qT oX rJ pN rP rX bZ bD bI aI wD gF qA nJ nY dQ jC eO eW dO fJ fY jD nG qF jJ)) hP hD 14 rfl rfl rfl
  have hP := hPD.1
  have hD := hPD.2
  refine lv_icmp_gt (tgt := 110) hx hb eX9_fits_26.2.2.2.2.2.2.2.2.2.1 (by decide) (fun hc => ?_) (fun hc => ?_)
  · have hp := hp.1 hc
    refine lv_aload_n hx hb eX9_fits_92.2.2.2.2.2.2.2.1 rfl (lv_at hl 0 rfl) ?_
    refine lv_iload_n hx hb eX9_fits_92.2.2.2.2.2.2.2.2.1 rfl (lv_at hl 3 rfl) ?_
    refine lv_iload hx hb eX9_fits_92.2.2.2.2.2.2.2.2.2.1 (lv_at hl 4 rfl) ?_
    have hm := mgk (wc := (wd_X9_tell_ cI cC cZ cB cJ a_x xG xD wY wJ wQ xI xK xJ tW qT qF jJ)) hP aBp 14 rfl rfl rfl
    refine g_callv hP hD hS hA (mixT aBp) (mixF aBp) hm.1 hm.2 (nd_F _) (dis_g _) (g_runV (As := [.int x3, .int x4]) (rest := []) C0 hP hD hS (mixT aBp) hm.1 (nd_T _) 0 9 rfl rfl (c_X9_tell_ l dC dI cI cC cZ cB cJ a_x xG xD wY wJ wQ xI xK xJ tW qT H.size x3 x4 qF jJ _ hp) q_377 q_380 q_378 q_379 q_256 h_X9_tell_ rfl rfl ⟨Nat.le_of_ble_eq_true rfl, Nat.le_of_ble_eq_true rfl⟩ rfl rfl hl.1 rfl (lv_room (Nat.le_of_ble_eq_true rfl)) eX9_fits_92.2.2.2.2.2.2.2.2.2.2.1 ⟨Nat.zero_le _, Nat.zero_le _⟩) (fun u H locs hp hP hD hS => ?_)
    obtain ⟨aLf, aDn⟩ := u
    have hPD := PDm (ws' := (wd_X9_fits cI cC cZ cB cJ a_x xG xD wY wJ wQ xI xK xJ tW uE qU uJ uL uI xH tX jE mX pD oO oQ eG qT oX rJ pN rP rX bZ bD bI aI wD gF qA nJ nY dQ jC eO eW dO fJ fY jD nG aLf aDn)) hP hD 14 rfl rfl rfl
    have hP := hPD.1
    have hD := hPD.2
    refine lv_iload_n hx hb eX9_fits_92.2.2.2.2.2.2.2.2.2.2.2.1 rfl (lv_at hl 2 rfl) ?_
    exact W.iret (v := x2) hx hb hr (fun t ht hW => ⟨⟨x2, (oX, rX, aLf, aDn), rfl, hp, by rw [ht]; exact hP, va_K.moved hW.alike hK, hD⟩, hS.F ht⟩) hS.2.2 eX9_fits_92.2.2.2.2.2.2.2.2.2.2.2.2
  · have hp := hp.2 hc
    refine lv_aload_n hx hb eX9_fits_26.2.2.2.2.2.2.2.2.2.2.1 rfl (lv_at hl 0 rfl) ?_
    refine va_get (D := (dC, dI)) (ci := 9) (v := .ref xD) (C := RX9) (T := TX9) (N := 9) hx hb hts i_X9 hown hK hP 0 rfl rfl 1 (Nat.le_of_ble_eq_true rfl) (hts _ q_444) (fun _ h9 => h9) rfl eX9_fits_26.2.2.2.2.2.2.2.2.2.2.2.1 ?_
    refine lv_iload hx hb eX9_fits_26.2.2.2.2.2.2.2.2.2.2.2.2.1 (lv_at hl 5 rfl) ?_
    refine lv_iload_n hx hb eX9_fits_26.2.2.2.2.2.2.2.2.2.2.2.2.2.1 rfl (lv_at hl 1 rfl) ?_
    have hm := mgk (wc := (wd_X5_isFitting cI cC cZ cB cJ xD wY wJ uE qU uJ uL uI tX jE mX pD oO oQ eG oX rJ pN rP rX bZ bD bI aI)) hP aBq 14 rfl rfl rfl
    refine g_calli hP hD hS hA (mixT aBq) (mixF aBq) hm.1 hm.2 (nd_F _) (dis_g _) (g_runV (As := [.int x5, .int x1]) (rest := []) C0 hP hD hS (mixT aBq) hm.1 (nd_T _) 1 5 rfl rfl (c_X5_isFitting l dC dI cI cC cZ cB cJ xD wY wJ uE qU uJ uL uI tX jE mX pD oO oQ eG H.size x5 x1 oX rJ pN rP rX bZ bD bI aI _ hp) q_619 q_622 q_620 q_621 q_431 h_X5_isFitting rfl rfl ⟨Nat.le_of_ble_eq_true rfl, Nat.le_of_ble_eq_true rfl⟩ rfl rfl hl.1 rfl (lv_room (Nat.le_of_ble_eq_true rfl)) eX9_fits_26.2.2.2.2.2.2.2.2.2.2.2.2.2.2.1 ⟨Nat.zero_le _, Nat.zero_le _⟩) (fun r_7 u H locs hp hP hD hS => ?_)
    have hPD := PDm (ws' := (wd_X9_fits cI cC cZ cB cJ a_x xG xD wY wJ wQ xI xK xJ tW uE qU uJ uL uI xH tX jE mX pD oO oQ eG qT oX rJ pN rP rX bZ bD bI aI wD gF qA nJ nY dQ jC eO eW dO fJ fY jD nG qF jJ)) hP hD 14 rfl rfl rfl
    have hP := hPD.1
    have hD := hPD.2
    refine lv_if_eq (tgt := 104) hx hb eX9_fits_26.2.2.2.2.2.2.2.2.2.2.2.2.2.2.2 (by decide) (fun hc => ?_) (fun hc => ?_)
    · have hp := hp.1 hc
      exact ks_X9_fits_104 C0 hKn x1 x2 x3 x4 x5 oX rX qF jJ H locs ls hp hP hD hS (lv_sub hl [0, 1, 2, 3, 4, 5] rfl)
    · have hp := hp.2 hc
      obtain ⟨v_9, ev_9⟩ : ∃ y : Int32, y = x2 + 1 := ⟨_, rfl⟩
      refine lv_iinc (v := v_9) (lv' := [(2, .int v_9), (0, .ref a_x), (1, .int x1), (3, .int x3), (4, .int x4), (5, .int x5)]) hx hb eX9_fits_58.1 hl (k := 2) rfl (by rw [ev_9]; rfl) (by decide) rfl (fun ls hl => ?_)
      have hp := hp v_9 ev_9
      refine lv_iload_n hx hb eX9_fits_58.2.1 rfl (lv_at hl 3 rfl) ?_
      refine lv_iconst (v := (-1)) hx hb eX9_fits_58.2.2.1 ic_m1 ?_
      refine lv_icmp_eq (tgt := 78) hx hb eX9_fits_58.2.2.2.1 (by decide) (fun hc => ?_) (fun hc => ?_)
      · have hp := hp.1 hc
        exact ks_X9_fits_78 C0 hKn x1 v_9 x4 x5 oX rX qF jJ H locs ls hp hP hD hS (lv_sub hl [1, 2, 0, 4, 5] rfl)
      · have hp := hp.2 hc
        refine lv_iload hx hb eX9_fits_58.2.2.2.2.1 (lv_at hl 5 rfl) ?_
        have hm := mgk (wc := (wd_J6_bitCount_0f7a4 cI cC cZ cB cJ)) hP aAy 14 rfl rfl rfl
        refine g_calli hP hD hS hA (mixT aAy) (mixF aAy) hm.1 hm.2 (nd_F _) (dis_g _) (g_runS (As := [.int x5]) (rest := []) C0 hP hD hS (mixT aAy) hm.1 (nd_T _) (c_J6_bitCount_0f7a4 l dC dI cI cC cZ cB cJ H.size x5 _ hp) q_320 q_474 q_322 q_321 h_J6_bitCount_0f7a4 rfl rfl ⟨Nat.le_of_ble_eq_true rfl, Nat.le_of_ble_eq_true rfl⟩ rfl rfl hl.1 rfl (lv_room (Nat.le_of_ble_eq_true rfl)) eX9_fits_58.2.2.2.2.2.1 ⟨Nat.zero_le _, Nat.zero_le _⟩) (fun r_12 u H locs hp hP hD hS => ?_)
        have hPD := PDm (ws' := (wd_X9_fits cI cC cZ cB cJ a_x xG xD wY wJ wQ xI xK xJ tW uE qU uJ uL uI xH tX jE mX pD oO oQ eG qT oX rJ pN rP rX bZ bD bI aI wD gF qA nJ nY dQ jC eO eW dO fJ fY jD nG qF jJ)) hP hD 14 rfl rfl rfl
        have hP := hPD.1
        have hD := hPD.2
        refine lv_iload_n hx hb eX9_fits_58.2.2.2.2.2.2.1 rfl (lv_at hl 3 rfl) ?_
        have hm := mgk (wc := (wd_J6_bitCount_0f7a4 cI cC cZ cB cJ)) hP aAy 14 rfl rfl rfl
        refine g_calli hP hD hS hA (mixT aAy) (mixF aAy) hm.1 hm.2 (nd_F _) (dis_g _) (g_runS (As := [.int x3]) (rest := [.int r_12]) C0 hP hD hS (mixT aAy) hm.1 (nd_T _) (c_J6_bitCount_0f7a4 l dC dI cI cC cZ cB cJ H.size x3 _ hp) q_320 q_474 q_322 q_321 h_J6_bitCount_0f7a4 rfl rfl ⟨Nat.le_of_ble_eq_true rfl, Nat.le_of_ble_eq_true rfl⟩ rfl rfl hl.1 rfl (lv_room (Nat.le_of_ble_eq_true rfl)) eX9_fits_58.2.2.2.2.2.2.2.1 ⟨Nat.zero_le _, Nat.zero_le _⟩) (fun r_13 u H locs hp hP hD hS => ?_)
        have hPD := PDm (ws' := (wd_X9_fits cI cC cZ cB cJ a_x xG xD wY wJ wQ xI xK xJ tW uE qU uJ uL uI xH tX jE mX pD oO oQ eG qT oX rJ pN rP rX bZ bD bI aI wD gF qA nJ nY dQ jC eO eW dO fJ fY jD nG qF jJ)) hP hD 14 rfl rfl rfl
        have hP := hPD.1
        have hD := hPD.2
        refine lv_icmp_ge (tgt := 81) hx hb eX9_fits_58.2.2.2.2.2.2.2.2.1 (by decide) (fun hc => ?_) (fun hc => ?_)
        · have hp := hp.1 hc
          exact ks_X9_fits_81 C0 hKn x1 v_9 x3 x4 x5 oX rX qF jJ H locs ls hp hP hD hS (lv_sub hl [1, 2, 0, 3, 4, 5] rfl)
        · have hp := hp.2 hc
          exact ks_X9_fits_78 C0 hKn x1 v_9 x4 x5 oX rX qF jJ H locs ls hp hP hD hS (lv_sub hl [1, 2, 0, 4, 5] rfl)
set_option maxHeartbeats 4000000 in
set_option maxRecDepth 100000 in
theorem kb_X9_fits_33 (C0 : gc cX9_fits (some .int) 6 RX9 (dC, dI) (tyl cI cC cZ cB cJ) A p s m args meth c) : ∀ (n : Nat), ∀ (x1 x2 x3 x4 x5 oX : Int32) (rX : Nat → Int32) (qF : Int32) (jJ : Nat → Int32) (H : Heap) (locs : List Loc) (ls : Array Slot), (wb_X9_fits_33 post bZ bD wD gF qA nJ nY dQ jC eO eW fY jD n) x1 x2 x3 x4 x5 oX rX qF jJ → va_P (dC, dI) classes (wd_X9_fits cI cC cZ cB cJ a_x xG xD wY wJ wQ xI xK xJ tW uE qU uJ uL uI xH tX jE mX pD oO oQ eG qT oX rJ pN rP rX bZ bD bI aI wD gF qA nJ nY dQ jC eO eW dO fJ fY jD nG qF jJ) H → va_D A (wd_X9_fits cI cC cZ cB cJ a_x xG xD wY wJ wQ xI xK xJ tW uE qU uJ uL uI xH tX jE mX pD oO oQ eG qT oX rJ pN rP rX bZ bD bI aI wD gF qA nJ nY dQ jC eO eW dO fJ fY jD nG qF jJ) → va_S A s.heap H locs → lv_has ls 6 [(0, .ref a_x), (1, .int x1), (2, .int x2), (3, .int x3), (4, .int x4), (5, .int x5)] → W p l e rm_X9_fits s m args below meth c H locs 0 0 (MQ below (q_X9_fits dC dI cI cC cZ cB cJ A a_x xG xD wY wJ wQ xI xK xJ tW uE qU uJ uL uI xH tX jE mX pD oO oQ eG qT rJ pN rP bZ bD bI aI wD gF qA nJ nY dQ jC eO eW dO fJ fY jD nG post) args s 0 0 A) (F0 m 33 ls []) := by
  intro n
  induction n with
  | zero =>
    intro x1 x2 x3 x4 x5 oX rX qF jJ H locs ls hp
    exact False.elim hp
  | succ n ih =>
    intro x1 x2 x3 x4 x5 oX rX qF jJ H locs ls hp
    exact ks_X9_fits_33 C0 ih x1 x2 x3 x4 x5 oX rX qF jJ H locs ls hp
end S_X9_fits
noncomputable def wp_X9_fits (post : Int32 → Int32 → (Nat → Int32) → Int32 → (Nat → Int32) → Prop) (p0 oX : Int32) (rX : Nat → Int32) (bZ bD : Int32) (wD gF qA nJ nY dQ : Nat → Int32) (jC eO eW fY jD qF : Int32) (jJ : Nat → Int32) : Prop := wp_X3_allFruits (fun r_1 => ((p0 &&& (r_1 ^^^ (-1))) = 0 → wp_X5_look (fun xR yA => ∃ n : Nat, wb_X9_fits_33 post bZ bD wD gF qA nJ nY dQ jC eO eW fY jD n p0 0 (-1) (-1) 0 xR yA qF jJ) oX rX bZ bD wD gF qA nJ nY dQ jC eO eW fY jD) ∧ (¬ (p0 &&& (r_1 ^^^ (-1))) = 0 → post (-1) oX rX qF jJ)) bZ
set_option maxHeartbeats 4000000 in
set_option maxRecDepth 100000 in
theorem c_X9_fits (l : Launch) (dC : Nat → ClassId) (dI : Nat → Nat → Nat) (cI cC cZ cB cJ : ClassId) (a_x xG xD wY wJ wQ xI xK xJ tW uE qU uJ uL uI xH tX jE mX pD oO oQ eG qT sz : Nat) (p0 oX rJ pN rP : Int32) (rX : Nat → Int32) (bZ bD bI aI : Int32) (wD gF qA nJ nY dQ : Nat → Int32) (jC eO eW dO fJ fY jD nG qF : Int32) (jJ : Nat → Int32) (post : Int32 → Int32 → (Nat → Int32) → Int32 → (Nat → Int32) → Prop) (hw : wp_X9_fits post p0 oX rX bZ bD wD gF qA nJ nY dQ jC eO eW fY jD qF jJ) : Met l yX9_fits (gw yX9_fits cX9_fits 6 (some .int)) rm_X9_fits (va_Pc [.ref a_x, .int p0] (gPre (dC, dI) (tyl cI cC cZ cB cJ) (wd_X9_fits cI cC cZ cB cJ a_x xG xD wY wJ wQ xI xK xJ tW uE qU uJ uL uI xH tX jE mX pD oO oQ eG qT oX rJ pN rP rX bZ bD bI aI wD gF qA nJ nY dQ jC eO eW dO fJ fY jD nG qF jJ) sz)) (q_X9_fits dC dI cI cC cZ cB cJ (va_A (wd_X9_fits cI cC cZ cB cJ a_x xG xD wY wJ wQ xI xK xJ tW uE qU uJ uL uI xH tX jE mX pD oO oQ eG qT oX rJ pN rP rX bZ bD bI aI wD gF qA nJ nY dQ jC eO eW dO fJ fY jD nG qF jJ) sz) a_x xG xD wY wJ wQ xI xK xJ tW uE qU uJ uL uI xH tX jE mX pD oO oQ eG qT rJ pN rP bZ bD bI aI wD gF qA nJ nY dQ jC eO eW dO fJ fY jD nG post) 0 0 (va_A (wd_X9_fits cI cC cZ cB cJ a_x xG xD wY wJ wQ xI xK xJ tW uE qU uJ uL uI xH tX jE mX pD oO oQ eG qT oX rJ pN rP rX bZ bD bI aI wD gF qA nJ nY dQ jC eO eW dO fJ fY jD nG qF jJ) sz) := by
  refine g_enter (own := RX9) (dC, dI) (tyl cI cC cZ cB cJ) (wd_X9_fits cI cC cZ cB cJ a_x xG xD wY wJ wQ xI xK xJ tW uE qU uJ uL uI xH tX jE mX pD oO oQ eG qT oX rJ pN rP rX bZ bD bI aI wD gF qA nJ nY dQ jC eO eW dO fJ fY jD nG qF jJ) sz [.ref a_x, .int p0] (fun A => q_X9_fits dC dI cI cC cZ cB cJ A a_x xG xD wY wJ wQ xI xK xJ tW uE qU uJ uL uI xH tX jE mX pD oO oQ eG qT rJ pN rP bZ bD bI aI wD gF qA nJ nY dQ jC eO eW dO fJ fY jD nG post) pn_RX9 rfl (Nat.le_of_ble_eq_true rfl) ?_
  intro p e s m args below meth c A H locs ls C0 hP hD hS hl
  have hl : lv_has ls 6 [(0, .ref a_x), (1, .int p0)] := hl
  obtain ⟨hx, hb, hr, hml, hown, hts, hlocks, hA, hK, hN, tL, tM, hZL, hTL, hZM, hTM, hZX⟩ := id C0
  have hp := hw
  unfold wp_X9_fits at hp
  refine lv_iload_n hx hb eX9_fits_0.1 rfl (lv_at hl 1 rfl) ?_
  refine lv_aload_n hx hb eX9_fits_0.2.1 rfl (lv_at hl 0 rfl) ?_
  refine va_get (D := (dC, dI)) (ci := 9) (v := .ref wJ) (C := RX9) (T := TX9) (N := 9) hx hb hts i_X9 hown hK hP 0 rfl rfl 3 (Nat.le_of_ble_eq_true rfl) (hts _ q_74) (fun _ h9 => h9) rfl eX9_fits_0.2.2.1 ?_
  have hm := mgk (wc := (wd_X3_allFruits cI cC cZ cB cJ wJ tX jE mX pD oO oQ eG bZ bD bI aI)) hP aAB 14 rfl rfl rfl
  refine g_calli hP hD hS hA (mixT aAB) (mixF aAB) hm.1 hm.2 (nd_F _) (dis_g _) (g_runV (As := []) (rest := [.int p0]) C0 hP hD hS (mixT aAB) hm.1 (nd_T _) 4 3 rfl rfl (c_X3_allFruits l dC dI cI cC cZ cB cJ wJ tX jE mX pD oO oQ eG H.size bZ bD bI aI _ hp) q_157 q_618 q_158 q_159 q_48 h_X3_allFruits rfl rfl ⟨Nat.le_of_ble_eq_true rfl, Nat.le_of_ble_eq_true rfl⟩ rfl rfl hl.1 rfl (lv_room (Nat.le_of_ble_eq_true rfl)) eX9_fits_0.2.2.2.1 ⟨Nat.zero_le _, Nat.zero_le _⟩) (fun r_1 u H locs hp hP hD hS => ?_)
  have hPD := PDm (ws' := (wd_X9_fits cI cC cZ cB cJ a_x xG xD wY wJ wQ xI xK xJ tW uE qU uJ uL uI xH tX jE mX pD oO oQ eG qT oX rJ pN rP rX bZ bD bI aI wD gF qA nJ nY dQ jC eO eW dO fJ fY jD nG qF jJ)) hP hD 14 rfl rfl rfl
  have hP := hPD.1
  have hD := hPD.2
  refine lv_iconst (v := (-1)) hx hb eX9_fits_0.2.2.2.2.1 ic_m1 ?_
  refine lv_ixor hx hb eX9_fits_0.2.2.2.2.2.1 ?_
  refine lv_iand hx hb eX9_fits_0.2.2.2.2.2.2.1 ?_
  refine lv_if_eq (tgt := 16) hx hb eX9_fits_0.2.2.2.2.2.2.2.1 (by decide) (fun hc => ?_) (fun hc => ?_)
  · have hp := hp.1 hc
    refine lv_aload_n hx hb eX9_fits_0.2.2.2.2.2.2.2.2.2.2.1 rfl (lv_at hl 0 rfl) ?_
    refine va_get (D := (dC, dI)) (ci := 9) (v := .ref xD) (C := RX9) (T := TX9) (N := 9) hx hb hts i_X9 hown hK hP 0 rfl rfl 1 (Nat.le_of_ble_eq_true rfl) (hts _ q_444) (fun _ h9 => h9) rfl eX9_fits_0.2.2.2.2.2.2.2.2.2.2.2.1 ?_
    have hm := mgk (wc := (wd_X5_look cI cC cZ cB cJ xD wY wJ uE qU uJ uL uI wQ xH tX jE mX pD oO oQ eG oX rJ pN rP rX bZ bD bI aI wD gF qA nJ nY dQ jC eO eW dO fJ fY jD nG)) hP aA9 14 rfl rfl rfl
    refine g_callv hP hD hS hA (mixT aA9) (mixF aA9) hm.1 hm.2 (nd_F _) (dis_g _) (g_runV (As := []) (rest := []) C0 hP hD hS (mixT aA9) hm.1 (nd_T _) 1 5 rfl rfl (c_X5_look l dC dI cI cC cZ cB cJ xD wY wJ uE qU uJ uL uI wQ xH tX jE mX pD oO oQ eG H.size oX rJ pN rP rX bZ bD bI aI wD gF qA nJ nY dQ jC eO eW dO fJ fY jD nG _ hp) q_445 q_448 q_446 q_447 q_431 h_X5_look rfl rfl ⟨Nat.le_of_ble_eq_true rfl, Nat.le_of_ble_eq_true rfl⟩ rfl rfl hl.1 rfl (lv_room (Nat.le_of_ble_eq_true rfl)) eX9_fits_0.2.2.2.2.2.2.2.2.2.2.2.2.1 ⟨Nat.zero_le _, Nat.zero_le _⟩) (fun u H locs hp hP hD hS => ?_)
    obtain ⟨xR, yA⟩ := u
    have hPD := PDm (ws' := (wd_X9_fits cI cC cZ cB cJ a_x xG xD wY wJ wQ xI xK xJ tW uE qU uJ uL uI xH tX jE mX pD oO oQ eG qT xR rJ pN rP yA bZ bD bI aI wD gF qA nJ nY dQ jC eO eW dO fJ fY jD nG qF jJ)) hP hD 14 rfl rfl rfl
    have hP := hPD.1
    have hD := hPD.2
    refine lv_iconst (v := 0) hx hb eX9_fits_0.2.2.2.2.2.2.2.2.2.2.2.2.2.1 ic_0 ?_
    refine lv_istore_n (lv' := [(2, .int 0), (0, .ref a_x), (1, .int p0)]) hx hb eX9_fits_0.2.2.2.2.2.2.2.2.2.2.2.2.2.2.1 rfl hl (by decide) rfl (fun ls hl => ?_)
    refine lv_iconst (v := (-1)) hx hb eX9_fits_0.2.2.2.2.2.2.2.2.2.2.2.2.2.2.2 ic_m1 ?_
    refine lv_istore_n (lv' := [(3, .int (-1)), (2, .int 0), (0, .ref a_x), (1, .int p0)]) hx hb eX9_fits_26.1 rfl hl (by decide) rfl (fun ls hl => ?_)
    refine lv_iconst (v := (-1)) hx hb eX9_fits_26.2.1 ic_m1 ?_
    refine lv_istore (lv' := [(4, .int (-1)), (3, .int (-1)), (2, .int 0), (0, .ref a_x), (1, .int p0)]) hx hb eX9_fits_26.2.2.1 hl (by decide) rfl (fun ls hl => ?_)
    refine lv_iconst (v := 0) hx hb eX9_fits_26.2.2.2.1 ic_0 ?_
    refine lv_istore (lv' := [(5, .int 0), (4, .int (-1)), (3, .int (-1)), (2, .int 0), (0, .ref a_x), (1, .int p0)]) hx hb eX9_fits_26.2.2.2.2.1 hl (by decide) rfl (fun ls hl => ?_)
    obtain ⟨n9, hp⟩ := hp
    exact kb_X9_fits_33 C0 n9 p0 0 (-1) (-1) 0 xR yA qF jJ H locs ls hp hP hD hS (lv_sub hl [4, 5, 3, 2, 1, 0] rfl)
  · have hp := hp.2 hc
    refine lv_iconst (v := (-1)) hx hb eX9_fits_0.2.2.2.2.2.2.2.2.1 ic_m1 ?_
    exact W.iret (v := (-1)) hx hb hr (fun t ht hW => ⟨⟨(-1), (oX, rX, qF, jJ), rfl, hp, by rw [ht]; exact hP, va_K.moved hW.alike hK, hD⟩, hS.F ht⟩) hS.2.2 eX9_fits_0.2.2.2.2.2.2.2.2.2.1
noncomputable abbrev wd_X9_leaned (cI cC cZ cB cJ : ClassId) (a_x xG xD wY wJ wQ xI xK xJ tW tX jE mX pD oO oQ eG : Nat) (bZ bD bI aI : Int32) (wD gF nJ nY dQ : Nat → Int32) : va_W := [(a_x, .inr (9, [.ref xG, .ref xD, .ref wY, .ref wJ, .ref wQ, .ref xI, .ref xK, .ref xJ, .ref tW])), (wJ, .inr (3, [.ref tX, .ref jE, .ref mX, .ref pD, .ref oO, .ref oQ, .ref eG, .int bZ, .int bD, .int bI, .int aI])), (tX, .inl (cI, 16, .inl wD)), (jE, .inl (cI, 16, .inl gF)), (oO, .inl (cI, 8, .inl nJ)), (oQ, .inl (cI, 8, .inl nY)), (eG, .inl (cI, 5, .inl dQ))]
noncomputable abbrev q_X9_leaned (dC : Nat → ClassId) (dI : Nat → Nat → Nat) (cI cC cZ cB cJ : ClassId) (A : Nat → Prop) (a_x xG xD wY wJ wQ xI xK xJ tW tX jE mX pD oO oQ eG : Nat) (bZ bD bI aI : Int32) (wD gF nJ nY dQ : Nat → Int32) (post : Int32 → Prop) : Array Value → State → Outcome → State → Prop := va_Qi (fun (r : Int32) (u : Unit) => post r) (fun u t => gB (dC, dI) (tyl cI cC cZ cB cJ) A (wd_X9_leaned cI cC cZ cB cJ a_x xG xD wY wJ wQ xI xK xJ tW tX jE mX pD oO oQ eG bZ bD bI aI wD gF nJ nY dQ) t) A
noncomputable abbrev rm_X9_leaned : Room := { frames := 3, cells := 0, slots := 0, locals := 70 }
noncomputable def wp_X9_leaned (post : Int32 → Prop) (p0 p1 bZ bD : Int32) (wD gF nJ nY dQ : Nat → Int32) : Prop := wp_X3_hasFruit (fun r_1 => (r_1 = 0 → post (-1)) ∧ (¬ r_1 = 0 → wp_X3_hasStanding (fun r_2 => (¬ r_2 = 0 → wp_X3_leanNeeded (fun r_3 => post r_3) p0 p1 wD gF nJ nY dQ) ∧ (r_2 = 0 → post (-1))) p1 bD)) p0 bZ
set_option maxHeartbeats 4000000 in
set_option maxRecDepth 100000 in
theorem c_X9_leaned (l : Launch) (dC : Nat → ClassId) (dI : Nat → Nat → Nat) (cI cC cZ cB cJ : ClassId) (a_x xG xD wY wJ wQ xI xK xJ tW tX jE mX pD oO oQ eG sz : Nat) (p0 p1 bZ bD bI aI : Int32) (wD gF nJ nY dQ : Nat → Int32) (post : Int32 → Prop) (hw : wp_X9_leaned post p0 p1 bZ bD wD gF nJ nY dQ) : Met l yX9_leaned (gw yX9_leaned cX9_leaned 3 (some .int)) rm_X9_leaned (va_Pc [.ref a_x, .int p0, .int p1] (gPre (dC, dI) (tyl cI cC cZ cB cJ) (wd_X9_leaned cI cC cZ cB cJ a_x xG xD wY wJ wQ xI xK xJ tW tX jE mX pD oO oQ eG bZ bD bI aI wD gF nJ nY dQ) sz)) (q_X9_leaned dC dI cI cC cZ cB cJ (va_A (wd_X9_leaned cI cC cZ cB cJ a_x xG xD wY wJ wQ xI xK xJ tW tX jE mX pD oO oQ eG bZ bD bI aI wD gF nJ nY dQ) sz) a_x xG xD wY wJ wQ xI xK xJ tW tX jE mX pD oO oQ eG bZ bD bI aI wD gF nJ nY dQ post) 0 0 (va_A (wd_X9_leaned cI cC cZ cB cJ a_x xG xD wY wJ wQ xI xK xJ tW tX jE mX pD oO oQ eG bZ bD bI aI wD gF nJ nY dQ) sz) := by
  refine g_enter (own := RX9) (dC, dI) (tyl cI cC cZ cB cJ) (wd_X9_leaned cI cC cZ cB cJ a_x xG xD wY wJ wQ xI xK xJ tW tX jE mX pD oO oQ eG bZ bD bI aI wD gF nJ nY dQ) sz [.ref a_x, .int p0, .int p1] (fun A => q_X9_leaned dC dI cI cC cZ cB cJ A a_x xG xD wY wJ wQ xI xK xJ tW tX jE mX pD oO oQ eG bZ bD bI aI wD gF nJ nY dQ post) pn_RX9 rfl (Nat.le_of_ble_eq_true rfl) ?_
  intro p e s m args below meth c A H locs ls C0 hP hD hS hl
  have hl : lv_has ls 3 [(0, .ref a_x), (1, .int p0), (2, .int p1)] := hl
  obtain ⟨hx, hb, hr, hml, hown, hts, hlocks, hA, hK, hN, tL, tM, hZL, hTL, hZM, hTM, hZX⟩ := id C0
  have hp := hw
  unfold wp_X9_leaned at hp
  refine lv_aload_n hx hb eX9_leaned_0.1 rfl (lv_at hl 0 rfl) ?_
  refine va_get (D := (dC, dI)) (ci := 9) (v := .ref wJ) (C := RX9) (T := TX9) (N := 9) hx hb hts i_X9 hown hK hP 0 rfl rfl 3 (Nat.le_of_ble_eq_true rfl) (hts _ q_74) (fun _ h9 => h9) rfl eX9_leaned_0.2.1 ?_
  refine lv_iload_n hx hb eX9_leaned_0.2.2.1 rfl (lv_at hl 1 rfl) ?_
  have hm := mgk (wc := (wd_X3_hasFruit cI cC cZ cB cJ wJ tX jE mX pD oO oQ eG bZ bD bI aI)) hP mk_192 7 rfl rfl rfl
  refine g_calli hP hD hS hA (mixT mk_192) (mixF mk_192) hm.1 hm.2 (nd_F _) (dis_g _) (g_runV (As := [.int p0]) (rest := []) C0 hP hD hS (mixT mk_192) hm.1 (nd_T _) 1 3 rfl rfl (c_X3_hasFruit l dC dI cI cC cZ cB cJ wJ tX jE mX pD oO oQ eG H.size p0 bZ bD bI aI _ hp) q_171 q_174 q_172 q_173 q_48 h_X3_hasFruit rfl rfl ⟨Nat.le_of_ble_eq_true rfl, Nat.le_of_ble_eq_true rfl⟩ rfl rfl hl.1 rfl (lv_room (Nat.le_of_ble_eq_true rfl)) eX9_leaned_0.2.2.2.1 ⟨Nat.zero_le _, Nat.zero_le _⟩) (fun r_1 u H locs hp hP hD hS => ?_)
  have hPD := PDm (ws' := (wd_X9_leaned cI cC cZ cB cJ a_x xG xD wY wJ wQ xI xK xJ tW tX jE mX pD oO oQ eG bZ bD bI aI wD gF nJ nY dQ)) hP hD 7 rfl rfl rfl
  have hP := hPD.1
  have hD := hPD.2
  refine lv_if_eq (tgt := 22) hx hb eX9_leaned_0.2.2.2.2.1 (by decide) (fun hc => ?_) (fun hc => ?_)
  · have hp := hp.1 hc
    refine lv_iconst (v := (-1)) hx hb eX9_leaned_0.2.2.2.2.2.2.2.2.2.2.1 ic_m1 ?_
    exact W.iret (v := (-1)) hx hb hr (fun t ht hW => ⟨⟨(-1), (), rfl, hp, by rw [ht]; exact hP, va_K.moved hW.alike hK, hD⟩, hS.F ht⟩) hS.2.2 eX9_leaned_0.2.2.2.2.2.2.2.2.2.2.2.1
  · have hp := hp.2 hc
    refine lv_aload_n hx hb eX9_leaned_0.2.2.2.2.2.1 rfl (lv_at hl 0 rfl) ?_
    refine va_get (D := (dC, dI)) (ci := 9) (v := .ref wJ) (C := RX9) (T := TX9) (N := 9) hx hb hts i_X9 hown hK hP 0 rfl rfl 3 (Nat.le_of_ble_eq_true rfl) (hts _ q_74) (fun _ h9 => h9) rfl eX9_leaned_0.2.2.2.2.2.2.1 ?_
    refine lv_iload_n hx hb eX9_leaned_0.2.2.2.2.2.2.2.1 rfl (lv_at hl 2 rfl) ?_
    have hm := mgk (wc := (wd_X3_hasStanding cI cC cZ cB cJ wJ tX jE mX pD oO oQ eG bZ bD bI aI)) hP mk_192 7 rfl rfl rfl
    refine g_calli hP hD hS hA (mixT mk_192) (mixF mk_192) hm.1 hm.2 (nd_F _) (dis_g _) (g_runV (As := [.int p1]) (rest := []) C0 hP hD hS (mixT mk_192) hm.1 (nd_T _) 1 3 rfl rfl (c_X3_hasStanding l dC dI cI cC cZ cB cJ wJ tX jE mX pD oO oQ eG H.size p1 bZ bD bI aI _ hp) q_195 q_198 q_196 q_197 q_48 h_X3_hasStanding rfl rfl ⟨Nat.le_of_ble_eq_true rfl, Nat.le_of_ble_eq_true rfl⟩ rfl rfl hl.1 rfl (lv_room (Nat.le_of_ble_eq_true rfl)) eX9_leaned_0.2.2.2.2.2.2.2.2.1 ⟨Nat.zero_le _, Nat.zero_le _⟩) (fun r_2 u H locs hp hP hD hS => ?_)
    have hPD := PDm (ws' := (wd_X9_leaned cI cC cZ cB cJ a_x xG xD wY wJ wQ xI xK xJ tW tX jE mX pD oO oQ eG bZ bD bI aI wD gF nJ nY dQ)) hP hD 7 rfl rfl rfl
    have hP := hPD.1
    have hD := hPD.2
    refine lv_if_ne (tgt := 24) hx hb eX9_leaned_0.2.2.2.2.2.2.2.2.2.1 (by decide) (fun hc => ?_) (fun hc => ?_)
    · have hp := hp.1 hc
      refine lv_aload_n hx hb eX9_leaned_0.2.2.2.2.2.2.2.2.2.2.2.2.1 rfl (lv_at hl 0 rfl) ?_
      refine va_get (D := (dC, dI)) (ci := 9) (v := .ref wJ) (C := RX9) (T := TX9) (N := 9) hx hb hts i_X9 hown hK hP 0 rfl rfl 3 (Nat.le_of_ble_eq_true rfl) (hts _ q_74) (fun _ h9 => h9) rfl eX9_leaned_0.2.2.2.2.2.2.2.2.2.2.2.2.2.1 ?_
      refine lv_iload_n hx hb eX9_leaned_0.2.2.2.2.2.2.2.2.2.2.2.2.2.2.1 rfl (lv_at hl 1 rfl) ?_
      refine lv_iload_n hx hb eX9_leaned_0.2.2.2.2.2.2.2.2.2.2.2.2.2.2.2 rfl (lv_at hl 2 rfl) ?_
      have hm := mgk (wc := (wd_X3_leanNeeded cI cC cZ cB cJ wJ tX jE mX pD oO oQ eG bZ bD bI aI wD gF nJ nY dQ)) hP mk_193 7 rfl rfl rfl
      refine g_calli hP hD hS hA (mixT mk_193) (mixF mk_193) hm.1 hm.2 (nd_F _) (dis_g _) (g_runV (As := [.int p0, .int p1]) (rest := []) C0 hP hD hS (mixT mk_193) hm.1 (nd_T _) 1 3 rfl rfl (c_X3_leanNeeded l dC dI cI cC cZ cB cJ wJ tX jE mX pD oO oQ eG H.size p0 p1 bZ bD bI aI wD gF nJ nY dQ _ hp) q_453 q_456 q_454 q_455 q_48 h_X3_leanNeeded rfl rfl ⟨Nat.le_of_ble_eq_true rfl, Nat.le_of_ble_eq_true rfl⟩ rfl rfl hl.1 rfl (lv_room (Nat.le_of_ble_eq_true rfl)) eX9_leaned_30.1 ⟨Nat.zero_le _, Nat.zero_le _⟩) (fun r_3 u H locs hp hP hD hS => ?_)
      have hPD := PDm (ws' := (wd_X9_leaned cI cC cZ cB cJ a_x xG xD wY wJ wQ xI xK xJ tW tX jE mX pD oO oQ eG bZ bD bI aI wD gF nJ nY dQ)) hP hD 7 rfl rfl rfl
      have hP := hPD.1
      have hD := hPD.2
      exact W.iret (v := r_3) hx hb hr (fun t ht hW => ⟨⟨r_3, (), rfl, hp, by rw [ht]; exact hP, va_K.moved hW.alike hK, hD⟩, hS.F ht⟩) hS.2.2 eX9_leaned_30.2
    · have hp := hp.2 hc
      refine lv_iconst (v := (-1)) hx hb eX9_leaned_0.2.2.2.2.2.2.2.2.2.2.1 ic_m1 ?_
      exact W.iret (v := (-1)) hx hb hr (fun t ht hW => ⟨⟨(-1), (), rfl, hp, by rw [ht]; exact hP, va_K.moved hW.alike hK, hD⟩, hS.F ht⟩) hS.2.2 eX9_leaned_0.2.2.2.2.2.2.2.2.2.2.2.1
noncomputable abbrev wd_X9_autumn (cI cC cZ cB cJ : ClassId) (a_x xG xD wY wJ wQ xI xK xJ tW xH tX jE mX pD oO oQ eG qT : Nat) (bZ bD bI aI : Int32) (pE qA : Nat → Int32) (jC eO eW dO fJ fY jD nG qF : Int32) (jJ : Nat → Int32) : va_W := [(a_x, .inr (9, [.ref xG, .ref xD, .ref wY, .ref wJ, .ref wQ, .ref xI, .ref xK, .ref xJ, .ref tW])), (wY, .inr (0, [.ref wJ, .ref wQ, .ref xH])), (wJ, .inr (3, [.ref tX, .ref jE, .ref mX, .ref pD, .ref oO, .ref oQ, .ref eG, .int bZ, .int bD, .int bI, .int aI])), (mX, .inl (cI, 16, .inl pE)), (pD, .inl (cI, 16, .inl qA)), (wQ, .inr (2, [.int jC, .int eO, .int eW, .int dO, .int fJ, .int fY, .int jD, .int nG])), (xK, .inr (6, [.ref qT, .int qF])), (qT, .inl (cI, 16, .inl jJ))]
noncomputable abbrev q_X9_autumn (dC : Nat → ClassId) (dI : Nat → Nat → Nat) (cI cC cZ cB cJ : ClassId) (A : Nat → Prop) (a_x xG xD wY wJ wQ xI xK xJ tW xH tX jE mX pD oO oQ eG qT : Nat) (bZ bD bI aI : Int32) (pE qA : Nat → Int32) (jC eO eW dO fJ fY jD nG : Int32) (post : Int32 → Int32 → (Nat → Int32) → Prop) : Array Value → State → Outcome → State → Prop := va_Qi (fun (r : Int32) (u : Int32 × (Nat → Int32)) => post r u.1 u.2) (fun u t => gB (dC, dI) (tyl cI cC cZ cB cJ) A (wd_X9_autumn cI cC cZ cB cJ a_x xG xD wY wJ wQ xI xK xJ tW xH tX jE mX pD oO oQ eG qT bZ bD bI aI pE qA jC eO eW dO fJ fY jD nG u.1 u.2) t) A
noncomputable abbrev rm_X9_autumn : Room := { frames := 4, cells := 0, slots := 0, locals := 87 }
section S_X9_autumn
variable {p : Program} {l : Launch} {e : Env} {s : State} {m : MethodId} {args : Array Value} {below : List Frame} {meth : Method} {c : Code} {dC : Nat → ClassId} {dI : Nat → Nat → Nat} {cI cC cZ cB cJ : ClassId} {A : Nat → Prop} {a_x xG xD wY wJ wQ xI xK xJ tW xH tX jE mX pD oO oQ eG qT : Nat} {bZ bD bI aI : Int32} {pE qA : Nat → Int32} {jC eO eW dO fJ fY jD nG : Int32} {post : Int32 → Int32 → (Nat → Int32) → Prop}
noncomputable def ws_X9_autumn_170 (post : Int32 → Int32 → (Nat → Int32) → Prop) (K47 : Int32 → Int32 → Int32 → Int32 → Int32 → Int32 → Int32 → Int32 → Int32 → (Nat → Int32) → Prop) (bZ : Int32) (pE qA : Nat → Int32) (jC eO eW dO jD x2 x3 x4 x5 x6 x7 x8 x9 qF : Int32) (jJ : Nat → Int32) : Prop := ∀ v_11 : Int32, v_11 = x9 + 1 → K47 x2 x3 x4 x5 x6 x7 x8 v_11 qF jJ
set_option maxHeartbeats 4000000 in
set_option maxRecDepth 100000 in
theorem ks_X9_autumn_170 (C0 : gc cX9_autumn (some .int) 13 RX9 (dC, dI) (tyl cI cC cZ cB cJ) A p s m args meth c) {K47 : Int32 → Int32 → Int32 → Int32 → Int32 → Int32 → Int32 → Int32 → Int32 → (Nat → Int32) → Prop} (hK47 : ∀ (x2 : Int32) (x3 : Int32) (x4 : Int32) (x5 : Int32) (x6 : Int32) (x7 : Int32) (x8 : Int32) (x9 : Int32) (qF : Int32) (jJ : Nat → Int32) (H : Heap) (locs : List Loc) (ls : Array Slot), K47 x2 x3 x4 x5 x6 x7 x8 x9 qF jJ → va_P (dC, dI) classes (wd_X9_autumn cI cC cZ cB cJ a_x xG xD wY wJ wQ xI xK xJ tW xH tX jE mX pD oO oQ eG qT bZ bD bI aI pE qA jC eO eW dO fJ fY jD nG qF jJ) H → va_D A (wd_X9_autumn cI cC cZ cB cJ a_x xG xD wY wJ wQ xI xK xJ tW xH tX jE mX pD oO oQ eG qT bZ bD bI aI pE qA jC eO eW dO fJ fY jD nG qF jJ) → va_S A s.heap H locs → lv_has ls 13 [(0, .ref a_x), (2, .int x2), (3, .int x3), (4, .int x4), (5, .int x5), (6, .int x6), (7, .int x7), (8, .int x8), (9, .int x9)] → W p l e rm_X9_autumn s m args below meth c H locs 0 0 (MQ below (q_X9_autumn dC dI cI cC cZ cB cJ A a_x xG xD wY wJ wQ xI xK xJ tW xH tX jE mX pD oO oQ eG qT bZ bD bI aI pE qA jC eO eW dO fJ fY jD nG post) args s 0 0 A) (F0 m 47 ls [])) : ∀ (x2 x3 x4 x5 x6 x7 x8 x9 qF : Int32) (jJ : Nat → Int32) (H : Heap) (locs : List Loc) (ls : Array Slot), (ws_X9_autumn_170 post K47 bZ pE qA jC eO eW dO jD) x2 x3 x4 x5 x6 x7 x8 x9 qF jJ → va_P (dC, dI) classes (wd_X9_autumn cI cC cZ cB cJ a_x xG xD wY wJ wQ xI xK xJ tW xH tX jE mX pD oO oQ eG qT bZ bD bI aI pE qA jC eO eW dO fJ fY jD nG qF jJ) H → va_D A (wd_X9_autumn cI cC cZ cB cJ a_x xG xD wY wJ wQ xI xK xJ tW xH tX jE mX pD oO oQ eG qT bZ bD bI aI pE qA jC eO eW dO fJ fY jD nG qF jJ) → va_S A s.heap H locs → lv_has ls 13 [(0, .ref a_x), (2, .int x2), (3, .int x3), (4, .int x4), (5, .int x5), (6, .int x6), (7, .int x7), (8, .int x8), (9, .int x9)] → W p l e rm_X9_autumn s m args below meth c H locs 0 0 (MQ below (q_X9_autumn dC dI cI cC cZ cB cJ A a_x xG xD wY wJ wQ xI xK xJ tW xH tX jE mX pD oO oQ eG qT bZ bD bI aI pE qA jC eO eW dO fJ fY jD nG post) args s 0 0 A) (F0 m 170 ls []) := by
  obtain ⟨hx, hb, hr, hml, hown, hts, hlocks, hA, hK, hN, tL, tM, hZL, hTL, hZM, hTM, hZX⟩ := id C0
  intro x2 x3 x4 x5 x6 x7 x8 x9 qF jJ H locs ls hp hP hD hS hl
  unfold ws_X9_autumn_170 at hp
  obtain ⟨v_11, ev_11⟩ : ∃ y : Int32, y = x9 + 1 := ⟨_, rfl⟩
  refine lv_iinc (v := v_11) (lv' := [(9, .int v_11), (0, .ref a_x), (2, .int x2), (3, .int x3), (4, .int x4), (5, .int x5), (6, .int x6), (7, .int x7), (8, .int x8)]) hx hb eX9_autumn_144.2.2.2.2.2.2.2.2.2.2.2.1 hl (k := 8) rfl (by rw [ev_11]; rfl) (by decide) rfl (fun ls hl => ?_)
  have hp := hp v_11 ev_11
  refine lv_goto (tgt := 47) hx hb eX9_autumn_144.2.2.2.2.2.2.2.2.2.2.2.2.1 (by decide) ?_
  exact hK47 x2 x3 x4 x5 x6 x7 x8 v_11 qF jJ H locs ls hp hP hD hS (lv_sub hl [1, 2, 3, 4, 5, 6, 7, 8, 0] rfl)
noncomputable def ws_X9_autumn_149 (post : Int32 → Int32 → (Nat → Int32) → Prop) (K47 : Int32 → Int32 → Int32 → Int32 → Int32 → Int32 → Int32 → Int32 → Int32 → (Nat → Int32) → Prop) (K91 : Int32 → Int32 → Int32 → Int32 → Int32 → Int32 → Int32 → Int32 → Int32 → Int32 → Int32 → Int32 → (Nat → Int32) → Prop) (bZ : Int32) (pE qA : Nat → Int32) (jC eO eW dO jD x2 x3 x4 x5 x6 x7 x8 x9 x10 x11 x12 qF : Int32) (jJ : Nat → Int32) : Prop := ∀ v_13 : Int32, v_13 = x12 + 1 → K91 x2 x3 x4 x5 x6 x7 x8 x9 x10 x11 v_13 qF jJ
set_option maxHeartbeats 4000000 in
set_option maxRecDepth 100000 in
theorem ks_X9_autumn_149 (C0 : gc cX9_autumn (some .int) 13 RX9 (dC, dI) (tyl cI cC cZ cB cJ) A p s m args meth c) {K47 : Int32 → Int32 → Int32 → Int32 → Int32 → Int32 → Int32 → Int32 → Int32 → (Nat → Int32) → Prop} {K91 : Int32 → Int32 → Int32 → Int32 → Int32 → Int32 → Int32 → Int32 → Int32 → Int32 → Int32 → Int32 → (Nat → Int32) → Prop} (hK47 : ∀ (x2 : Int32) (x3 : Int32) (x4 : Int32) (x5 : Int32) (x6 : Int32) (x7 : Int32) (x8 : Int32) (x9 : Int32) (qF : Int32) (jJ : Nat → Int32) (H : Heap) (locs : List Loc) (ls : Array Slot), K47 x2 x3 x4 x5 x6 x7 x8 x9 qF jJ → va_P (dC, dI) classes (wd_X9_autumn cI cC cZ cB cJ a_x xG xD wY wJ wQ xI xK xJ tW xH tX jE mX pD oO oQ eG qT bZ bD bI aI pE qA jC eO eW dO fJ fY jD nG qF jJ) H → va_D A (wd_X9_autumn cI cC cZ cB cJ a_x xG xD wY wJ wQ xI xK xJ tW xH tX jE mX pD oO oQ eG qT bZ bD bI aI pE qA jC eO eW dO fJ fY jD nG qF jJ) → va_S A s.heap H locs → lv_has ls 13 [(0, .ref a_x), (2, .int x2), (3, .int x3), (4, .int x4), (5, .int x5), (6, .int x6), (7, .int x7), (8, .int x8), (9, .int x9)] → W p l e rm_X9_autumn s m args below meth c H locs 0 0 (MQ below (q_X9_autumn dC dI cI cC cZ cB cJ A a_x xG xD wY wJ wQ xI xK xJ tW xH tX jE mX pD oO oQ eG qT bZ bD bI aI pE qA jC eO eW dO fJ fY jD nG post) args s 0 0 A) (F0 m 47 ls [])) (hK91 : ∀ (x2 : Int32) (x3 : Int32) (x4 : Int32) (x5 : Int32) (x6 : Int32) (x7 : Int32) (x8 : Int32) (x9 : Int32) (x10 : Int32) (x11 : Int32) (x12 : Int32) (qF : Int32) (jJ : Nat → Int32) (H : Heap) (locs : List Loc) (ls : Array Slot), K91 x2 x3 x4 x5 x6 x7 x8 x9 x10 x11 x12 qF jJ → va_P (dC, dI) classes (wd_X9_autumn cI cC cZ cB cJ a_x xG xD wY wJ wQ xI xK xJ tW xH tX jE mX pD oO oQ eG qT bZ bD bI aI pE qA jC eO eW dO fJ fY jD nG qF jJ) H → va_D A (wd_X9_autumn cI cC cZ cB cJ a_x xG xD wY wJ wQ xI xK xJ tW xH tX jE mX pD oO oQ eG qT bZ bD bI aI pE qA jC eO eW dO fJ fY jD nG qF jJ) → va_S A s.heap H locs → lv_has ls 13 [(0, .ref a_x), (2, .int x2), (3, .int x3), (4, .int x4), (5, .int x5), (6, .int x6), (7, .int x7), (8, .int x8), (9, .int x9), (10, .int x10), (11, .int x11), (12, .int x12)] → W p l e rm_X9_autumn s m args below meth c H locs 0 0 (MQ below (q_X9_autumn dC dI cI cC cZ cB cJ A a_x xG xD wY wJ wQ xI xK xJ tW xH tX jE mX pD oO oQ eG qT bZ bD bI aI pE qA jC eO eW dO fJ fY jD nG post) args s 0 0 A) (F0 m 91 ls [])) : ∀ (x2 x3 x4 x5 x6 x7 x8 x9 x10 x11 x12 qF : Int32) (jJ : Nat → Int32) (H : Heap) (locs : List Loc) (ls : Array Slot), (ws_X9_autumn_149 post K47 K91 bZ pE qA jC eO eW dO jD) x2 x3 x4 x5 x6 x7 x8 x9 x10 x11 x12 qF jJ → va_P (dC, dI) classes (wd_X9_autumn cI cC cZ cB cJ a_x xG xD wY wJ wQ xI xK xJ tW xH tX jE mX pD oO oQ eG qT bZ bD bI aI pE qA jC eO eW dO fJ fY jD nG qF jJ) H → va_D A (wd_X9_autumn cI cC cZ cB cJ a_x xG xD wY wJ wQ xI xK xJ tW xH tX jE mX pD oO oQ eG qT bZ bD bI aI pE qA jC eO eW dO fJ fY jD nG qF jJ) → va_S A s.heap H locs → lv_has ls 13 [(0, .ref a_x), (2, .int x2), (3, .int x3), (4, .int x4), (5, .int x5), (6, .int x6), (7, .int x7), (8, .int x8), (9, .int x9), (10, .int x10), (11, .int x11), (12, .int x12)] → W p l e rm_X9_autumn s m args below meth c H locs 0 0 (MQ below (q_X9_autumn dC dI cI cC cZ cB cJ A a_x xG xD wY wJ wQ xI xK xJ tW xH tX jE mX pD oO oQ eG qT bZ bD bI aI pE qA jC eO eW dO fJ fY jD nG post) args s 0 0 A) (F0 m 149 ls []) := by
  obtain ⟨hx, hb, hr, hml, hown, hts, hlocks, hA, hK, hN, tL, tM, hZL, hTL, hZM, hTM, hZX⟩ := id C0
  intro x2 x3 x4 x5 x6 x7 x8 x9 x10 x11 x12 qF jJ H locs ls hp hP hD hS hl
  unfold ws_X9_autumn_149 at hp
  obtain ⟨v_13, ev_13⟩ : ∃ y : Int32, y = x12 + 1 := ⟨_, rfl⟩
  refine lv_iinc (v := v_13) (lv' := [(12, .int v_13), (0, .ref a_x), (2, .int x2), (3, .int x3), (4, .int x4), (5, .int x5), (6, .int x6), (7, .int x7), (8, .int x8), (9, .int x9), (10, .int x10), (11, .int x11)]) hx hb eX9_autumn_144.2.2.1 hl (k := 11) rfl (by rw [ev_13]; rfl) (by decide) rfl (fun ls hl => ?_)
  have hp := hp v_13 ev_13
  refine lv_goto (tgt := 91) hx hb eX9_autumn_144.2.2.2.1 (by decide) ?_
  exact hK91 x2 x3 x4 x5 x6 x7 x8 x9 x10 x11 v_13 qF jJ H locs ls hp hP hD hS (lv_sub hl [1, 2, 3, 4, 5, 6, 7, 8, 9, 10, 11, 0] rfl)
noncomputable def ws_X9_autumn_91 (post : Int32 → Int32 → (Nat → Int32) → Prop) (K47 : Int32 → Int32 → Int32 → Int32 → Int32 → Int32 → Int32 → Int32 → Int32 → (Nat → Int32) → Prop) (next : Int32 → Int32 → Int32 → Int32 → Int32 → Int32 → Int32 → Int32 → Int32 → Int32 → Int32 → Int32 → (Nat → Int32) → Prop) (bZ : Int32) (pE qA : Nat → Int32) (jC eO eW dO jD x2 x3 x4 x5 x6 x7 x8 x9 x10 x11 x12 qF : Int32) (jJ : Nat → Int32) : Prop := (bZ ≤ x12 → (x11 ≤ x7 → ws_X9_autumn_170 post K47 bZ pE qA jC eO eW dO jD x2 x3 x4 x5 x6 x7 x8 x9 qF jJ) ∧ (¬ x11 ≤ x7 → ws_X9_autumn_170 post K47 bZ pE qA jC eO eW dO jD x2 x3 x4 x5 x6 x11 x9 x9 qF jJ)) ∧ (¬ bZ ≤ x12 → ∀ v_12 : Int32, v_12 = x10 >>> (x12 &&& 31) → ((v_12 &&& 1) = 0 → ws_X9_autumn_149 post K47 next bZ pE qA jC eO eW dO jD x2 x3 x4 x5 x6 x7 x8 x9 x10 x11 x12 qF jJ) ∧ (¬ (v_12 &&& 1) = 0 → ∀ v_14 : Int32, v_14 = x4 * 1103515245 → ∀ v_15 : Int32, v_15 = v_14 + 12345 → ∀ v_16 : Int32, v_16 = (v_15.toUInt32 >>> ((16 : Int32).toUInt32 &&& Int32.toUInt32 31)).toInt32 → ∀ v_17 : Int32, v_17 = v_16 - v_16 / 10 * 10 → (x3 ≤ v_17 → ws_X9_autumn_149 post K47 next bZ pE qA jC eO eW dO jD x2 x3 v_15 x5 x6 x7 x8 x9 x10 x11 x12 qF jJ) ∧ (¬ x3 ≤ v_17 → ∀ v_18 : Int32, v_18 = x6 ||| (1 <<< (x12 &&& 31)) → ∀ v_19 : Int32, v_19 = x11 + 1 → ws_X9_autumn_149 post K47 next bZ pE qA jC eO eW dO jD x2 x3 v_15 x5 v_18 x7 x8 x9 x10 v_19 x12 qF jJ)))
noncomputable def wb_X9_autumn_91 (post : Int32 → Int32 → (Nat → Int32) → Prop) (K47 : Int32 → Int32 → Int32 → Int32 → Int32 → Int32 → Int32 → Int32 → Int32 → (Nat → Int32) → Prop) (bZ : Int32) (pE qA : Nat → Int32) (jC eO eW dO jD : Int32) : Nat → Int32 → Int32 → Int32 → Int32 → Int32 → Int32 → Int32 → Int32 → Int32 → Int32 → Int32 → Int32 → (Nat → Int32) → Prop := fun n => Nat.rec (motive := fun _ => Int32 → Int32 → Int32 → Int32 → Int32 → Int32 → Int32 → Int32 → Int32 → Int32 → Int32 → Int32 → (Nat → Int32) → Prop) (fun _ _ _ _ _ _ _ _ _ _ _ _ _ => False) (fun _ ih => ws_X9_autumn_91 post K47 ih bZ pE qA jC eO eW dO jD) n
set_option maxHeartbeats 4000000 in
set_option maxRecDepth 100000 in
theorem ks_X9_autumn_91 (C0 : gc cX9_autumn (some .int) 13 RX9 (dC, dI) (tyl cI cC cZ cB cJ) A p s m args meth c) {K47 : Int32 → Int32 → Int32 → Int32 → Int32 → Int32 → Int32 → Int32 → Int32 → (Nat → Int32) → Prop} {next : Int32 → Int32 → Int32 → Int32 → Int32 → Int32 → Int32 → Int32 → Int32 → Int32 → Int32 → Int32 → (Nat → Int32) → Prop} (hK47 : ∀ (x2 : Int32) (x3 : Int32) (x4 : Int32) (x5 : Int32) (x6 : Int32) (x7 : Int32) (x8 : Int32) (x9 : Int32) (qF : Int32) (jJ : Nat → Int32) (H : Heap) (locs : List Loc) (ls : Array Slot), K47 x2 x3 x4 x5 x6 x7 x8 x9 qF jJ → va_P (dC, dI) classes (wd_X9_autumn cI cC cZ cB cJ a_x xG xD wY wJ wQ xI xK xJ tW xH tX jE mX pD oO oQ eG qT bZ bD bI aI pE qA jC eO eW dO fJ fY jD nG qF jJ) H → va_D A (wd_X9_autumn cI cC cZ cB cJ a_x xG xD wY wJ wQ xI xK xJ tW xH tX jE mX pD oO oQ eG qT bZ bD bI aI pE qA jC eO eW dO fJ fY jD nG qF jJ) → va_S A s.heap H locs → lv_has ls 13 [(0, .ref a_x), (2, .int x2), (3, .int x3), (4, .int x4), (5, .int x5), (6, .int x6), (7, .int x7), (8, .int x8), (9, .int x9)] → W p l e rm_X9_autumn s m args below meth c H locs 0 0 (MQ below (q_X9_autumn dC dI cI cC cZ cB cJ A a_x xG xD wY wJ wQ xI xK xJ tW xH tX jE mX pD oO oQ eG qT bZ bD bI aI pE qA jC eO eW dO fJ fY jD nG post) args s 0 0 A) (F0 m 47 ls [])) (hKn : ∀ (x2 : Int32) (x3 : Int32) (x4 : Int32) (x5 : Int32) (x6 : Int32) (x7 : Int32) (x8 : Int32) (x9 : Int32) (x10 : Int32) (x11 : Int32) (x12 : Int32) (qF : Int32) (jJ : Nat → Int32) (H : Heap) (locs : List Loc) (ls : Array Slot), next x2 x3 x4 x5 x6 x7 x8 x9 x10 x11 x12 qF jJ → va_P (dC, dI) classes (wd_X9_autumn cI cC cZ cB cJ a_x xG xD wY wJ wQ xI xK xJ tW xH tX jE mX pD oO oQ eG qT bZ bD bI aI pE qA jC eO eW dO fJ fY jD nG qF jJ) H → va_D A (wd_X9_autumn cI cC cZ cB cJ a_x xG xD wY wJ wQ xI xK xJ tW xH tX jE mX pD oO oQ eG qT bZ bD bI aI pE qA jC eO eW dO fJ fY jD nG qF jJ) → va_S A s.heap H locs → lv_has ls 13 [(0, .ref a_x), (2, .int x2), (3, .int x3), (4, .int x4), (5, .int x5), (6, .int x6), (7, .int x7), (8, .int x8), (9, .int x9), (10, .int x10), (11, .int x11), (12, .int x12)] → W p l e rm_X9_autumn s m args below meth c H locs 0 0 (MQ below (q_X9_autumn dC dI cI cC cZ cB cJ A a_x xG xD wY wJ wQ xI xK xJ tW xH tX jE mX pD oO oQ eG qT bZ bD bI aI pE qA jC eO eW dO fJ fY jD nG post) args s 0 0 A) (F0 m 91 ls [])) : ∀ (x2 x3 x4 x5 x6 x7 x8 x9 x10 x11 x12 qF : Int32) (jJ : Nat → Int32) (H : Heap) (locs : List Loc) (ls : Array Slot), (ws_X9_autumn_91 post K47 next bZ pE qA jC eO eW dO jD) x2 x3 x4 x5 x6 x7 x8 x9 x10 x11 x12 qF jJ → va_P (dC, dI) classes (wd_X9_autumn cI cC cZ cB cJ a_x xG xD wY wJ wQ xI xK xJ tW xH tX jE mX pD oO oQ eG qT bZ bD bI aI pE qA jC eO eW dO fJ fY jD nG qF jJ) H → va_D A (wd_X9_autumn cI cC cZ cB cJ a_x xG xD wY wJ wQ xI xK xJ tW xH tX jE mX pD oO oQ eG qT bZ bD bI aI pE qA jC eO eW dO fJ fY jD nG qF jJ) → va_S A s.heap H locs → lv_has ls 13 [(0, .ref a_x), (2, .int x2), (3, .int x3), (4, .int x4), (5, .int x5), (6, .int x6), (7, .int x7), (8, .int x8), (9, .int x9), (10, .int x10), (11, .int x11), (12, .int x12)] → W p l e rm_X9_autumn s m args below meth c H locs 0 0 (MQ below (q_X9_autumn dC dI cI cC cZ cB cJ A a_x xG xD wY wJ wQ xI xK xJ tW xH tX jE mX pD oO oQ eG qT bZ bD bI aI pE qA jC eO eW dO fJ fY jD nG post) args s 0 0 A) (F0 m 91 ls []) := by
  obtain ⟨hx, hb, hr, hml, hown, hts, hlocks, hA, hK, hN, tL, tM, hZL, hTL, hZM, hTM, hZX⟩ := id C0
  intro x2 x3 x4 x5 x6 x7 x8 x9 x10 x11 x12 qF jJ H locs ls hp hP hD hS hl
  unfold ws_X9_autumn_91 at hp
  refine lv_iload hx hb eX9_autumn_86.2.2.2.1 (lv_at hl 11 rfl) ?_
  refine lv_aload_n hx hb eX9_autumn_86.2.2.2.2.1 rfl (lv_at hl 0 rfl) ?_
  refine va_get (D := (dC, dI)) (ci := 9) (v := .ref wJ) (C := RX9) (T := TX9) (N := 9) hx hb hts i_X9 hown hK hP 0 rfl rfl 3 (Nat.le_of_ble_eq_true rfl) (hts _ q_74) (fun _ h9 => h9) rfl eX9_autumn_86.2.2.2.2.2.1 ?_
  refine va_get (D := (dC, dI)) (ci := 3) (v := .int bZ) (C := RX3) (T := TX3) (N := 11) hx hb hts i_X3 hown hK hP 2 rfl rfl 7 (Nat.le_of_ble_eq_true rfl) (hts _ q_539) (fun _ h9 => h9) rfl eX9_autumn_86.2.2.2.2.2.2.1 ?_
  refine lv_icmp_ge (tgt := 155) hx hb eX9_autumn_86.2.2.2.2.2.2.2.1 (by decide) (fun hc => ?_) (fun hc => ?_)
  · have hp := hp.1 hc
    refine lv_iload hx hb eX9_autumn_144.2.2.2.2.1 (lv_at hl 10 rfl) ?_
    refine lv_iload hx hb eX9_autumn_144.2.2.2.2.2.1 (lv_at hl 6 rfl) ?_
    refine lv_icmp_le (tgt := 170) hx hb eX9_autumn_144.2.2.2.2.2.2.1 (by decide) (fun hc => ?_) (fun hc => ?_)
    · have hp := hp.1 hc
      exact ks_X9_autumn_170 C0 hK47 x2 x3 x4 x5 x6 x7 x8 x9 qF jJ H locs ls hp hP hD hS (lv_sub hl [0, 1, 2, 3, 4, 5, 6, 7, 8] rfl)
    · have hp := hp.2 hc
      refine lv_iload hx hb eX9_autumn_144.2.2.2.2.2.2.2.1 (lv_at hl 10 rfl) ?_
      refine lv_istore (lv' := [(7, .int x11), (0, .ref a_x), (2, .int x2), (3, .int x3), (4, .int x4), (5, .int x5), (6, .int x6), (8, .int x8), (9, .int x9), (10, .int x10), (11, .int x11), (12, .int x12)]) hx hb eX9_autumn_144.2.2.2.2.2.2.2.2.1 hl (by decide) rfl (fun ls hl => ?_)
      refine lv_iload hx hb eX9_autumn_144.2.2.2.2.2.2.2.2.2.1 (lv_at hl 8 rfl) ?_
      refine lv_istore (lv' := [(8, .int x9), (7, .int x11), (0, .ref a_x), (2, .int x2), (3, .int x3), (4, .int x4), (5, .int x5), (6, .int x6), (9, .int x9), (10, .int x10), (11, .int x11), (12, .int x12)]) hx hb eX9_autumn_144.2.2.2.2.2.2.2.2.2.2.1 hl (by decide) rfl (fun ls hl => ?_)
      exact ks_X9_autumn_170 C0 hK47 x2 x3 x4 x5 x6 x11 x9 x9 qF jJ H locs ls hp hP hD hS (lv_sub hl [2, 3, 4, 5, 6, 7, 1, 0, 8] rfl)
  · have hp := hp.2 hc
    refine lv_iload hx hb eX9_autumn_86.2.2.2.2.2.2.2.2.1 (lv_at hl 9 rfl) ?_
    refine lv_iload hx hb eX9_autumn_86.2.2.2.2.2.2.2.2.2.1 (lv_at hl 11 rfl) ?_
    refine lv_ishr hx hb eX9_autumn_86.2.2.2.2.2.2.2.2.2.2.1 ?_
    refine lv_topi (fun v_12 ev_12 => ?_)
    have hp := hp v_12 ev_12
    refine lv_iconst (v := 1) hx hb eX9_autumn_86.2.2.2.2.2.2.2.2.2.2.2.1 ic_1 ?_
    refine lv_iand hx hb eX9_autumn_86.2.2.2.2.2.2.2.2.2.2.2.2.1 ?_
    refine lv_if_eq (tgt := 149) hx hb eX9_autumn_86.2.2.2.2.2.2.2.2.2.2.2.2.2.1 (by decide) (fun hc => ?_) (fun hc => ?_)
    · have hp := hp.1 hc
      exact ks_X9_autumn_149 C0 hK47 hKn x2 x3 x4 x5 x6 x7 x8 x9 x10 x11 x12 qF jJ H locs ls hp hP hD hS (lv_sub hl [0, 1, 2, 3, 4, 5, 6, 7, 8, 9, 10, 11] rfl)
    · have hp := hp.2 hc
      refine lv_iload hx hb eX9_autumn_86.2.2.2.2.2.2.2.2.2.2.2.2.2.2.1 (lv_at hl 3 rfl) ?_
      refine lv_ldcw (v := 1103515245) hx hb hown (hts _ q_624) eX9_autumn_86.2.2.2.2.2.2.2.2.2.2.2.2.2.2.2 ?_
      refine lv_imul hx hb eX9_autumn_118.1 ?_
      refine lv_topi (fun v_14 ev_14 => ?_)
      have hp := hp v_14 ev_14
      refine lv_sipush (v := 12345) hx hb eX9_autumn_118.2.1 sp_12345 ?_
      refine lv_iadd hx hb eX9_autumn_118.2.2.1 ?_
      refine lv_topi (fun v_15 ev_15 => ?_)
      have hp := hp v_15 ev_15
      refine lv_istore (lv' := [(4, .int v_15), (0, .ref a_x), (2, .int x2), (3, .int x3), (5, .int x5), (6, .int x6), (7, .int x7), (8, .int x8), (9, .int x9), (10, .int x10), (11, .int x11), (12, .int x12)]) hx hb eX9_autumn_118.2.2.2.1 hl (by decide) rfl (fun ls hl => ?_)
      refine lv_iload hx hb eX9_autumn_118.2.2.2.2.1 (lv_at hl 0 rfl) ?_
      refine lv_bipush (v := 16) hx hb eX9_autumn_118.2.2.2.2.2.1 bp_16 ?_
      refine lv_iushr hx hb eX9_autumn_118.2.2.2.2.2.2.1 rfl ?_
      refine lv_topi (fun v_16 ev_16 => ?_)
      have hp := hp v_16 ev_16
      refine lv_bipush (v := 10) hx hb eX9_autumn_118.2.2.2.2.2.2.2.1 bp_10 ?_
      refine lv_irem hx hb eX9_autumn_118.2.2.2.2.2.2.2.2.1 (by decide) ?_
      refine lv_topi (fun v_17 ev_17 => ?_)
      have hp := hp v_17 ev_17
      refine lv_iload_n hx hb eX9_autumn_118.2.2.2.2.2.2.2.2.2.1 rfl (lv_at hl 3 rfl) ?_
      refine lv_icmp_ge (tgt := 149) hx hb eX9_autumn_118.2.2.2.2.2.2.2.2.2.2.1 (by decide) (fun hc => ?_) (fun hc => ?_)
      · have hp := hp.1 hc
        exact ks_X9_autumn_149 C0 hK47 hKn x2 x3 v_15 x5 x6 x7 x8 x9 x10 x11 x12 qF jJ H locs ls hp hP hD hS (lv_sub hl [1, 2, 3, 0, 4, 5, 6, 7, 8, 9, 10, 11] rfl)
      · have hp := hp.2 hc
        refine lv_iload hx hb eX9_autumn_118.2.2.2.2.2.2.2.2.2.2.2.1 (lv_at hl 5 rfl) ?_
        refine lv_iconst (v := 1) hx hb eX9_autumn_118.2.2.2.2.2.2.2.2.2.2.2.2.1 ic_1 ?_
        refine lv_iload hx hb eX9_autumn_118.2.2.2.2.2.2.2.2.2.2.2.2.2.1 (lv_at hl 11 rfl) ?_
        refine lv_ishl hx hb eX9_autumn_118.2.2.2.2.2.2.2.2.2.2.2.2.2.2.1 ?_
        refine lv_ior hx hb eX9_autumn_118.2.2.2.2.2.2.2.2.2.2.2.2.2.2.2 ?_
        refine lv_topi (fun v_18 ev_18 => ?_)
        have hp := hp v_18 ev_18
        refine lv_istore (lv' := [(6, .int v_18), (4, .int v_15), (0, .ref a_x), (2, .int x2), (3, .int x3), (5, .int x5), (7, .int x7), (8, .int x8), (9, .int x9), (10, .int x10), (11, .int x11), (12, .int x12)]) hx hb eX9_autumn_144.1 hl (by decide) rfl (fun ls hl => ?_)
        obtain ⟨v_19, ev_19⟩ : ∃ y : Int32, y = x11 + 1 := ⟨_, rfl⟩
        refine lv_iinc (v := v_19) (lv' := [(11, .int v_19), (6, .int v_18), (4, .int v_15), (0, .ref a_x), (2, .int x2), (3, .int x3), (5, .int x5), (7, .int x7), (8, .int x8), (9, .int x9), (10, .int x10), (12, .int x12)]) hx hb eX9_autumn_144.2.1 hl (k := 10) rfl (by rw [ev_19]; rfl) (by decide) rfl (fun ls hl => ?_)
        have hp := hp v_19 ev_19
        exact ks_X9_autumn_149 C0 hK47 hKn x2 x3 v_15 x5 v_18 x7 x8 x9 x10 v_19 x12 qF jJ H locs ls hp hP hD hS (lv_sub hl [3, 4, 5, 2, 6, 1, 7, 8, 9, 10, 0, 11] rfl)
set_option maxHeartbeats 4000000 in
set_option maxRecDepth 100000 in
theorem kb_X9_autumn_91 (C0 : gc cX9_autumn (some .int) 13 RX9 (dC, dI) (tyl cI cC cZ cB cJ) A p s m args meth c) {K47 : Int32 → Int32 → Int32 → Int32 → Int32 → Int32 → Int32 → Int32 → Int32 → (Nat → Int32) → Prop} (hK47 : ∀ (x2 : Int32) (x3 : Int32) (x4 : Int32) (x5 : Int32) (x6 : Int32) (x7 : Int32) (x8 : Int32) (x9 : Int32) (qF : Int32) (jJ : Nat → Int32) (H : Heap) (locs : List Loc) (ls : Array Slot), K47 x2 x3 x4 x5 x6 x7 x8 x9 qF jJ → va_P (dC, dI) classes (wd_X9_autumn cI cC cZ cB cJ a_x xG xD wY wJ wQ xI xK xJ tW xH tX jE mX pD oO oQ eG qT bZ bD bI aI pE qA jC eO eW dO fJ fY jD nG qF jJ) H → va_D A (wd_X9_autumn cI cC cZ cB cJ a_x xG xD wY wJ wQ xI xK xJ tW xH tX jE mX pD oO oQ eG qT bZ bD bI aI pE qA jC eO eW dO fJ fY jD nG qF jJ) → va_S A s.heap H locs → lv_has ls 13 [(0, .ref a_x), (2, .int x2), (3, .int x3), (4, .int x4), (5, .int x5), (6, .int x6), (7, .int x7), (8, .int x8), (9, .int x9)] → W p l e rm_X9_autumn s m args below meth c H locs 0 0 (MQ below (q_X9_autumn dC dI cI cC cZ cB cJ A a_x xG xD wY wJ wQ xI xK xJ tW xH tX jE mX pD oO oQ eG qT bZ bD bI aI pE qA jC eO eW dO fJ fY jD nG post) args s 0 0 A) (F0 m 47 ls [])) : ∀ (n : Nat), ∀ (x2 x3 x4 x5 x6 x7 x8 x9 x10 x11 x12 qF : Int32) (jJ : Nat → Int32) (H : Heap) (locs : List Loc) (ls : Array Slot), (wb_X9_autumn_91 post K47 bZ pE qA jC eO eW dO jD n) x2 x3 x4 x5 x6 x7 x8 x9 x10 x11 x12 qF jJ → va_P (dC, dI) classes (wd_X9_autumn cI cC cZ cB cJ a_x xG xD wY wJ wQ xI xK xJ tW xH tX jE mX pD oO oQ eG qT bZ bD bI aI pE qA jC eO eW dO fJ fY jD nG qF jJ) H → va_D A (wd_X9_autumn cI cC cZ cB cJ a_x xG xD wY wJ wQ xI xK xJ tW xH tX jE mX pD oO oQ eG qT bZ bD bI aI pE qA jC eO eW dO fJ fY jD nG qF jJ) → va_S A s.heap H locs → lv_has ls 13 [(0, .ref a_x), (2, .int x2), (3, .int x3), (4, .int x4), (5, .int x5), (6, .int x6), (7, .int x7), (8, .int x8), (9, .int x9), (10, .int x10), (11, .int x11), (12, .int x12)] → W p l e rm_X9_autumn s m args below meth c H locs 0 0 (MQ below (q_X9_autumn dC dI cI cC cZ cB cJ A a_x xG xD wY wJ wQ xI xK xJ tW xH tX jE mX pD oO oQ eG qT bZ bD bI aI pE qA jC eO eW dO fJ fY jD nG post) args s 0 0 A) (F0 m 91 ls []) := by
  intro n
  induction n with
  | zero =>
    intro x2 x3 x4 x5 x6 x7 x8 x9 x10 x11 x12 qF jJ H locs ls hp
    exact False.elim hp
  | succ n ih =>
    intro x2 x3 x4 x5 x6 x7 x8 x9 x10 x11 x12 qF jJ H locs ls hp
    exact ks_X9_autumn_91 C0 hK47 ih x2 x3 x4 x5 x6 x7 x8 x9 x10 x11 x12 qF jJ H locs ls hp
noncomputable def ws_X9_autumn_47 (post : Int32 → Int32 → (Nat → Int32) → Prop) (next : Int32 → Int32 → Int32 → Int32 → Int32 → Int32 → Int32 → Int32 → Int32 → (Nat → Int32) → Prop) (bZ : Int32) (pE qA : Nat → Int32) (jC eO eW dO jD x2 x3 x4 x5 x6 x7 x8 x9 qF : Int32) (jJ : Nat → Int32) : Prop := (x2 < x9 → wp_X0_worthOf (fun r_2 => wp_X9_tell__ (fun aAq zE => wp_J6_bitCount_0f7a4 (fun r_5 => post r_5 aAq zE) x6) x6 r_2 x8 qF jJ) x6 bZ pE dO) ∧ (¬ x2 < x9 → ∀ v_6 : Int32, v_6 = x5 &&& (x6 ^^^ (-1)) → ∀ v_7 : Int32, v_7 = jD + x9 → ∀ v_8 : Int32, v_8 = (if v_7 < 9 then v_7 else 9) → wp_X3_ripeBy (fun r_9 => ∀ v_10 : Int32, v_10 = v_6 &&& r_9 → ∃ n : Nat, wb_X9_autumn_91 post next bZ pE qA jC eO eW dO jD n x2 x3 x4 x5 x6 x7 x8 x9 v_10 0 0 qF jJ) v_8 bZ qA)
noncomputable def wb_X9_autumn_47 (post : Int32 → Int32 → (Nat → Int32) → Prop) (bZ : Int32) (pE qA : Nat → Int32) (jC eO eW dO jD : Int32) : Nat → Int32 → Int32 → Int32 → Int32 → Int32 → Int32 → Int32 → Int32 → Int32 → (Nat → Int32) → Prop := fun n => Nat.rec (motive := fun _ => Int32 → Int32 → Int32 → Int32 → Int32 → Int32 → Int32 → Int32 → Int32 → (Nat → Int32) → Prop) (fun _ _ _ _ _ _ _ _ _ _ => False) (fun _ ih => ws_X9_autumn_47 post ih bZ pE qA jC eO eW dO jD) n
set_option maxHeartbeats 4000000 in
set_option maxRecDepth 100000 in
theorem ks_X9_autumn_47 (C0 : gc cX9_autumn (some .int) 13 RX9 (dC, dI) (tyl cI cC cZ cB cJ) A p s m args meth c) {next : Int32 → Int32 → Int32 → Int32 → Int32 → Int32 → Int32 → Int32 → Int32 → (Nat → Int32) → Prop} (hKn : ∀ (x2 : Int32) (x3 : Int32) (x4 : Int32) (x5 : Int32) (x6 : Int32) (x7 : Int32) (x8 : Int32) (x9 : Int32) (qF : Int32) (jJ : Nat → Int32) (H : Heap) (locs : List Loc) (ls : Array Slot), next x2 x3 x4 x5 x6 x7 x8 x9 qF jJ → va_P (dC, dI) classes (wd_X9_autumn cI cC cZ cB cJ a_x xG xD wY wJ wQ xI xK xJ tW xH tX jE mX pD oO oQ eG qT bZ bD bI aI pE qA jC eO eW dO fJ fY jD nG qF jJ) H → va_D A (wd_X9_autumn cI cC cZ cB cJ a_x xG xD wY wJ wQ xI xK xJ tW xH tX jE mX pD oO oQ eG qT bZ bD bI aI pE qA jC eO eW dO fJ fY jD nG qF jJ) → va_S A s.heap H locs → lv_has ls 13 [(0, .ref a_x), (2, .int x2), (3, .int x3), (4, .int x4), (5, .int x5), (6, .int x6), (7, .int x7), (8, .int x8), (9, .int x9)] → W p l e rm_X9_autumn s m args below meth c H locs 0 0 (MQ below (q_X9_autumn dC dI cI cC cZ cB cJ A a_x xG xD wY wJ wQ xI xK xJ tW xH tX jE mX pD oO oQ eG qT bZ bD bI aI pE qA jC eO eW dO fJ fY jD nG post) args s 0 0 A) (F0 m 47 ls [])) : ∀ (x2 x3 x4 x5 x6 x7 x8 x9 qF : Int32) (jJ : Nat → Int32) (H : Heap) (locs : List Loc) (ls : Array Slot), (ws_X9_autumn_47 post next bZ pE qA jC eO eW dO jD) x2 x3 x4 x5 x6 x7 x8 x9 qF jJ → va_P (dC, dI) classes (wd_X9_autumn cI cC cZ cB cJ a_x xG xD wY wJ wQ xI xK xJ tW xH tX jE mX pD oO oQ eG qT bZ bD bI aI pE qA jC eO eW dO fJ fY jD nG qF jJ) H → va_D A (wd_X9_autumn cI cC cZ cB cJ a_x xG xD wY wJ wQ xI xK xJ tW xH tX jE mX pD oO oQ eG qT bZ bD bI aI pE qA jC eO eW dO fJ fY jD nG qF jJ) → va_S A s.heap H locs → lv_has ls 13 [(0, .ref a_x), (2, .int x2), (3, .int x3), (4, .int x4), (5, .int x5), (6, .int x6), (7, .int x7), (8, .int x8), (9, .int x9)] → W p l e rm_X9_autumn s m args below meth c H locs 0 0 (MQ below (q_X9_autumn dC dI cI cC cZ cB cJ A a_x xG xD wY wJ wQ xI xK xJ tW xH tX jE mX pD oO oQ eG qT bZ bD bI aI pE qA jC eO eW dO fJ fY jD nG post) args s 0 0 A) (F0 m 47 ls []) := by
  obtain ⟨hx, hb, hr, hml, hown, hts, hlocks, hA, hK, hN, tL, tM, hZL, hTL, hZM, hTM, hZX⟩ := id C0
  intro x2 x3 x4 x5 x6 x7 x8 x9 qF jJ H locs ls hp hP hD hS hl
  unfold ws_X9_autumn_47 at hp
  refine lv_iload hx hb eX9_autumn_27.2.2.2.2.2.2.2.2.2.2.2.1 (lv_at hl 8 rfl) ?_
  refine lv_iload_n hx hb eX9_autumn_27.2.2.2.2.2.2.2.2.2.2.2.2.1 rfl (lv_at hl 1 rfl) ?_
  refine lv_icmp_gt (tgt := 176) hx hb eX9_autumn_27.2.2.2.2.2.2.2.2.2.2.2.2.2.1 (by decide) (fun hc => ?_) (fun hc => ?_)
  · have hp := hp.1 hc
    refine lv_aload_n hx hb eX9_autumn_144.2.2.2.2.2.2.2.2.2.2.2.2.2.1 rfl (lv_at hl 0 rfl) ?_
    refine lv_iload hx hb eX9_autumn_144.2.2.2.2.2.2.2.2.2.2.2.2.2.2.1 (lv_at hl 5 rfl) ?_
    refine lv_aload_n hx hb eX9_autumn_144.2.2.2.2.2.2.2.2.2.2.2.2.2.2.2 rfl (lv_at hl 0 rfl) ?_
    refine va_get (D := (dC, dI)) (ci := 9) (v := .ref wY) (C := RX9) (T := TX9) (N := 9) hx hb hts i_X9 hown hK hP 0 rfl rfl 2 (Nat.le_of_ble_eq_true rfl) (hts _ q_146) (fun _ h9 => h9) rfl eX9_autumn_180.1 ?_
    refine lv_iload hx hb eX9_autumn_180.2.1 (lv_at hl 5 rfl) ?_
    have hm := mgk (wc := (wd_X0_worthOf cI cC cZ cB cJ wY wJ wQ xH tX jE mX pD oO oQ eG bZ bD bI aI pE jC eO eW dO fJ fY jD nG)) hP mk_182 8 rfl rfl rfl
    refine g_calli hP hD hS hA (mixT mk_182) (mixF mk_182) hm.1 hm.2 (nd_F _) (dis_g _) (g_runV (As := [.int x6]) (rest := [.int x6, .ref a_x]) C0 hP hD hS (mixT mk_182) hm.1 (nd_T _) 1 0 rfl rfl (c_X0_worthOf l dC dI cI cC cZ cB cJ wY wJ wQ xH tX jE mX pD oO oQ eG H.size x6 bZ bD bI aI pE jC eO eW dO fJ fY jD nG _ hp) q_297 q_417 q_298 q_299 q_187 h_X0_worthOf rfl rfl ⟨Nat.le_of_ble_eq_true rfl, Nat.le_of_ble_eq_true rfl⟩ rfl rfl hl.1 rfl (lv_room (Nat.le_of_ble_eq_true rfl)) eX9_autumn_180.2.2.1 ⟨Nat.zero_le _, Nat.zero_le _⟩) (fun r_2 u H locs hp hP hD hS => ?_)
    have hPD := PDm (ws' := (wd_X9_autumn cI cC cZ cB cJ a_x xG xD wY wJ wQ xI xK xJ tW xH tX jE mX pD oO oQ eG qT bZ bD bI aI pE qA jC eO eW dO fJ fY jD nG qF jJ)) hP hD 8 rfl rfl rfl
    have hP := hPD.1
    have hD := hPD.2
    refine lv_iload hx hb eX9_autumn_180.2.2.2.1 (lv_at hl 7 rfl) ?_
    have hm := mgk (wc := (wd_X9_tell__ cI cC cZ cB cJ a_x xG xD wY wJ wQ xI xK xJ tW qT qF jJ)) hP aAt 8 rfl rfl rfl
    refine g_callv hP hD hS hA (mixT aAt) (mixF aAt) hm.1 hm.2 (nd_F _) (dis_g _) (g_runV (As := [.int x6, .int r_2, .int x8]) (rest := []) C0 hP hD hS (mixT aAt) hm.1 (nd_T _) 0 9 rfl rfl (c_X9_tell__ l dC dI cI cC cZ cB cJ a_x xG xD wY wJ wQ xI xK xJ tW qT H.size x6 r_2 x8 qF jJ _ hp) q_535 q_538 q_536 q_537 q_256 h_X9_tell__ rfl rfl ⟨Nat.le_of_ble_eq_true rfl, Nat.le_of_ble_eq_true rfl⟩ rfl rfl hl.1 rfl (lv_room (Nat.le_of_ble_eq_true rfl)) eX9_autumn_180.2.2.2.2.1 ⟨Nat.zero_le _, Nat.zero_le _⟩) (fun u H locs hp hP hD hS => ?_)
    obtain ⟨aAq, zE⟩ := u
    have hPD := PDm (ws' := (wd_X9_autumn cI cC cZ cB cJ a_x xG xD wY wJ wQ xI xK xJ tW xH tX jE mX pD oO oQ eG qT bZ bD bI aI pE qA jC eO eW dO fJ fY jD nG aAq zE)) hP hD 8 rfl rfl rfl
    have hP := hPD.1
    have hD := hPD.2
    refine lv_iload hx hb eX9_autumn_180.2.2.2.2.2.1 (lv_at hl 5 rfl) ?_
    have hm := mgk (wc := (wd_J6_bitCount_0f7a4 cI cC cZ cB cJ)) hP aAW 8 rfl rfl rfl
    refine g_calli hP hD hS hA (mixT aAW) (mixF aAW) hm.1 hm.2 (nd_F _) (dis_g _) (g_runS (As := [.int x6]) (rest := []) C0 hP hD hS (mixT aAW) hm.1 (nd_T _) (c_J6_bitCount_0f7a4 l dC dI cI cC cZ cB cJ H.size x6 _ hp) q_320 q_474 q_322 q_321 h_J6_bitCount_0f7a4 rfl rfl ⟨Nat.le_of_ble_eq_true rfl, Nat.le_of_ble_eq_true rfl⟩ rfl rfl hl.1 rfl (lv_room (Nat.le_of_ble_eq_true rfl)) eX9_autumn_180.2.2.2.2.2.2.1 ⟨Nat.zero_le _, Nat.zero_le _⟩) (fun r_5 u H locs hp hP hD hS => ?_)
    have hPD := PDm (ws' := (wd_X9_autumn cI cC cZ cB cJ a_x xG xD wY wJ wQ xI xK xJ tW xH tX jE mX pD oO oQ eG qT bZ bD bI aI pE qA jC eO eW dO fJ fY jD nG aAq zE)) hP hD 8 rfl rfl rfl
    have hP := hPD.1
    have hD := hPD.2
    exact W.iret (v := r_5) hx hb hr (fun t ht hW => ⟨⟨r_5, (aAq, zE), rfl, hp, by rw [ht]; exact hP, va_K.moved hW.alike hK, hD⟩, hS.F ht⟩) hS.2.2 eX9_autumn_180.2.2.2.2.2.2.2
  · have hp := hp.2 hc
    refine lv_iload hx hb eX9_autumn_27.2.2.2.2.2.2.2.2.2.2.2.2.2.2.1 (lv_at hl 4 rfl) ?_
    refine lv_iload hx hb eX9_autumn_27.2.2.2.2.2.2.2.2.2.2.2.2.2.2.2 (lv_at hl 5 rfl) ?_
    refine lv_iconst (v := (-1)) hx hb eX9_autumn_57.1 ic_m1 ?_
    refine lv_ixor hx hb eX9_autumn_57.2.1 ?_
    refine lv_iand hx hb eX9_autumn_57.2.2.1 ?_
    refine lv_topi (fun v_6 ev_6 => ?_)
    have hp := hp v_6 ev_6
    refine lv_aload_n hx hb eX9_autumn_57.2.2.2.1 rfl (lv_at hl 0 rfl) ?_
    refine va_get (D := (dC, dI)) (ci := 9) (v := .ref wJ) (C := RX9) (T := TX9) (N := 9) hx hb hts i_X9 hown hK hP 0 rfl rfl 3 (Nat.le_of_ble_eq_true rfl) (hts _ q_74) (fun _ h9 => h9) rfl eX9_autumn_57.2.2.2.2.1 ?_
    refine lv_bipush (v := 9) hx hb eX9_autumn_57.2.2.2.2.2.1 bp_9 ?_
    refine lv_aload_n hx hb eX9_autumn_57.2.2.2.2.2.2.1 rfl (lv_at hl 0 rfl) ?_
    refine va_get (D := (dC, dI)) (ci := 9) (v := .ref wQ) (C := RX9) (T := TX9) (N := 9) hx hb hts i_X9 hown hK hP 0 rfl rfl 4 (Nat.le_of_ble_eq_true rfl) (hts _ q_179) (fun _ h9 => h9) rfl eX9_autumn_57.2.2.2.2.2.2.2.1 ?_
    refine va_get (D := (dC, dI)) (ci := 2) (v := .int jD) (C := RX2) (T := TX2) (N := 8) hx hb hts i_X2 hown hK hP 5 rfl rfl 6 (Nat.le_of_ble_eq_true rfl) (hts _ q_542) (fun _ h9 => h9) rfl eX9_autumn_57.2.2.2.2.2.2.2.2.1 ?_
    refine lv_iload hx hb eX9_autumn_57.2.2.2.2.2.2.2.2.2.1 (lv_at hl 8 rfl) ?_
    refine lv_iadd hx hb eX9_autumn_57.2.2.2.2.2.2.2.2.2.2.1 ?_
    refine lv_topi (fun v_7 ev_7 => ?_)
    have hp := hp v_7 ev_7
    refine va_mmin hx hb (by rw [hml]; exact hl.1.symm) hown (hts _ q_623) (hts _ q_15) (hts _ q_16) (hts _ q_17) (Nat.le_of_ble_eq_true rfl) (Nat.le_of_ble_eq_true rfl) (Nat.zero_le _) (Nat.zero_le _) eX9_autumn_57.2.2.2.2.2.2.2.2.2.2.2.1 ?_
    refine lv_topi (fun v_8 ev_8 => ?_)
    have hp := hp v_8 ev_8
    have hm := mgk (wc := (wd_X3_ripeBy cI cC cZ cB cJ wJ tX jE mX pD oO oQ eG bZ bD bI aI qA)) hP mk_184 8 rfl rfl rfl
    refine g_calli hP hD hS hA (mixT mk_184) (mixF mk_184) hm.1 hm.2 (nd_F _) (dis_g _) (g_runV (As := [.int v_8]) (rest := [.int v_6]) C0 hP hD hS (mixT mk_184) hm.1 (nd_T _) 2 3 rfl rfl (c_X3_ripeBy l dC dI cI cC cZ cB cJ wJ tX jE mX pD oO oQ eG H.size v_8 bZ bD bI aI qA _ hp) q_343 q_544 q_344 q_345 q_48 h_X3_ripeBy rfl rfl ⟨Nat.le_of_ble_eq_true rfl, Nat.le_of_ble_eq_true rfl⟩ rfl rfl hl.1 rfl (lv_room (Nat.le_of_ble_eq_true rfl)) eX9_autumn_57.2.2.2.2.2.2.2.2.2.2.2.2.1 ⟨Nat.zero_le _, Nat.zero_le _⟩) (fun r_9 u H locs hp hP hD hS => ?_)
    have hPD := PDm (ws' := (wd_X9_autumn cI cC cZ cB cJ a_x xG xD wY wJ wQ xI xK xJ tW xH tX jE mX pD oO oQ eG qT bZ bD bI aI pE qA jC eO eW dO fJ fY jD nG qF jJ)) hP hD 8 rfl rfl rfl
    have hP := hPD.1
    have hD := hPD.2
    refine lv_iand hx hb eX9_autumn_57.2.2.2.2.2.2.2.2.2.2.2.2.2.1 ?_
    refine lv_topi (fun v_10 ev_10 => ?_)
    have hp := hp v_10 ev_10
    refine lv_istore (lv' := [(10, .int v_10), (0, .ref a_x), (2, .int x2), (3, .int x3), (4, .int x4), (5, .int x5), (6, .int x6), (7, .int x7), (8, .int x8), (9, .int x9)]) hx hb eX9_autumn_57.2.2.2.2.2.2.2.2.2.2.2.2.2.2.1 hl (by decide) rfl (fun ls hl => ?_)
    refine lv_iconst (v := 0) hx hb eX9_autumn_57.2.2.2.2.2.2.2.2.2.2.2.2.2.2.2 ic_0 ?_
    refine lv_istore (lv' := [(11, .int 0), (10, .int v_10), (0, .ref a_x), (2, .int x2), (3, .int x3), (4, .int x4), (5, .int x5), (6, .int x6), (7, .int x7), (8, .int x8), (9, .int x9)]) hx hb eX9_autumn_86.1 hl (by decide) rfl (fun ls hl => ?_)
    refine lv_iconst (v := 0) hx hb eX9_autumn_86.2.1 ic_0 ?_
    refine lv_istore (lv' := [(12, .int 0), (11, .int 0), (10, .int v_10), (0, .ref a_x), (2, .int x2), (3, .int x3), (4, .int x4), (5, .int x5), (6, .int x6), (7, .int x7), (8, .int x8), (9, .int x9)]) hx hb eX9_autumn_86.2.2.1 hl (by decide) rfl (fun ls hl => ?_)
    obtain ⟨n9, hp⟩ := hp
    exact kb_X9_autumn_91 C0 hKn n9 x2 x3 x4 x5 x6 x7 x8 x9 v_10 0 0 qF jJ H locs ls hp hP hD hS (lv_sub hl [3, 4, 5, 6, 7, 8, 9, 10, 11, 2, 1, 0] rfl)
set_option maxHeartbeats 4000000 in
set_option maxRecDepth 100000 in
theorem kb_X9_autumn_47 (C0 : gc cX9_autumn (some .int) 13 RX9 (dC, dI) (tyl cI cC cZ cB cJ) A p s m args meth c) : ∀ (n : Nat), ∀ (x2 x3 x4 x5 x6 x7 x8 x9 qF : Int32) (jJ : Nat → Int32) (H : Heap) (locs : List Loc) (ls : Array Slot), (wb_X9_autumn_47 post bZ pE qA jC eO eW dO jD n) x2 x3 x4 x5 x6 x7 x8 x9 qF jJ → va_P (dC, dI) classes (wd_X9_autumn cI cC cZ cB cJ a_x xG xD wY wJ wQ xI xK xJ tW xH tX jE mX pD oO oQ eG qT bZ bD bI aI pE qA jC eO eW dO fJ fY jD nG qF jJ) H → va_D A (wd_X9_autumn cI cC cZ cB cJ a_x xG xD wY wJ wQ xI xK xJ tW xH tX jE mX pD oO oQ eG qT bZ bD bI aI pE qA jC eO eW dO fJ fY jD nG qF jJ) → va_S A s.heap H locs → lv_has ls 13 [(0, .ref a_x), (2, .int x2), (3, .int x3), (4, .int x4), (5, .int x5), (6, .int x6), (7, .int x7), (8, .int x8), (9, .int x9)] → W p l e rm_X9_autumn s m args below meth c H locs 0 0 (MQ below (q_X9_autumn dC dI cI cC cZ cB cJ A a_x xG xD wY wJ wQ xI xK xJ tW xH tX jE mX pD oO oQ eG qT bZ bD bI aI pE qA jC eO eW dO fJ fY jD nG post) args s 0 0 A) (F0 m 47 ls []) := by
  intro n
  induction n with
  | zero =>
    intro x2 x3 x4 x5 x6 x7 x8 x9 qF jJ H locs ls hp
    exact False.elim hp
  | succ n ih =>
    intro x2 x3 x4 x5 x6 x7 x8 x9 qF jJ H locs ls hp
    exact ks_X9_autumn_47 C0 ih x2 x3 x4 x5 x6 x7 x8 x9 qF jJ H locs ls hp
end S_X9_autumn
noncomputable def wp_X9_autumn (post : Int32 → Int32 → (Nat → Int32) → Prop) (p0 p1 p2 bZ : Int32) (pE qA : Nat → Int32) (jC eO eW dO jD qF : Int32) (jJ : Nat → Int32) : Prop := (p1 < 1 → post (-1) qF jJ) ∧ (¬ p1 < 1 → (30 < p1 → post (-1) qF jJ) ∧ (¬ 30 < p1 → (p2 < 0 → post (-1) qF jJ) ∧ (¬ p2 < 0 → (p2 ≤ 10 → wp_X0_hanging (fun r_1 => ∃ n : Nat, wb_X9_autumn_47 post bZ pE qA jC eO eW dO jD n p1 p2 p0 r_1 0 0 (-1) 1 qF jJ) bZ jC eO eW) ∧ (¬ p2 ≤ 10 → post (-1) qF jJ))))
set_option maxHeartbeats 4000000 in
set_option maxRecDepth 100000 in
theorem c_X9_autumn (l : Launch) (dC : Nat → ClassId) (dI : Nat → Nat → Nat) (cI cC cZ cB cJ : ClassId) (a_x xG xD wY wJ wQ xI xK xJ tW xH tX jE mX pD oO oQ eG qT sz : Nat) (p0 p1 p2 bZ bD bI aI : Int32) (pE qA : Nat → Int32) (jC eO eW dO fJ fY jD nG qF : Int32) (jJ : Nat → Int32) (post : Int32 → Int32 → (Nat → Int32) → Prop) (hw : wp_X9_autumn post p0 p1 p2 bZ pE qA jC eO eW dO jD qF jJ) : Met l yX9_autumn (gw yX9_autumn cX9_autumn 13 (some .int)) rm_X9_autumn (va_Pc [.ref a_x, .int p0, .int p1, .int p2] (gPre (dC, dI) (tyl cI cC cZ cB cJ) (wd_X9_autumn cI cC cZ cB cJ a_x xG xD wY wJ wQ xI xK xJ tW xH tX jE mX pD oO oQ eG qT bZ bD bI aI pE qA jC eO eW dO fJ fY jD nG qF jJ) sz)) (q_X9_autumn dC dI cI cC cZ cB cJ (va_A (wd_X9_autumn cI cC cZ cB cJ a_x xG xD wY wJ wQ xI xK xJ tW xH tX jE mX pD oO oQ eG qT bZ bD bI aI pE qA jC eO eW dO fJ fY jD nG qF jJ) sz) a_x xG xD wY wJ wQ xI xK xJ tW xH tX jE mX pD oO oQ eG qT bZ bD bI aI pE qA jC eO eW dO fJ fY jD nG post) 0 0 (va_A (wd_X9_autumn cI cC cZ cB cJ a_x xG xD wY wJ wQ xI xK xJ tW xH tX jE mX pD oO oQ eG qT bZ bD bI aI pE qA jC eO eW dO fJ fY jD nG qF jJ) sz) := by
  refine g_enter (own := RX9) (dC, dI) (tyl cI cC cZ cB cJ) (wd_X9_autumn cI cC cZ cB cJ a_x xG xD wY wJ wQ xI xK xJ tW xH tX jE mX pD oO oQ eG qT bZ bD bI aI pE qA jC eO eW dO fJ fY jD nG qF jJ) sz [.ref a_x, .int p0, .int p1, .int p2] (fun A => q_X9_autumn dC dI cI cC cZ cB cJ A a_x xG xD wY wJ wQ xI xK xJ tW xH tX jE mX pD oO oQ eG qT bZ bD bI aI pE qA jC eO eW dO fJ fY jD nG post) pn_RX9 rfl (Nat.le_of_ble_eq_true rfl) ?_
  intro p e s m args below meth c A H locs ls C0 hP hD hS hl
  have hl : lv_has ls 13 [(0, .ref a_x), (1, .int p0), (2, .int p1), (3, .int p2)] := hl
  obtain ⟨hx, hb, hr, hml, hown, hts, hlocks, hA, hK, hN, tL, tM, hZL, hTL, hZM, hTM, hZX⟩ := id C0
  have hp := hw
  unfold wp_X9_autumn at hp
  refine lv_iload_n hx hb eX9_autumn_0.1 rfl (lv_at hl 2 rfl) ?_
  refine lv_iconst (v := 1) hx hb eX9_autumn_0.2.1 ic_1 ?_
  refine lv_icmp_lt (tgt := 21) hx hb eX9_autumn_0.2.2.1 (by decide) (fun hc => ?_) (fun hc => ?_)
  · have hp := hp.1 hc
    refine lv_iconst (v := (-1)) hx hb eX9_autumn_0.2.2.2.2.2.2.2.2.2.2.2.1 ic_m1 ?_
    exact W.iret (v := (-1)) hx hb hr (fun t ht hW => ⟨⟨(-1), (qF, jJ), rfl, hp, by rw [ht]; exact hP, va_K.moved hW.alike hK, hD⟩, hS.F ht⟩) hS.2.2 eX9_autumn_0.2.2.2.2.2.2.2.2.2.2.2.2.1
  · have hp := hp.2 hc
    refine lv_iload_n hx hb eX9_autumn_0.2.2.2.1 rfl (lv_at hl 2 rfl) ?_
    refine lv_bipush (v := 30) hx hb eX9_autumn_0.2.2.2.2.1 bp_30 ?_
    refine lv_icmp_gt (tgt := 21) hx hb eX9_autumn_0.2.2.2.2.2.1 (by decide) (fun hc => ?_) (fun hc => ?_)
    · have hp := hp.1 hc
      refine lv_iconst (v := (-1)) hx hb eX9_autumn_0.2.2.2.2.2.2.2.2.2.2.2.1 ic_m1 ?_
      exact W.iret (v := (-1)) hx hb hr (fun t ht hW => ⟨⟨(-1), (qF, jJ), rfl, hp, by rw [ht]; exact hP, va_K.moved hW.alike hK, hD⟩, hS.F ht⟩) hS.2.2 eX9_autumn_0.2.2.2.2.2.2.2.2.2.2.2.2.1
    · have hp := hp.2 hc
      refine lv_iload_n hx hb eX9_autumn_0.2.2.2.2.2.2.1 rfl (lv_at hl 3 rfl) ?_
      refine lv_if_lt (tgt := 21) hx hb eX9_autumn_0.2.2.2.2.2.2.2.1 (by decide) (fun hc => ?_) (fun hc => ?_)
      · have hp := hp.1 hc
        refine lv_iconst (v := (-1)) hx hb eX9_autumn_0.2.2.2.2.2.2.2.2.2.2.2.1 ic_m1 ?_
        exact W.iret (v := (-1)) hx hb hr (fun t ht hW => ⟨⟨(-1), (qF, jJ), rfl, hp, by rw [ht]; exact hP, va_K.moved hW.alike hK, hD⟩, hS.F ht⟩) hS.2.2 eX9_autumn_0.2.2.2.2.2.2.2.2.2.2.2.2.1
      · have hp := hp.2 hc
        refine lv_iload_n hx hb eX9_autumn_0.2.2.2.2.2.2.2.2.1 rfl (lv_at hl 3 rfl) ?_
        refine lv_bipush (v := 10) hx hb eX9_autumn_0.2.2.2.2.2.2.2.2.2.1 bp_10 ?_
        refine lv_icmp_le (tgt := 23) hx hb eX9_autumn_0.2.2.2.2.2.2.2.2.2.2.1 (by decide) (fun hc => ?_) (fun hc => ?_)
        · have hp := hp.1 hc
          refine lv_iload_n hx hb eX9_autumn_0.2.2.2.2.2.2.2.2.2.2.2.2.2.1 rfl (lv_at hl 1 rfl) ?_
          refine lv_istore (lv' := [(4, .int p0), (0, .ref a_x), (1, .int p0), (2, .int p1), (3, .int p2)]) hx hb eX9_autumn_0.2.2.2.2.2.2.2.2.2.2.2.2.2.2.1 hl (by decide) rfl (fun ls hl => ?_)
          refine lv_aload_n hx hb eX9_autumn_0.2.2.2.2.2.2.2.2.2.2.2.2.2.2.2 rfl (lv_at hl 1 rfl) ?_
          refine va_get (D := (dC, dI)) (ci := 9) (v := .ref wY) (C := RX9) (T := TX9) (N := 9) hx hb hts i_X9 hown hK hP 0 rfl rfl 2 (Nat.le_of_ble_eq_true rfl) (hts _ q_146) (fun _ h9 => h9) rfl eX9_autumn_27.1 ?_
          have hm := mgk (wc := (wd_X0_hanging cI cC cZ cB cJ wY wJ wQ xH tX jE mX pD oO oQ eG bZ bD bI aI jC eO eW dO fJ fY jD nG)) hP mk_185 8 rfl rfl rfl
          refine g_calli hP hD hS hA (mixT mk_185) (mixF mk_185) hm.1 hm.2 (nd_F _) (dis_g _) (g_runV (As := []) (rest := []) C0 hP hD hS (mixT mk_185) hm.1 (nd_T _) 1 0 rfl rfl (c_X0_hanging l dC dI cI cC cZ cB cJ wY wJ wQ xH tX jE mX pD oO oQ eG H.size bZ bD bI aI jC eO eW dO fJ fY jD nG _ hp) q_186 q_190 q_188 q_189 q_187 h_X0_hanging rfl rfl ⟨Nat.le_of_ble_eq_true rfl, Nat.le_of_ble_eq_true rfl⟩ rfl rfl hl.1 rfl (lv_room (Nat.le_of_ble_eq_true rfl)) eX9_autumn_27.2.1 ⟨Nat.zero_le _, Nat.zero_le _⟩) (fun r_1 u H locs hp hP hD hS => ?_)
          have hPD := PDm (ws' := (wd_X9_autumn cI cC cZ cB cJ a_x xG xD wY wJ wQ xI xK xJ tW xH tX jE mX pD oO oQ eG qT bZ bD bI aI pE qA jC eO eW dO fJ fY jD nG qF jJ)) hP hD 8 rfl rfl rfl
          have hP := hPD.1
          have hD := hPD.2
          refine lv_istore (lv' := [(5, .int r_1), (4, .int p0), (0, .ref a_x), (1, .int p0), (2, .int p1), (3, .int p2)]) hx hb eX9_autumn_27.2.2.1 hl (by decide) rfl (fun ls hl => ?_)
          refine lv_iconst (v := 0) hx hb eX9_autumn_27.2.2.2.1 ic_0 ?_
          refine lv_istore (lv' := [(6, .int 0), (5, .int r_1), (4, .int p0), (0, .ref a_x), (1, .int p0), (2, .int p1), (3, .int p2)]) hx hb eX9_autumn_27.2.2.2.2.1 hl (by decide) rfl (fun ls hl => ?_)
          refine lv_iconst (v := 0) hx hb eX9_autumn_27.2.2.2.2.2.1 ic_0 ?_
          refine lv_istore (lv' := [(7, .int 0), (6, .int 0), (5, .int r_1), (4, .int p0), (0, .ref a_x), (1, .int p0), (2, .int p1), (3, .int p2)]) hx hb eX9_autumn_27.2.2.2.2.2.2.1 hl (by decide) rfl (fun ls hl => ?_)
          refine lv_iconst (v := (-1)) hx hb eX9_autumn_27.2.2.2.2.2.2.2.1 ic_m1 ?_
          refine lv_istore (lv' := [(8, .int (-1)), (7, .int 0), (6, .int 0), (5, .int r_1), (4, .int p0), (0, .ref a_x), (1, .int p0), (2, .int p1), (3, .int p2)]) hx hb eX9_autumn_27.2.2.2.2.2.2.2.2.1 hl (by decide) rfl (fun ls hl => ?_)
          refine lv_iconst (v := 1) hx hb eX9_autumn_27.2.2.2.2.2.2.2.2.2.1 ic_1 ?_
          refine lv_istore (lv' := [(9, .int 1), (8, .int (-1)), (7, .int 0), (6, .int 0), (5, .int r_1), (4, .int p0), (0, .ref a_x), (1, .int p0), (2, .int p1), (3, .int p2)]) hx hb eX9_autumn_27.2.2.2.2.2.2.2.2.2.2.1 hl (by decide) rfl (fun ls hl => ?_)
          obtain ⟨n9, hp⟩ := hp
          exact kb_X9_autumn_47 C0 n9 p1 p2 p0 r_1 0 0 (-1) 1 qF jJ H locs ls hp hP hD hS (lv_sub hl [6, 8, 9, 5, 4, 3, 2, 1, 0] rfl)
        · have hp := hp.2 hc
          refine lv_iconst (v := (-1)) hx hb eX9_autumn_0.2.2.2.2.2.2.2.2.2.2.2.1 ic_m1 ?_
          exact W.iret (v := (-1)) hx hb hr (fun t ht hW => ⟨⟨(-1), (qF, jJ), rfl, hp, by rw [ht]; exact hP, va_K.moved hW.alike hK, hD⟩, hS.F ht⟩) hS.2.2 eX9_autumn_0.2.2.2.2.2.2.2.2.2.2.2.2.1
noncomputable abbrev wd_X2_write_b2 (cI cC cZ cB cJ : ClassId) (wQ uO : Nat) (jC eO eW dO fJ fY jD nG : Int32) (qR : Nat → Int32) : va_W := [(wQ, .inr (2, [.int jC, .int eO, .int eW, .int dO, .int fJ, .int fY, .int jD, .int nG])), (uO, .inl (cI, 16, .inl qR))]
noncomputable abbrev q_X2_write_b2 (dC : Nat → ClassId) (dI : Nat → Nat → Nat) (cI cC cZ cB cJ : ClassId) (A : Nat → Prop) (wQ uO : Nat) (jC eO eW dO fJ fY jD nG : Int32) (post : (Nat → Int32) → Prop) : Array Value → State → Outcome → State → Prop := va_Qv (fun (u : (Nat → Int32)) => post u) (fun u t => gB (dC, dI) (tyl cI cC cZ cB cJ) A (wd_X2_write_b2 cI cC cZ cB cJ wQ uO jC eO eW dO fJ fY jD nG u) t) A
noncomputable abbrev rm_X2_write_b2 : Room := { frames := 0, cells := 0, slots := 0, locals := 0 }
noncomputable def wp_X2_write_b2 (post : (Nat → Int32) → Prop) (p1 jC eO eW dO fJ fY jD nG : Int32) (qR : Nat → Int32) : Prop := (p1 < 0 → post qR) ∧ (¬ p1 < 0 → (p1 ≤ (16 - 8) → vp_in p1 16 ∧ (∀ v_1 : Int32, v_1 = p1 + 1 → vp_in v_1 16 ∧ (∀ v_2 : Int32, v_2 = p1 + 2 → vp_in v_2 16 ∧ (∀ v_3 : Int32, v_3 = p1 + 3 → vp_in v_3 16 ∧ (∀ v_4 : Int32, v_4 = p1 + 4 → vp_in v_4 16 ∧ (∀ v_5 : Int32, v_5 = p1 + 5 → vp_in v_5 16 ∧ (∀ v_6 : Int32, v_6 = p1 + 6 → vp_in v_6 16 ∧ (∀ v_7 : Int32, v_7 = p1 + 7 → vp_in v_7 16 ∧ (post (upd (upd (upd (upd (upd (upd (upd (upd qR p1.toNatClampNeg jC) v_1.toNatClampNeg eO) v_2.toNatClampNeg eW) v_3.toNatClampNeg dO) v_4.toNatClampNeg fJ) v_5.toNatClampNeg fY) v_6.toNatClampNeg jD) v_7.toNatClampNeg nG)))))))))) ∧ (¬ p1 ≤ (16 - 8) → post qR))
set_option maxHeartbeats 4000000 in
set_option maxRecDepth 100000 in
theorem c_X2_write_b2 (l : Launch) (dC : Nat → ClassId) (dI : Nat → Nat → Nat) (cI cC cZ cB cJ : ClassId) (wQ uO sz : Nat) (p1 jC eO eW dO fJ fY jD nG : Int32) (qR : Nat → Int32) (post : (Nat → Int32) → Prop) (hw : wp_X2_write_b2 post p1 jC eO eW dO fJ fY jD nG qR) : Met l yX2_write (gw yX2_write cX2_write 3 none) rm_X2_write_b2 (va_Pc [.ref wQ, .ref uO, .int p1] (gPre (dC, dI) (tyl cI cC cZ cB cJ) (wd_X2_write_b2 cI cC cZ cB cJ wQ uO jC eO eW dO fJ fY jD nG qR) sz)) (q_X2_write_b2 dC dI cI cC cZ cB cJ (va_A (wd_X2_write_b2 cI cC cZ cB cJ wQ uO jC eO eW dO fJ fY jD nG qR) sz) wQ uO jC eO eW dO fJ fY jD nG post) 0 0 (va_A (wd_X2_write_b2 cI cC cZ cB cJ wQ uO jC eO eW dO fJ fY jD nG qR) sz) := by
  refine g_enter (own := RX2) (dC, dI) (tyl cI cC cZ cB cJ) (wd_X2_write_b2 cI cC cZ cB cJ wQ uO jC eO eW dO fJ fY jD nG qR) sz [.ref wQ, .ref uO, .int p1] (fun A => q_X2_write_b2 dC dI cI cC cZ cB cJ A wQ uO jC eO eW dO fJ fY jD nG post) pn_RX2 rfl (Nat.le_of_ble_eq_true rfl) ?_
  intro p e s m args below meth c A H locs ls C0 hP hD hS hl
  have hl : lv_has ls 3 [(0, .ref wQ), (1, .ref uO), (2, .int p1)] := hl
  obtain ⟨hx, hb, hr, hml, hown, hts, hlocks, hA, hK, hN, tL, tM, hZL, hTL, hZM, hTM, hZX⟩ := id C0
  have hp := hw
  unfold wp_X2_write_b2 at hp
  refine lv_iload_n hx hb eX2_write_0.1 rfl (lv_at hl 2 rfl) ?_
  refine lv_if_lt (tgt := 13) hx hb eX2_write_0.2.1 (by decide) (fun hc => ?_) (fun hc => ?_)
  · have hp := hp.1 hc
    exact W.vret hx hb hr (fun t ht hW => ⟨⟨qR, rfl, hp, by rw [ht]; exact hP, va_K.moved hW.alike hK, hD⟩, hS.F ht⟩) hS.2.2 eX2_write_0.2.2.2.2.2.2.2.2.1
  · have hp := hp.2 hc
    refine lv_iload_n hx hb eX2_write_0.2.2.1 rfl (lv_at hl 2 rfl) ?_
    refine lv_aload_n hx hb eX2_write_0.2.2.2.1 rfl (lv_at hl 1 rfl) ?_
    refine va_alen (v := 16) hx hb hK hP 1 0 rfl rfl rfl eX2_write_0.2.2.2.2.1 ?_
    refine lv_bipush (v := 8) hx hb eX2_write_0.2.2.2.2.2.1 bp_8 ?_
    refine lv_isub hx hb eX2_write_0.2.2.2.2.2.2.1 ?_
    refine lv_icmp_le (tgt := 14) hx hb eX2_write_0.2.2.2.2.2.2.2.1 (by decide) (fun hc => ?_) (fun hc => ?_)
    · have hp := hp.1 hc
      refine lv_aload_n hx hb eX2_write_0.2.2.2.2.2.2.2.2.2.1 rfl (lv_at hl 1 rfl) ?_
      refine lv_iload_n hx hb eX2_write_0.2.2.2.2.2.2.2.2.2.2.1 rfl (lv_at hl 2 rfl) ?_
      refine lv_aload_n hx hb eX2_write_0.2.2.2.2.2.2.2.2.2.2.2.1 rfl (lv_at hl 0 rfl) ?_
      refine va_get (D := (dC, dI)) (ci := 2) (v := .int jC) (C := RX2) (T := TX2) (N := 8) hx hb hts i_X2 hown hK hP 0 rfl rfl 0 (Nat.le_of_ble_eq_true rfl) (hts _ q_168) (fun _ h9 => h9) rfl eX2_write_0.2.2.2.2.2.2.2.2.2.2.2.2.1 ?_
      have hin := hp.1
      have hp := hp.2
      refine va_iast hx hb hK hP hD hS 1 0 rfl rfl hin eX2_write_0.2.2.2.2.2.2.2.2.2.2.2.2.2.1 (fun H locs hP hD hS => ?_)
      have hP : va_P (dC, dI) classes (wd_X2_write_b2 cI cC cZ cB cJ wQ uO jC eO eW dO fJ fY jD nG (upd qR p1.toNatClampNeg jC)) H := hP
      have hD : va_D A (wd_X2_write_b2 cI cC cZ cB cJ wQ uO jC eO eW dO fJ fY jD nG (upd qR p1.toNatClampNeg jC)) := hD
      refine lv_aload_n hx hb eX2_write_0.2.2.2.2.2.2.2.2.2.2.2.2.2.2.1 rfl (lv_at hl 1 rfl) ?_
      refine lv_iload_n hx hb eX2_write_0.2.2.2.2.2.2.2.2.2.2.2.2.2.2.2 rfl (lv_at hl 2 rfl) ?_
      refine lv_iconst (v := 1) hx hb eX2_write_23.1 ic_1 ?_
      refine lv_iadd hx hb eX2_write_23.2.1 ?_
      refine lv_topi (fun v_1 ev_1 => ?_)
      have hp := hp v_1 ev_1
      refine lv_aload_n hx hb eX2_write_23.2.2.1 rfl (lv_at hl 0 rfl) ?_
      refine va_get (D := (dC, dI)) (ci := 2) (v := .int eO) (C := RX2) (T := TX2) (N := 8) hx hb hts i_X2 hown hK hP 0 rfl rfl 1 (Nat.le_of_ble_eq_true rfl) (hts _ q_169) (fun _ h9 => h9) rfl eX2_write_23.2.2.2.1 ?_
      have hin := hp.1
      have hp := hp.2
      refine va_iast hx hb hK hP hD hS 1 0 rfl rfl hin eX2_write_23.2.2.2.2.1 (fun H locs hP hD hS => ?_)
      have hP : va_P (dC, dI) classes (wd_X2_write_b2 cI cC cZ cB cJ wQ uO jC eO eW dO fJ fY jD nG (upd (upd qR p1.toNatClampNeg jC) v_1.toNatClampNeg eO)) H := hP
      have hD : va_D A (wd_X2_write_b2 cI cC cZ cB cJ wQ uO jC eO eW dO fJ fY jD nG (upd (upd qR p1.toNatClampNeg jC) v_1.toNatClampNeg eO)) := hD
      refine lv_aload_n hx hb eX2_write_23.2.2.2.2.2.1 rfl (lv_at hl 1 rfl) ?_
      refine lv_iload_n hx hb eX2_write_23.2.2.2.2.2.2.1 rfl (lv_at hl 2 rfl) ?_
      refine lv_iconst (v := 2) hx hb eX2_write_23.2.2.2.2.2.2.2.1 ic_2 ?_
      refine lv_iadd hx hb eX2_write_23.2.2.2.2.2.2.2.2.1 ?_
      refine lv_topi (fun v_2 ev_2 => ?_)
      have hp := hp v_2 ev_2
      refine lv_aload_n hx hb eX2_write_23.2.2.2.2.2.2.2.2.2.1 rfl (lv_at hl 0 rfl) ?_
      refine va_get (D := (dC, dI)) (ci := 2) (v := .int eW) (C := RX2) (T := TX2) (N := 8) hx hb hts i_X2 hown hK hP 0 rfl rfl 2 (Nat.le_of_ble_eq_true rfl) (hts _ q_170) (fun _ h9 => h9) rfl eX2_write_23.2.2.2.2.2.2.2.2.2.2.1 ?_
      have hin := hp.1
      have hp := hp.2
      refine va_iast hx hb hK hP hD hS 1 0 rfl rfl hin eX2_write_23.2.2.2.2.2.2.2.2.2.2.2.1 (fun H locs hP hD hS => ?_)
      have hP : va_P (dC, dI) classes (wd_X2_write_b2 cI cC cZ cB cJ wQ uO jC eO eW dO fJ fY jD nG (upd (upd (upd qR p1.toNatClampNeg jC) v_1.toNatClampNeg eO) v_2.toNatClampNeg eW)) H := hP
      have hD : va_D A (wd_X2_write_b2 cI cC cZ cB cJ wQ uO jC eO eW dO fJ fY jD nG (upd (upd (upd qR p1.toNatClampNeg jC) v_1.toNatClampNeg eO) v_2.toNatClampNeg eW)) := hD
      refine lv_aload_n hx hb eX2_write_23.2.2.2.2.2.2.2.2.2.2.2.2.1 rfl (lv_at hl 1 rfl) ?_
      refine lv_iload_n hx hb eX2_write_23.2.2.2.2.2.2.2.2.2.2.2.2.2.1 rfl (lv_at hl 2 rfl) ?_
      refine lv_iconst (v := 3) hx hb eX2_write_23.2.2.2.2.2.2.2.2.2.2.2.2.2.2.1 ic_3 ?_
      refine lv_iadd hx hb eX2_write_23.2.2.2.2.2.2.2.2.2.2.2.2.2.2.2 ?_
      refine lv_topi (fun v_3 ev_3 => ?_)
      have hp := hp v_3 ev_3
      refine lv_aload_n hx hb eX2_write_43.1 rfl (lv_at hl 0 rfl) ?_
      refine va_get (D := (dC, dI)) (ci := 2) (v := .int dO) (C := RX2) (T := TX2) (N := 8) hx hb hts i_X2 hown hK hP 0 rfl rfl 3 (Nat.le_of_ble_eq_true rfl) (hts _ q_214) (fun _ h9 => h9) rfl eX2_write_43.2.1 ?_
      have hin := hp.1
      have hp := hp.2
      refine va_iast hx hb hK hP hD hS 1 0 rfl rfl hin eX2_write_43.2.2.1 (fun H locs hP hD hS => ?_)
      have hP : va_P (dC, dI) classes (wd_X2_write_b2 cI cC cZ cB cJ wQ uO jC eO eW dO fJ fY jD nG (upd (upd (upd (upd qR p1.toNatClampNeg jC) v_1.toNatClampNeg eO) v_2.toNatClampNeg eW) v_3.toNatClampNeg dO)) H := hP
      have hD : va_D A (wd_X2_write_b2 cI cC cZ cB cJ wQ uO jC eO eW dO fJ fY jD nG (upd (upd (upd (upd qR p1.toNatClampNeg jC) v_1.toNatClampNeg eO) v_2.toNatClampNeg eW) v_3.toNatClampNeg dO)) := hD
      refine lv_aload_n hx hb eX2_write_43.2.2.2.1 rfl (lv_at hl 1 rfl) ?_
      refine lv_iload_n hx hb eX2_write_43.2.2.2.2.1 rfl (lv_at hl 2 rfl) ?_
      refine lv_iconst (v := 4) hx hb eX2_write_43.2.2.2.2.2.1 ic_4 ?_
      refine lv_iadd hx hb eX2_write_43.2.2.2.2.2.2.1 ?_
      refine lv_topi (fun v_4 ev_4 => ?_)
      have hp := hp v_4 ev_4
      refine lv_aload_n hx hb eX2_write_43.2.2.2.2.2.2.2.1 rfl (lv_at hl 0 rfl) ?_
      refine va_get (D := (dC, dI)) (ci := 2) (v := .int fJ) (C := RX2) (T := TX2) (N := 8) hx hb hts i_X2 hown hK hP 0 rfl rfl 4 (Nat.le_of_ble_eq_true rfl) (hts _ q_215) (fun _ h9 => h9) rfl eX2_write_43.2.2.2.2.2.2.2.2.1 ?_
      have hin := hp.1
      have hp := hp.2
      refine va_iast hx hb hK hP hD hS 1 0 rfl rfl hin eX2_write_43.2.2.2.2.2.2.2.2.2.1 (fun H locs hP hD hS => ?_)
      have hP : va_P (dC, dI) classes (wd_X2_write_b2 cI cC cZ cB cJ wQ uO jC eO eW dO fJ fY jD nG (upd (upd (upd (upd (upd qR p1.toNatClampNeg jC) v_1.toNatClampNeg eO) v_2.toNatClampNeg eW) v_3.toNatClampNeg dO) v_4.toNatClampNeg fJ)) H := hP
      have hD : va_D A (wd_X2_write_b2 cI cC cZ cB cJ wQ uO jC eO eW dO fJ fY jD nG (upd (upd (upd (upd (upd qR p1.toNatClampNeg jC) v_1.toNatClampNeg eO) v_2.toNatClampNeg eW) v_3.toNatClampNeg dO) v_4.toNatClampNeg fJ)) := hD
      refine lv_aload_n hx hb eX2_write_43.2.2.2.2.2.2.2.2.2.2.1 rfl (lv_at hl 1 rfl) ?_
      refine lv_iload_n hx hb eX2_write_43.2.2.2.2.2.2.2.2.2.2.2.1 rfl (lv_at hl 2 rfl) ?_
      refine lv_iconst (v := 5) hx hb eX2_write_43.2.2.2.2.2.2.2.2.2.2.2.2.1 ic_5 ?_
      refine lv_iadd hx hb eX2_write_43.2.2.2.2.2.2.2.2.2.2.2.2.2.1 ?_
      refine lv_topi (fun v_5 ev_5 => ?_)
      have hp := hp v_5 ev_5
      refine lv_aload_n hx hb eX2_write_43.2.2.2.2.2.2.2.2.2.2.2.2.2.2.1 rfl (lv_at hl 0 rfl) ?_
      refine va_get (D := (dC, dI)) (ci := 2) (v := .int fY) (C := RX2) (T := TX2) (N := 8) hx hb hts i_X2 hown hK hP 0 rfl rfl 5 (Nat.le_of_ble_eq_true rfl) (hts _ q_216) (fun _ h9 => h9) rfl eX2_write_43.2.2.2.2.2.2.2.2.2.2.2.2.2.2.2 ?_
      have hin := hp.1
      have hp := hp.2
      refine va_iast hx hb hK hP hD hS 1 0 rfl rfl hin eX2_write_65.1 (fun H locs hP hD hS => ?_)
      have hP : va_P (dC, dI) classes (wd_X2_write_b2 cI cC cZ cB cJ wQ uO jC eO eW dO fJ fY jD nG (upd (upd (upd (upd (upd (upd qR p1.toNatClampNeg jC) v_1.toNatClampNeg eO) v_2.toNatClampNeg eW) v_3.toNatClampNeg dO) v_4.toNatClampNeg fJ) v_5.toNatClampNeg fY)) H := hP
      have hD : va_D A (wd_X2_write_b2 cI cC cZ cB cJ wQ uO jC eO eW dO fJ fY jD nG (upd (upd (upd (upd (upd (upd qR p1.toNatClampNeg jC) v_1.toNatClampNeg eO) v_2.toNatClampNeg eW) v_3.toNatClampNeg dO) v_4.toNatClampNeg fJ) v_5.toNatClampNeg fY)) := hD
      refine lv_aload_n hx hb eX2_write_65.2.1 rfl (lv_at hl 1 rfl) ?_
      refine lv_iload_n hx hb eX2_write_65.2.2.1 rfl (lv_at hl 2 rfl) ?_
      refine lv_bipush (v := 6) hx hb eX2_write_65.2.2.2.1 bp_6 ?_
      refine lv_iadd hx hb eX2_write_65.2.2.2.2.1 ?_
      refine lv_topi (fun v_6 ev_6 => ?_)
      have hp := hp v_6 ev_6
      refine lv_aload_n hx hb eX2_write_65.2.2.2.2.2.1 rfl (lv_at hl 0 rfl) ?_
      refine va_get (D := (dC, dI)) (ci := 2) (v := .int jD) (C := RX2) (T := TX2) (N := 8) hx hb hts i_X2 hown hK hP 0 rfl rfl 6 (Nat.le_of_ble_eq_true rfl) (hts _ q_217) (fun _ h9 => h9) rfl eX2_write_65.2.2.2.2.2.2.1 ?_
      have hin := hp.1
      have hp := hp.2
      refine va_iast hx hb hK hP hD hS 1 0 rfl rfl hin eX2_write_65.2.2.2.2.2.2.2.1 (fun H locs hP hD hS => ?_)
      have hP : va_P (dC, dI) classes (wd_X2_write_b2 cI cC cZ cB cJ wQ uO jC eO eW dO fJ fY jD nG (upd (upd (upd (upd (upd (upd (upd qR p1.toNatClampNeg jC) v_1.toNatClampNeg eO) v_2.toNatClampNeg eW) v_3.toNatClampNeg dO) v_4.toNatClampNeg fJ) v_5.toNatClampNeg fY) v_6.toNatClampNeg jD)) H := hP
      have hD : va_D A (wd_X2_write_b2 cI cC cZ cB cJ wQ uO jC eO eW dO fJ fY jD nG (upd (upd (upd (upd (upd (upd (upd qR p1.toNatClampNeg jC) v_1.toNatClampNeg eO) v_2.toNatClampNeg eW) v_3.toNatClampNeg dO) v_4.toNatClampNeg fJ) v_5.toNatClampNeg fY) v_6.toNatClampNeg jD)) := hD
      refine lv_aload_n hx hb eX2_write_65.2.2.2.2.2.2.2.2.1 rfl (lv_at hl 1 rfl) ?_
      refine lv_iload_n hx hb eX2_write_65.2.2.2.2.2.2.2.2.2.1 rfl (lv_at hl 2 rfl) ?_
      refine lv_bipush (v := 7) hx hb eX2_write_65.2.2.2.2.2.2.2.2.2.2.1 bp_7 ?_
      refine lv_iadd hx hb eX2_write_65.2.2.2.2.2.2.2.2.2.2.2.1 ?_
      refine lv_topi (fun v_7 ev_7 => ?_)
      have hp := hp v_7 ev_7
      refine lv_aload_n hx hb eX2_write_65.2.2.2.2.2.2.2.2.2.2.2.2.1 rfl (lv_at hl 0 rfl) ?_
      refine va_get (D := (dC, dI)) (ci := 2) (v := .int nG) (C := RX2) (T := TX2) (N := 8) hx hb hts i_X2 hown hK hP 0 rfl rfl 7 (Nat.le_of_ble_eq_true rfl) (hts _ q_218) (fun _ h9 => h9) rfl eX2_write_65.2.2.2.2.2.2.2.2.2.2.2.2.2.1 ?_
      have hin := hp.1
      have hp := hp.2
      refine va_iast hx hb hK hP hD hS 1 0 rfl rfl hin eX2_write_65.2.2.2.2.2.2.2.2.2.2.2.2.2.2.1 (fun H locs hP hD hS => ?_)
      have hP : va_P (dC, dI) classes (wd_X2_write_b2 cI cC cZ cB cJ wQ uO jC eO eW dO fJ fY jD nG (upd (upd (upd (upd (upd (upd (upd (upd qR p1.toNatClampNeg jC) v_1.toNatClampNeg eO) v_2.toNatClampNeg eW) v_3.toNatClampNeg dO) v_4.toNatClampNeg fJ) v_5.toNatClampNeg fY) v_6.toNatClampNeg jD) v_7.toNatClampNeg nG)) H := hP
      have hD : va_D A (wd_X2_write_b2 cI cC cZ cB cJ wQ uO jC eO eW dO fJ fY jD nG (upd (upd (upd (upd (upd (upd (upd (upd qR p1.toNatClampNeg jC) v_1.toNatClampNeg eO) v_2.toNatClampNeg eW) v_3.toNatClampNeg dO) v_4.toNatClampNeg fJ) v_5.toNatClampNeg fY) v_6.toNatClampNeg jD) v_7.toNatClampNeg nG)) := hD
      exact W.vret hx hb hr (fun t ht hW => ⟨⟨(upd (upd (upd (upd (upd (upd (upd (upd qR p1.toNatClampNeg jC) v_1.toNatClampNeg eO) v_2.toNatClampNeg eW) v_3.toNatClampNeg dO) v_4.toNatClampNeg fJ) v_5.toNatClampNeg fY) v_6.toNatClampNeg jD) v_7.toNatClampNeg nG), rfl, hp, by rw [ht]; exact hP, va_K.moved hW.alike hK, hD⟩, hS.F ht⟩) hS.2.2 eX2_write_65.2.2.2.2.2.2.2.2.2.2.2.2.2.2.2
    · have hp := hp.2 hc
      exact W.vret hx hb hr (fun t ht hW => ⟨⟨qR, rfl, hp, by rw [ht]; exact hP, va_K.moved hW.alike hK, hD⟩, hS.F ht⟩) hS.2.2 eX2_write_0.2.2.2.2.2.2.2.2.1
noncomputable abbrev wd_X4_store (cI cC cZ cB cJ : ClassId) (wQ xI vX uO vQ : Nat) (jC eO eW dO fJ fY jD nG oE uF : Int32) (qR tJ : Nat → Int32) : va_W := [(wQ, .inr (2, [.int jC, .int eO, .int eW, .int dO, .int fJ, .int fY, .int jD, .int nG])), (xI, .inr (4, [.ref vX, .ref uO, .ref vQ, .int oE, .int uF])), (uO, .inl (cI, 16, .inl qR)), (vQ, .inl (cZ, 2, .inl tJ))]
noncomputable abbrev q_X4_store (dC : Nat → ClassId) (dI : Nat → Nat → Nat) (cI cC cZ cB cJ : ClassId) (A : Nat → Prop) (wQ xI vX uO vQ : Nat) (jC eO eW dO fJ fY jD nG oE uF : Int32) (post : Int32 → (Nat → Int32) → (Nat → Int32) → Prop) : Array Value → State → Outcome → State → Prop := va_Qi (fun (r : Int32) (u : (Nat → Int32) × (Nat → Int32)) => post r u.1 u.2) (fun u t => gB (dC, dI) (tyl cI cC cZ cB cJ) A (wd_X4_store cI cC cZ cB cJ wQ xI vX uO vQ jC eO eW dO fJ fY jD nG oE uF u.1 u.2) t) A
noncomputable abbrev rm_X4_store : Room := { frames := 1, cells := 0, slots := 0, locals := 22 }
noncomputable def wp_X4_store (post : Int32 → (Nat → Int32) → (Nat → Int32) → Prop) (p0 jC eO eW dO fJ fY jD nG : Int32) (qR tJ : Nat → Int32) : Prop := (p0 < 0 → post 0 qR tJ) ∧ (¬ p0 < 0 → (p0 < 2 → ∀ v_1 : Int32, v_1 = p0 * 8 → wp_X2_write_b2 (fun aBi => vp_in p0 2 ∧ (post 1 aBi (upd tJ p0.toNatClampNeg (vp_nar .boolean 1)))) v_1 jC eO eW dO fJ fY jD nG qR) ∧ (¬ p0 < 2 → post 0 qR tJ))
set_option maxHeartbeats 4000000 in
set_option maxRecDepth 100000 in
theorem c_X4_store (l : Launch) (dC : Nat → ClassId) (dI : Nat → Nat → Nat) (cI cC cZ cB cJ : ClassId) (wQ xI vX uO vQ sz : Nat) (p0 jC eO eW dO fJ fY jD nG oE uF : Int32) (qR tJ : Nat → Int32) (post : Int32 → (Nat → Int32) → (Nat → Int32) → Prop) (hw : wp_X4_store post p0 jC eO eW dO fJ fY jD nG qR tJ) : Met l yX4_store (gw yX4_store cX4_store 3 (some .boolean)) rm_X4_store (va_Pc [.ref xI, .int p0, .ref wQ] (gPre (dC, dI) (tyl cI cC cZ cB cJ) (wd_X4_store cI cC cZ cB cJ wQ xI vX uO vQ jC eO eW dO fJ fY jD nG oE uF qR tJ) sz)) (q_X4_store dC dI cI cC cZ cB cJ (va_A (wd_X4_store cI cC cZ cB cJ wQ xI vX uO vQ jC eO eW dO fJ fY jD nG oE uF qR tJ) sz) wQ xI vX uO vQ jC eO eW dO fJ fY jD nG oE uF post) 0 0 (va_A (wd_X4_store cI cC cZ cB cJ wQ xI vX uO vQ jC eO eW dO fJ fY jD nG oE uF qR tJ) sz) := by
  refine g_enter (own := RX4) (dC, dI) (tyl cI cC cZ cB cJ) (wd_X4_store cI cC cZ cB cJ wQ xI vX uO vQ jC eO eW dO fJ fY jD nG oE uF qR tJ) sz [.ref xI, .int p0, .ref wQ] (fun A => q_X4_store dC dI cI cC cZ cB cJ A wQ xI vX uO vQ jC eO eW dO fJ fY jD nG oE uF post) pn_RX4 rfl (Nat.le_of_ble_eq_true rfl) ?_
  intro p e s m args below meth c A H locs ls C0 hP hD hS hl
  have hl : lv_has ls 3 [(0, .ref xI), (1, .int p0), (2, .ref wQ)] := hl
  obtain ⟨hx, hb, hr, hml, hown, hts, hlocks, hA, hK, hN, tL, tM, hZL, hTL, hZM, hTM, hZX⟩ := id C0
  have hp := hw
  unfold wp_X4_store at hp
  refine lv_iload_n hx hb eX4_store_0.1 rfl (lv_at hl 1 rfl) ?_
  refine lv_if_lt (tgt := 9) hx hb eX4_store_0.2.1 (by decide) (fun hc => ?_) (fun hc => ?_)
  · have hp := hp.1 hc
    refine lv_iconst (v := 0) hx hb eX4_store_5.2.2.1 ic_0 ?_
    exact W.zret (v := 0) hx hb hr rfl (fun t ht hW => ⟨⟨0, (qR, tJ), rfl, hp, by rw [ht]; exact hP, va_K.moved hW.alike hK, hD⟩, hS.F ht⟩) hS.2.2 eX4_store_5.2.2.2.1
  · have hp := hp.2 hc
    refine lv_iload_n hx hb eX4_store_0.2.2 rfl (lv_at hl 1 rfl) ?_
    refine lv_iconst (v := 2) hx hb eX4_store_5.1 ic_2 ?_
    refine lv_icmp_lt (tgt := 11) hx hb eX4_store_5.2.1 (by decide) (fun hc => ?_) (fun hc => ?_)
    · have hp := hp.1 hc
      refine lv_aload_n hx hb eX4_store_5.2.2.2.2.1 rfl (lv_at hl 2 rfl) ?_
      refine lv_aload_n hx hb eX4_store_5.2.2.2.2.2.1 rfl (lv_at hl 0 rfl) ?_
      refine va_get (D := (dC, dI)) (ci := 4) (v := .ref uO) (C := RX4) (T := TX4) (N := 5) hx hb hts i_X4 hown hK hP 1 rfl rfl 1 (Nat.le_of_ble_eq_true rfl) (hts _ q_625) (fun _ h9 => h9) rfl eX4_store_5.2.2.2.2.2.2.1 ?_
      refine lv_iload_n hx hb eX4_store_5.2.2.2.2.2.2.2.1 rfl (lv_at hl 1 rfl) ?_
      refine lv_bipush (v := 8) hx hb eX4_store_5.2.2.2.2.2.2.2.2.1 bp_8 ?_
      refine lv_imul hx hb eX4_store_5.2.2.2.2.2.2.2.2.2.1 ?_
      refine lv_topi (fun v_1 ev_1 => ?_)
      have hp := hp v_1 ev_1
      have hm := mgk (wc := (wd_X2_write_b2 cI cC cZ cB cJ wQ uO jC eO eW dO fJ fY jD nG qR)) hP mk_194 4 rfl rfl rfl
      refine g_callv hP hD hS hA (mixT mk_194) (mixF mk_194) hm.1 hm.2 (nd_F _) (dis_g _) (g_runV (As := [.ref uO, .int v_1]) (rest := []) C0 hP hD hS (mixT mk_194) hm.1 (nd_T _) 0 2 rfl rfl (c_X2_write_b2 l dC dI cI cC cZ cB cJ wQ uO H.size v_1 jC eO eW dO fJ fY jD nG qR _ hp) q_221 q_224 q_222 q_223 q_181 h_X2_write rfl rfl ⟨Nat.le_of_ble_eq_true rfl, Nat.le_of_ble_eq_true rfl⟩ rfl rfl hl.1 rfl (lv_room (Nat.le_of_ble_eq_true rfl)) eX4_store_5.2.2.2.2.2.2.2.2.2.2.1 ⟨Nat.zero_le _, Nat.zero_le _⟩) (fun u H locs hp hP hD hS => ?_)
      obtain ⟨aBi, rfl⟩ : ∃ z, z = u := ⟨_, rfl⟩
      have hPD := PDm (ws' := (wd_X4_store cI cC cZ cB cJ wQ xI vX uO vQ jC eO eW dO fJ fY jD nG oE uF aBi tJ)) hP hD 4 rfl rfl rfl
      have hP := hPD.1
      have hD := hPD.2
      refine lv_aload_n hx hb eX4_store_5.2.2.2.2.2.2.2.2.2.2.2.1 rfl (lv_at hl 0 rfl) ?_
      refine va_get (D := (dC, dI)) (ci := 4) (v := .ref vQ) (C := RX4) (T := TX4) (N := 5) hx hb hts i_X4 hown hK hP 1 rfl rfl 2 (Nat.le_of_ble_eq_true rfl) (hts _ q_24) (fun _ h9 => h9) rfl eX4_store_5.2.2.2.2.2.2.2.2.2.2.2.2.1 ?_
      refine lv_iload_n hx hb eX4_store_5.2.2.2.2.2.2.2.2.2.2.2.2.2.1 rfl (lv_at hl 1 rfl) ?_
      refine lv_iconst (v := 1) hx hb eX4_store_5.2.2.2.2.2.2.2.2.2.2.2.2.2.2.1 ic_1 ?_
      have hin := hp.1
      have hp := hp.2
      refine va_zast hx hb hK hP hD hS 3 2 rfl rfl hin eX4_store_5.2.2.2.2.2.2.2.2.2.2.2.2.2.2.2 (fun H locs hP hD hS => ?_)
      have hP : va_P (dC, dI) classes (wd_X4_store cI cC cZ cB cJ wQ xI vX uO vQ jC eO eW dO fJ fY jD nG oE uF aBi (upd tJ p0.toNatClampNeg (vp_nar .boolean 1))) H := hP
      have hD : va_D A (wd_X4_store cI cC cZ cB cJ wQ xI vX uO vQ jC eO eW dO fJ fY jD nG oE uF aBi (upd tJ p0.toNatClampNeg (vp_nar .boolean 1))) := hD
      refine lv_iconst (v := 1) hx hb eX4_store_30.1 ic_1 ?_
      exact W.zret (v := 1) hx hb hr rfl (fun t ht hW => ⟨⟨1, (aBi, (upd tJ p0.toNatClampNeg (vp_nar .boolean 1))), rfl, hp, by rw [ht]; exact hP, va_K.moved hW.alike hK, hD⟩, hS.F ht⟩) hS.2.2 eX4_store_30.2
    · have hp := hp.2 hc
      refine lv_iconst (v := 0) hx hb eX4_store_5.2.2.1 ic_0 ?_
      exact W.zret (v := 0) hx hb hr rfl (fun t ht hW => ⟨⟨0, (qR, tJ), rfl, hp, by rw [ht]; exact hP, va_K.moved hW.alike hK, hD⟩, hS.F ht⟩) hS.2.2 eX4_store_5.2.2.2.1
noncomputable abbrev wd_X9_keep (cI cC cZ cB cJ : ClassId) (a_x xG xD wY wJ wQ xI xK xJ tW vX uO vQ : Nat) (jC eO eW dO fJ fY jD nG oE uF : Int32) (qR tJ : Nat → Int32) : va_W := [(a_x, .inr (9, [.ref xG, .ref xD, .ref wY, .ref wJ, .ref wQ, .ref xI, .ref xK, .ref xJ, .ref tW])), (wQ, .inr (2, [.int jC, .int eO, .int eW, .int dO, .int fJ, .int fY, .int jD, .int nG])), (xI, .inr (4, [.ref vX, .ref uO, .ref vQ, .int oE, .int uF])), (uO, .inl (cI, 16, .inl qR)), (vQ, .inl (cZ, 2, .inl tJ))]
noncomputable abbrev q_X9_keep (dC : Nat → ClassId) (dI : Nat → Nat → Nat) (cI cC cZ cB cJ : ClassId) (A : Nat → Prop) (a_x xG xD wY wJ wQ xI xK xJ tW vX uO vQ : Nat) (jC eO eW dO fJ fY jD nG oE uF : Int32) (post : Int32 → (Nat → Int32) → (Nat → Int32) → Prop) : Array Value → State → Outcome → State → Prop := va_Qi (fun (r : Int32) (u : (Nat → Int32) × (Nat → Int32)) => post r u.1 u.2) (fun u t => gB (dC, dI) (tyl cI cC cZ cB cJ) A (wd_X9_keep cI cC cZ cB cJ a_x xG xD wY wJ wQ xI xK xJ tW vX uO vQ jC eO eW dO fJ fY jD nG oE uF u.1 u.2) t) A
noncomputable abbrev rm_X9_keep : Room := { frames := 2, cells := 0, slots := 0, locals := 44 }
noncomputable def wp_X9_keep (post : Int32 → (Nat → Int32) → (Nat → Int32) → Prop) (p0 jC eO eW dO fJ fY jD nG : Int32) (qR tJ : Nat → Int32) : Prop := wp_X4_store (fun r_1 aBi pa_isKept_3 => narrow .boolean (.int r_1) = .int r_1 ∧ post r_1 aBi pa_isKept_3) p0 jC eO eW dO fJ fY jD nG qR tJ
set_option maxHeartbeats 4000000 in
set_option maxRecDepth 100000 in
theorem c_X9_keep (l : Launch) (dC : Nat → ClassId) (dI : Nat → Nat → Nat) (cI cC cZ cB cJ : ClassId) (a_x xG xD wY wJ wQ xI xK xJ tW vX uO vQ sz : Nat) (p0 jC eO eW dO fJ fY jD nG oE uF : Int32) (qR tJ : Nat → Int32) (post : Int32 → (Nat → Int32) → (Nat → Int32) → Prop) (hw : wp_X9_keep post p0 jC eO eW dO fJ fY jD nG qR tJ) : Met l yX9_keep (gw yX9_keep cX9_keep 2 (some .boolean)) rm_X9_keep (va_Pc [.ref a_x, .int p0] (gPre (dC, dI) (tyl cI cC cZ cB cJ) (wd_X9_keep cI cC cZ cB cJ a_x xG xD wY wJ wQ xI xK xJ tW vX uO vQ jC eO eW dO fJ fY jD nG oE uF qR tJ) sz)) (q_X9_keep dC dI cI cC cZ cB cJ (va_A (wd_X9_keep cI cC cZ cB cJ a_x xG xD wY wJ wQ xI xK xJ tW vX uO vQ jC eO eW dO fJ fY jD nG oE uF qR tJ) sz) a_x xG xD wY wJ wQ xI xK xJ tW vX uO vQ jC eO eW dO fJ fY jD nG oE uF post) 0 0 (va_A (wd_X9_keep cI cC cZ cB cJ a_x xG xD wY wJ wQ xI xK xJ tW vX uO vQ jC eO eW dO fJ fY jD nG oE uF qR tJ) sz) := by
  refine g_enter (own := RX9) (dC, dI) (tyl cI cC cZ cB cJ) (wd_X9_keep cI cC cZ cB cJ a_x xG xD wY wJ wQ xI xK xJ tW vX uO vQ jC eO eW dO fJ fY jD nG oE uF qR tJ) sz [.ref a_x, .int p0] (fun A => q_X9_keep dC dI cI cC cZ cB cJ A a_x xG xD wY wJ wQ xI xK xJ tW vX uO vQ jC eO eW dO fJ fY jD nG oE uF post) pn_RX9 rfl (Nat.le_of_ble_eq_true rfl) ?_
  intro p e s m args below meth c A H locs ls C0 hP hD hS hl
  have hl : lv_has ls 2 [(0, .ref a_x), (1, .int p0)] := hl
  obtain ⟨hx, hb, hr, hml, hown, hts, hlocks, hA, hK, hN, tL, tM, hZL, hTL, hZM, hTM, hZX⟩ := id C0
  have hp := hw
  unfold wp_X9_keep at hp
  refine lv_aload_n hx hb eX9_keep_0.1 rfl (lv_at hl 0 rfl) ?_
  refine va_get (D := (dC, dI)) (ci := 9) (v := .ref xI) (C := RX9) (T := TX9) (N := 9) hx hb hts i_X9 hown hK hP 0 rfl rfl 5 (Nat.le_of_ble_eq_true rfl) (hts _ q_91) (fun _ h9 => h9) rfl eX9_keep_0.2.1 ?_
  refine lv_iload_n hx hb eX9_keep_0.2.2.1 rfl (lv_at hl 1 rfl) ?_
  refine lv_aload_n hx hb eX9_keep_0.2.2.2.1 rfl (lv_at hl 0 rfl) ?_
  refine va_get (D := (dC, dI)) (ci := 9) (v := .ref wQ) (C := RX9) (T := TX9) (N := 9) hx hb hts i_X9 hown hK hP 0 rfl rfl 4 (Nat.le_of_ble_eq_true rfl) (hts _ q_179) (fun _ h9 => h9) rfl eX9_keep_0.2.2.2.2.1 ?_
  have hm := mgk (wc := (wd_X4_store cI cC cZ cB cJ wQ xI vX uO vQ jC eO eW dO fJ fY jD nG oE uF qR tJ)) hP mk_195 5 rfl rfl rfl
  refine g_calli hP hD hS hA (mixT mk_195) (mixF mk_195) hm.1 hm.2 (nd_F _) (dis_g _) (g_runV (As := [.int p0, .ref wQ]) (rest := []) C0 hP hD hS (mixT mk_195) hm.1 (nd_T _) 2 4 rfl rfl (c_X4_store l dC dI cI cC cZ cB cJ wQ xI vX uO vQ H.size p0 jC eO eW dO fJ fY jD nG oE uF qR tJ _ hp) q_626 q_629 q_627 q_628 q_93 h_X4_store rfl rfl ⟨Nat.le_of_ble_eq_true rfl, Nat.le_of_ble_eq_true rfl⟩ rfl rfl hl.1 rfl (lv_room (Nat.le_of_ble_eq_true rfl)) eX9_keep_0.2.2.2.2.2.1 ⟨Nat.zero_le _, Nat.zero_le _⟩) (fun r_1 u H locs hp hP hD hS => ?_)
  obtain ⟨aBi, pa_isKept_3⟩ := u
  have hPD := PDm (ws' := (wd_X9_keep cI cC cZ cB cJ a_x xG xD wY wJ wQ xI xK xJ tW vX uO vQ jC eO eW dO fJ fY jD nG oE uF aBi pa_isKept_3)) hP hD 5 rfl rfl rfl
  have hP := hPD.1
  have hD := hPD.2
  have hnz := hp.1
  have hp := hp.2
  exact W.zret (v := r_1) hx hb hr hnz (fun t ht hW => ⟨⟨r_1, (aBi, pa_isKept_3), rfl, hp, by rw [ht]; exact hP, va_K.moved hW.alike hK, hD⟩, hS.F ht⟩) hS.2.2 eX9_keep_0.2.2.2.2.2.2
noncomputable abbrev wd_X2_read_b2 (cI cC cZ cB cJ : ClassId) (wQ uO : Nat) (jC eO eW dO fJ fY jD nG : Int32) (qR : Nat → Int32) : va_W := [(wQ, .inr (2, [.int jC, .int eO, .int eW, .int dO, .int fJ, .int fY, .int jD, .int nG])), (uO, .inl (cI, 16, .inl qR))]
noncomputable abbrev q_X2_read_b2 (dC : Nat → ClassId) (dI : Nat → Nat → Nat) (cI cC cZ cB cJ : ClassId) (A : Nat → Prop) (wQ uO : Nat) (qR : Nat → Int32) (post : Int32 → Int32 → Int32 → Int32 → Int32 → Int32 → Int32 → Int32 → Prop) : Array Value → State → Outcome → State → Prop := va_Qv (fun (u : Int32 × Int32 × Int32 × Int32 × Int32 × Int32 × Int32 × Int32) => post u.1 u.2.1 u.2.2.1 u.2.2.2.1 u.2.2.2.2.1 u.2.2.2.2.2.1 u.2.2.2.2.2.2.1 u.2.2.2.2.2.2.2) (fun u t => gB (dC, dI) (tyl cI cC cZ cB cJ) A (wd_X2_read_b2 cI cC cZ cB cJ wQ uO u.1 u.2.1 u.2.2.1 u.2.2.2.1 u.2.2.2.2.1 u.2.2.2.2.2.1 u.2.2.2.2.2.2.1 u.2.2.2.2.2.2.2 qR) t) A
noncomputable abbrev rm_X2_read_b2 : Room := { frames := 0, cells := 0, slots := 0, locals := 0 }
noncomputable def wp_X2_read_b2 (post : Int32 → Int32 → Int32 → Int32 → Int32 → Int32 → Int32 → Int32 → Prop) (p1 jC eO eW dO fJ fY jD nG : Int32) (qR : Nat → Int32) : Prop := (p1 < 0 → post jC eO eW dO fJ fY jD nG) ∧ (¬ p1 < 0 → (p1 ≤ (16 - 8) → vp_in p1 16 ∧ (∀ v_1 : Int32, v_1 = qR p1.toNatClampNeg → ∀ v_2 : Int32, v_2 = p1 + 1 → vp_in v_2 16 ∧ (∀ v_3 : Int32, v_3 = qR v_2.toNatClampNeg → ∀ v_4 : Int32, v_4 = p1 + 2 → vp_in v_4 16 ∧ (∀ v_5 : Int32, v_5 = qR v_4.toNatClampNeg → ∀ v_6 : Int32, v_6 = p1 + 3 → vp_in v_6 16 ∧ (∀ v_7 : Int32, v_7 = qR v_6.toNatClampNeg → ∀ v_8 : Int32, v_8 = p1 + 4 → vp_in v_8 16 ∧ (∀ v_9 : Int32, v_9 = qR v_8.toNatClampNeg → ∀ v_10 : Int32, v_10 = p1 + 5 → vp_in v_10 16 ∧ (∀ v_11 : Int32, v_11 = qR v_10.toNatClampNeg → ∀ v_12 : Int32, v_12 = p1 + 6 → vp_in v_12 16 ∧ (∀ v_13 : Int32, v_13 = qR v_12.toNatClampNeg → ∀ v_14 : Int32, v_14 = p1 + 7 → vp_in v_14 16 ∧ (∀ v_15 : Int32, v_15 = qR v_14.toNatClampNeg → post v_1 v_3 v_5 v_7 v_9 v_11 v_13 v_15))))))))) ∧ (¬ p1 ≤ (16 - 8) → post jC eO eW dO fJ fY jD nG))
set_option maxHeartbeats 4000000 in
set_option maxRecDepth 100000 in
theorem c_X2_read_b2 (l : Launch) (dC : Nat → ClassId) (dI : Nat → Nat → Nat) (cI cC cZ cB cJ : ClassId) (wQ uO sz : Nat) (p1 jC eO eW dO fJ fY jD nG : Int32) (qR : Nat → Int32) (post : Int32 → Int32 → Int32 → Int32 → Int32 → Int32 → Int32 → Int32 → Prop) (hw : wp_X2_read_b2 post p1 jC eO eW dO fJ fY jD nG qR) : Met l yX2_read (gw yX2_read cX2_read 3 none) rm_X2_read_b2 (va_Pc [.ref wQ, .ref uO, .int p1] (gPre (dC, dI) (tyl cI cC cZ cB cJ) (wd_X2_read_b2 cI cC cZ cB cJ wQ uO jC eO eW dO fJ fY jD nG qR) sz)) (q_X2_read_b2 dC dI cI cC cZ cB cJ (va_A (wd_X2_read_b2 cI cC cZ cB cJ wQ uO jC eO eW dO fJ fY jD nG qR) sz) wQ uO qR post) 0 0 (va_A (wd_X2_read_b2 cI cC cZ cB cJ wQ uO jC eO eW dO fJ fY jD nG qR) sz) := by
  refine g_enter (own := RX2) (dC, dI) (tyl cI cC cZ cB cJ) (wd_X2_read_b2 cI cC cZ cB cJ wQ uO jC eO eW dO fJ fY jD nG qR) sz [.ref wQ, .ref uO, .int p1] (fun A => q_X2_read_b2 dC dI cI cC cZ cB cJ A wQ uO qR post) pn_RX2 rfl (Nat.le_of_ble_eq_true rfl) ?_
  intro p e s m args below meth c A H locs ls C0 hP hD hS hl
  have hl : lv_has ls 3 [(0, .ref wQ), (1, .ref uO), (2, .int p1)] := hl
  obtain ⟨hx, hb, hr, hml, hown, hts, hlocks, hA, hK, hN, tL, tM, hZL, hTL, hZM, hTM, hZX⟩ := id C0
  have hp := hw
  unfold wp_X2_read_b2 at hp
  refine lv_iload_n hx hb eX2_read_0.1 rfl (lv_at hl 2 rfl) ?_
  refine lv_if_lt (tgt := 13) hx hb eX2_read_0.2.1 (by decide) (fun hc => ?_) (fun hc => ?_)
  · have hp := hp.1 hc
    exact W.vret hx hb hr (fun t ht hW => ⟨⟨(jC, eO, eW, dO, fJ, fY, jD, nG), rfl, hp, by rw [ht]; exact hP, va_K.moved hW.alike hK, hD⟩, hS.F ht⟩) hS.2.2 eX2_read_0.2.2.2.2.2.2.2.2.1
  · have hp := hp.2 hc
    refine lv_iload_n hx hb eX2_read_0.2.2.1 rfl (lv_at hl 2 rfl) ?_
    refine lv_aload_n hx hb eX2_read_0.2.2.2.1 rfl (lv_at hl 1 rfl) ?_
    refine va_alen (v := 16) hx hb hK hP 1 0 rfl rfl rfl eX2_read_0.2.2.2.2.1 ?_
    refine lv_bipush (v := 8) hx hb eX2_read_0.2.2.2.2.2.1 bp_8 ?_
    refine lv_isub hx hb eX2_read_0.2.2.2.2.2.2.1 ?_
    refine lv_icmp_le (tgt := 14) hx hb eX2_read_0.2.2.2.2.2.2.2.1 (by decide) (fun hc => ?_) (fun hc => ?_)
    · have hp := hp.1 hc
      refine lv_aload_n hx hb eX2_read_0.2.2.2.2.2.2.2.2.2.1 rfl (lv_at hl 0 rfl) ?_
      refine lv_aload_n hx hb eX2_read_0.2.2.2.2.2.2.2.2.2.2.1 rfl (lv_at hl 1 rfl) ?_
      refine lv_iload_n hx hb eX2_read_0.2.2.2.2.2.2.2.2.2.2.2.1 rfl (lv_at hl 2 rfl) ?_
      have hin := hp.1
      have hp := hp.2
      refine va_iald hx hb hK hP 1 0 rfl rfl hin eX2_read_0.2.2.2.2.2.2.2.2.2.2.2.2.1 ?_
      refine lv_topi (fun v_1 ev_1 => ?_)
      have hp := hp v_1 ev_1
      refine va_put (D := (dC, dI)) (ci := 2) (v := .int v_1) (ty := .int) (C := RX2) (T := TX2) (N := 8) hx hb hts i_X2 tyX2 tyX2_ok nmX2 hown hK hP hD hS 0 rfl rfl 0 (Nat.le_of_ble_eq_true rfl) (hts _ q_168) (fun _ h9 => h9) rfl (tyX2_ok 0 (Nat.le_of_ble_eq_true rfl)) rfl rfl (Nat.le_of_ble_eq_true rfl) eX2_read_0.2.2.2.2.2.2.2.2.2.2.2.2.2.1 (fun H locs hP hD hS => ?_)
      have hP : va_P (dC, dI) classes (wd_X2_read_b2 cI cC cZ cB cJ wQ uO v_1 eO eW dO fJ fY jD nG qR) H := hP
      have hD : va_D A (wd_X2_read_b2 cI cC cZ cB cJ wQ uO v_1 eO eW dO fJ fY jD nG qR) := hD
      refine lv_aload_n hx hb eX2_read_0.2.2.2.2.2.2.2.2.2.2.2.2.2.2.1 rfl (lv_at hl 0 rfl) ?_
      refine lv_aload_n hx hb eX2_read_0.2.2.2.2.2.2.2.2.2.2.2.2.2.2.2 rfl (lv_at hl 1 rfl) ?_
      refine lv_iload_n hx hb eX2_read_23.1 rfl (lv_at hl 2 rfl) ?_
      refine lv_iconst (v := 1) hx hb eX2_read_23.2.1 ic_1 ?_
      refine lv_iadd hx hb eX2_read_23.2.2.1 ?_
      refine lv_topi (fun v_2 ev_2 => ?_)
      have hp := hp v_2 ev_2
      have hin := hp.1
      have hp := hp.2
      refine va_iald hx hb hK hP 1 0 rfl rfl hin eX2_read_23.2.2.2.1 ?_
      refine lv_topi (fun v_3 ev_3 => ?_)
      have hp := hp v_3 ev_3
      refine va_put (D := (dC, dI)) (ci := 2) (v := .int v_3) (ty := .int) (C := RX2) (T := TX2) (N := 8) hx hb hts i_X2 tyX2 tyX2_ok nmX2 hown hK hP hD hS 0 rfl rfl 1 (Nat.le_of_ble_eq_true rfl) (hts _ q_169) (fun _ h9 => h9) rfl (tyX2_ok 1 (Nat.le_of_ble_eq_true rfl)) rfl rfl (Nat.le_of_ble_eq_true rfl) eX2_read_23.2.2.2.2.1 (fun H locs hP hD hS => ?_)
      have hP : va_P (dC, dI) classes (wd_X2_read_b2 cI cC cZ cB cJ wQ uO v_1 v_3 eW dO fJ fY jD nG qR) H := hP
      have hD : va_D A (wd_X2_read_b2 cI cC cZ cB cJ wQ uO v_1 v_3 eW dO fJ fY jD nG qR) := hD
      refine lv_aload_n hx hb eX2_read_23.2.2.2.2.2.1 rfl (lv_at hl 0 rfl) ?_
      refine lv_aload_n hx hb eX2_read_23.2.2.2.2.2.2.1 rfl (lv_at hl 1 rfl) ?_
      refine lv_iload_n hx hb eX2_read_23.2.2.2.2.2.2.2.1 rfl (lv_at hl 2 rfl) ?_
      refine lv_iconst (v := 2) hx hb eX2_read_23.2.2.2.2.2.2.2.2.1 ic_2 ?_
      refine lv_iadd hx hb eX2_read_23.2.2.2.2.2.2.2.2.2.1 ?_
      refine lv_topi (fun v_4 ev_4 => ?_)
      have hp := hp v_4 ev_4
      have hin := hp.1
      have hp := hp.2
      refine va_iald hx hb hK hP 1 0 rfl rfl hin eX2_read_23.2.2.2.2.2.2.2.2.2.2.1 ?_
      refine lv_topi (fun v_5 ev_5 => ?_)
      have hp := hp v_5 ev_5
      refine va_put (D := (dC, dI)) (ci := 2) (v := .int v_5) (ty := .int) (C := RX2) (T := TX2) (N := 8) hx hb hts i_X2 tyX2 tyX2_ok nmX2 hown hK hP hD hS 0 rfl rfl 2 (Nat.le_of_ble_eq_true rfl) (hts _ q_170) (fun _ h9 => h9) rfl (tyX2_ok 2 (Nat.le_of_ble_eq_true rfl)) rfl rfl (Nat.le_of_ble_eq_true rfl) eX2_read_23.2.2.2.2.2.2.2.2.2.2.2.1 (fun H locs hP hD hS => ?_)
      have hP : va_P (dC, dI) classes (wd_X2_read_b2 cI cC cZ cB cJ wQ uO v_1 v_3 v_5 dO fJ fY jD nG qR) H := hP
      have hD : va_D A (wd_X2_read_b2 cI cC cZ cB cJ wQ uO v_1 v_3 v_5 dO fJ fY jD nG qR) := hD
      refine lv_aload_n hx hb eX2_read_23.2.2.2.2.2.2.2.2.2.2.2.2.1 rfl (lv_at hl 0 rfl) ?_
      refine lv_aload_n hx hb eX2_read_23.2.2.2.2.2.2.2.2.2.2.2.2.2.1 rfl (lv_at hl 1 rfl) ?_
      refine lv_iload_n hx hb eX2_read_23.2.2.2.2.2.2.2.2.2.2.2.2.2.2.1 rfl (lv_at hl 2 rfl) ?_
      refine lv_iconst (v := 3) hx hb eX2_read_23.2.2.2.2.2.2.2.2.2.2.2.2.2.2.2 ic_3 ?_
      refine lv_iadd hx hb eX2_read_43.1 ?_
      refine lv_topi (fun v_6 ev_6 => ?_)
      have hp := hp v_6 ev_6
      have hin := hp.1
      have hp := hp.2
      refine va_iald hx hb hK hP 1 0 rfl rfl hin eX2_read_43.2.1 ?_
      refine lv_topi (fun v_7 ev_7 => ?_)
      have hp := hp v_7 ev_7
      refine va_put (D := (dC, dI)) (ci := 2) (v := .int v_7) (ty := .int) (C := RX2) (T := TX2) (N := 8) hx hb hts i_X2 tyX2 tyX2_ok nmX2 hown hK hP hD hS 0 rfl rfl 3 (Nat.le_of_ble_eq_true rfl) (hts _ q_214) (fun _ h9 => h9) rfl (tyX2_ok 3 (Nat.le_of_ble_eq_true rfl)) rfl rfl (Nat.le_of_ble_eq_true rfl) eX2_read_43.2.2.1 (fun H locs hP hD hS => ?_)
      have hP : va_P (dC, dI) classes (wd_X2_read_b2 cI cC cZ cB cJ wQ uO v_1 v_3 v_5 v_7 fJ fY jD nG qR) H := hP
      have hD : va_D A (wd_X2_read_b2 cI cC cZ cB cJ wQ uO v_1 v_3 v_5 v_7 fJ fY jD nG qR) := hD
      refine lv_aload_n hx hb eX2_read_43.2.2.2.1 rfl (lv_at hl 0 rfl) ?_
      refine lv_aload_n hx hb eX2_read_43.2.2.2.2.1 rfl (lv_at hl 1 rfl) ?_
      refine lv_iload_n hx hb eX2_read_43.2.2.2.2.2.1 rfl (lv_at hl 2 rfl) ?_
      refine lv_iconst (v := 4) hx hb eX2_read_43.2.2.2.2.2.2.1 ic_4 ?_
      refine lv_iadd hx hb eX2_read_43.2.2.2.2.2.2.2.1 ?_
      refine lv_topi (fun v_8 ev_8 => ?_)
      have hp := hp v_8 ev_8
      have hin := hp.1
      have hp := hp.2
      refine va_iald hx hb hK hP 1 0 rfl rfl hin eX2_read_43.2.2.2.2.2.2.2.2.1 ?_
      refine lv_topi (fun v_9 ev_9 => ?_)
      have hp := hp v_9 ev_9
      refine va_put (D := (dC, dI)) (ci := 2) (v := .int v_9) (ty := .int) (C := RX2) (T := TX2) (N := 8) hx hb hts i_X2 tyX2 tyX2_ok nmX2 hown hK hP hD hS 0 rfl rfl 4 (Nat.le_of_ble_eq_true rfl) (hts _ q_215) (fun _ h9 => h9) rfl (tyX2_ok 4 (Nat.le_of_ble_eq_true rfl)) rfl rfl (Nat.le_of_ble_eq_true rfl) eX2_read_43.2.2.2.2.2.2.2.2.2.1 (fun H locs hP hD hS => ?_)
      have hP : va_P (dC, dI) classes (wd_X2_read_b2 cI cC cZ cB cJ wQ uO v_1 v_3 v_5 v_7 v_9 fY jD nG qR) H := hP
      have hD : va_D A (wd_X2_read_b2 cI cC cZ cB cJ wQ uO v_1 v_3 v_5 v_7 v_9 fY jD nG qR) := hD
      refine lv_aload_n hx hb eX2_read_43.2.2.2.2.2.2.2.2.2.2.1 rfl (lv_at hl 0 rfl) ?_
      refine lv_aload_n hx hb eX2_read_43.2.2.2.2.2.2.2.2.2.2.2.1 rfl (lv_at hl 1 rfl) ?_
      refine lv_iload_n hx hb eX2_read_43.2.2.2.2.2.2.2.2.2.2.2.2.1 rfl (lv_at hl 2 rfl) ?_
      refine lv_iconst (v := 5) hx hb eX2_read_43.2.2.2.2.2.2.2.2.2.2.2.2.2.1 ic_5 ?_
      refine lv_iadd hx hb eX2_read_43.2.2.2.2.2.2.2.2.2.2.2.2.2.2.1 ?_
      refine lv_topi (fun v_10 ev_10 => ?_)
      have hp := hp v_10 ev_10
      have hin := hp.1
      have hp := hp.2
      refine va_iald hx hb hK hP 1 0 rfl rfl hin eX2_read_43.2.2.2.2.2.2.2.2.2.2.2.2.2.2.2 ?_
      refine lv_topi (fun v_11 ev_11 => ?_)
      have hp := hp v_11 ev_11
      refine va_put (D := (dC, dI)) (ci := 2) (v := .int v_11) (ty := .int) (C := RX2) (T := TX2) (N := 8) hx hb hts i_X2 tyX2 tyX2_ok nmX2 hown hK hP hD hS 0 rfl rfl 5 (Nat.le_of_ble_eq_true rfl) (hts _ q_216) (fun _ h9 => h9) rfl (tyX2_ok 5 (Nat.le_of_ble_eq_true rfl)) rfl rfl (Nat.le_of_ble_eq_true rfl) eX2_read_63.1 (fun H locs hP hD hS => ?_)
      have hP : va_P (dC, dI) classes (wd_X2_read_b2 cI cC cZ cB cJ wQ uO v_1 v_3 v_5 v_7 v_9 v_11 jD nG qR) H := hP
      have hD : va_D A (wd_X2_read_b2 cI cC cZ cB cJ wQ uO v_1 v_3 v_5 v_7 v_9 v_11 jD nG qR) := hD
      refine lv_aload_n hx hb eX2_read_63.2.1 rfl (lv_at hl 0 rfl) ?_
      refine lv_aload_n hx hb eX2_read_63.2.2.1 rfl (lv_at hl 1 rfl) ?_
      refine lv_iload_n hx hb eX2_read_63.2.2.2.1 rfl (lv_at hl 2 rfl) ?_
      refine lv_bipush (v := 6) hx hb eX2_read_63.2.2.2.2.1 bp_6 ?_
      refine lv_iadd hx hb eX2_read_63.2.2.2.2.2.1 ?_
      refine lv_topi (fun v_12 ev_12 => ?_)
      have hp := hp v_12 ev_12
      have hin := hp.1
      have hp := hp.2
      refine va_iald hx hb hK hP 1 0 rfl rfl hin eX2_read_63.2.2.2.2.2.2.1 ?_
      refine lv_topi (fun v_13 ev_13 => ?_)
      have hp := hp v_13 ev_13
      refine va_put (D := (dC, dI)) (ci := 2) (v := .int v_13) (ty := .int) (C := RX2) (T := TX2) (N := 8) hx hb hts i_X2 tyX2 tyX2_ok nmX2 hown hK hP hD hS 0 rfl rfl 6 (Nat.le_of_ble_eq_true rfl) (hts _ q_217) (fun _ h9 => h9) rfl (tyX2_ok 6 (Nat.le_of_ble_eq_true rfl)) rfl rfl (Nat.le_of_ble_eq_true rfl) eX2_read_63.2.2.2.2.2.2.2.1 (fun H locs hP hD hS => ?_)
      have hP : va_P (dC, dI) classes (wd_X2_read_b2 cI cC cZ cB cJ wQ uO v_1 v_3 v_5 v_7 v_9 v_11 v_13 nG qR) H := hP
      have hD : va_D A (wd_X2_read_b2 cI cC cZ cB cJ wQ uO v_1 v_3 v_5 v_7 v_9 v_11 v_13 nG qR) := hD
      refine lv_aload_n hx hb eX2_read_63.2.2.2.2.2.2.2.2.1 rfl (lv_at hl 0 rfl) ?_
      refine lv_aload_n hx hb eX2_read_63.2.2.2.2.2.2.2.2.2.1 rfl (lv_at hl 1 rfl) ?_
      refine lv_iload_n hx hb eX2_read_63.2.2.2.2.2.2.2.2.2.2.1 rfl (lv_at hl 2 rfl) ?_
      refine lv_bipush (v := 7) hx hb eX2_read_63.2.2.2.2.2.2.2.2.2.2.2.1 bp_7 ?_
      refine lv_iadd hx hb eX2_read_63.2.2.2.2.2.2.2.2.2.2.2.2.1 ?_
      refine lv_topi (fun v_14 ev_14 => ?_)
      have hp := hp v_14 ev_14
      have hin := hp.1
      have hp := hp.2
      refine va_iald hx hb hK hP 1 0 rfl rfl hin eX2_read_63.2.2.2.2.2.2.2.2.2.2.2.2.2.1 ?_
      refine lv_topi (fun v_15 ev_15 => ?_)
      have hp := hp v_15 ev_15
      refine va_put (D := (dC, dI)) (ci := 2) (v := .int v_15) (ty := .int) (C := RX2) (T := TX2) (N := 8) hx hb hts i_X2 tyX2 tyX2_ok nmX2 hown hK hP hD hS 0 rfl rfl 7 (Nat.le_of_ble_eq_true rfl) (hts _ q_218) (fun _ h9 => h9) rfl (tyX2_ok 7 (Nat.le_of_ble_eq_true rfl)) rfl rfl (Nat.le_of_ble_eq_true rfl) eX2_read_63.2.2.2.2.2.2.2.2.2.2.2.2.2.2.1 (fun H locs hP hD hS => ?_)
      have hP : va_P (dC, dI) classes (wd_X2_read_b2 cI cC cZ cB cJ wQ uO v_1 v_3 v_5 v_7 v_9 v_11 v_13 v_15 qR) H := hP
      have hD : va_D A (wd_X2_read_b2 cI cC cZ cB cJ wQ uO v_1 v_3 v_5 v_7 v_9 v_11 v_13 v_15 qR) := hD
      exact W.vret hx hb hr (fun t ht hW => ⟨⟨(v_1, v_3, v_5, v_7, v_9, v_11, v_13, v_15), rfl, hp, by rw [ht]; exact hP, va_K.moved hW.alike hK, hD⟩, hS.F ht⟩) hS.2.2 eX2_read_63.2.2.2.2.2.2.2.2.2.2.2.2.2.2.2
    · have hp := hp.2 hc
      exact W.vret hx hb hr (fun t ht hW => ⟨⟨(jC, eO, eW, dO, fJ, fY, jD, nG), rfl, hp, by rw [ht]; exact hP, va_K.moved hW.alike hK, hD⟩, hS.F ht⟩) hS.2.2 eX2_read_0.2.2.2.2.2.2.2.2.1
noncomputable abbrev wd_X4_fetch (cI cC cZ cB cJ : ClassId) (wQ xI vX uO vQ : Nat) (jC eO eW dO fJ fY jD nG oE uF : Int32) (qR tJ : Nat → Int32) : va_W := [(wQ, .inr (2, [.int jC, .int eO, .int eW, .int dO, .int fJ, .int fY, .int jD, .int nG])), (xI, .inr (4, [.ref vX, .ref uO, .ref vQ, .int oE, .int uF])), (uO, .inl (cI, 16, .inl qR)), (vQ, .inl (cZ, 2, .inl tJ))]
noncomputable abbrev q_X4_fetch (dC : Nat → ClassId) (dI : Nat → Nat → Nat) (cI cC cZ cB cJ : ClassId) (A : Nat → Prop) (wQ xI vX uO vQ : Nat) (uF : Int32) (qR tJ : Nat → Int32) (post : Int32 → Int32 → Int32 → Int32 → Int32 → Int32 → Int32 → Int32 → Int32 → Int32 → Prop) : Array Value → State → Outcome → State → Prop := va_Qi (fun (r : Int32) (u : Int32 × Int32 × Int32 × Int32 × Int32 × Int32 × Int32 × Int32 × Int32) => post r u.1 u.2.1 u.2.2.1 u.2.2.2.1 u.2.2.2.2.1 u.2.2.2.2.2.1 u.2.2.2.2.2.2.1 u.2.2.2.2.2.2.2.1 u.2.2.2.2.2.2.2.2) (fun u t => gB (dC, dI) (tyl cI cC cZ cB cJ) A (wd_X4_fetch cI cC cZ cB cJ wQ xI vX uO vQ u.1 u.2.1 u.2.2.1 u.2.2.2.1 u.2.2.2.2.1 u.2.2.2.2.2.1 u.2.2.2.2.2.2.1 u.2.2.2.2.2.2.2.1 u.2.2.2.2.2.2.2.2 uF qR tJ) t) A
noncomputable abbrev rm_X4_fetch : Room := { frames := 1, cells := 0, slots := 0, locals := 22 }
noncomputable def wp_X4_fetch (post : Int32 → Int32 → Int32 → Int32 → Int32 → Int32 → Int32 → Int32 → Int32 → Int32 → Prop) (p0 jC eO eW dO fJ fY jD nG oE : Int32) (qR tJ : Nat → Int32) : Prop := (p0 < 0 → post 0 jC eO eW dO fJ fY jD nG oE) ∧ (¬ p0 < 0 → (2 ≤ p0 → post 0 jC eO eW dO fJ fY jD nG oE) ∧ (¬ 2 ≤ p0 → vp_in p0 2 ∧ ((¬ (tJ p0.toNatClampNeg) = 0 → ∀ v_1 : Int32, v_1 = p0 * 8 → wp_X2_read_b2 (fun aAm zY aCG aB1 aCH aCI aEz aEA => post 1 aAm zY aCG aB1 aCH aCI aEz aEA 0) v_1 jC eO eW dO fJ fY jD nG qR) ∧ ((tJ p0.toNatClampNeg) = 0 → post 0 jC eO eW dO fJ fY jD nG oE))))
set_option maxHeartbeats 4000000 in
set_option maxRecDepth 100000 in
theorem c_X4_fetch (l : Launch) (dC : Nat → ClassId) (dI : Nat → Nat → Nat) (cI cC cZ cB cJ : ClassId) (wQ xI vX uO vQ sz : Nat) (p0 jC eO eW dO fJ fY jD nG oE uF : Int32) (qR tJ : Nat → Int32) (post : Int32 → Int32 → Int32 → Int32 → Int32 → Int32 → Int32 → Int32 → Int32 → Int32 → Prop) (hw : wp_X4_fetch post p0 jC eO eW dO fJ fY jD nG oE qR tJ) : Met l yX4_fetch (gw yX4_fetch cX4_fetch 3 (some .boolean)) rm_X4_fetch (va_Pc [.ref xI, .int p0, .ref wQ] (gPre (dC, dI) (tyl cI cC cZ cB cJ) (wd_X4_fetch cI cC cZ cB cJ wQ xI vX uO vQ jC eO eW dO fJ fY jD nG oE uF qR tJ) sz)) (q_X4_fetch dC dI cI cC cZ cB cJ (va_A (wd_X4_fetch cI cC cZ cB cJ wQ xI vX uO vQ jC eO eW dO fJ fY jD nG oE uF qR tJ) sz) wQ xI vX uO vQ uF qR tJ post) 0 0 (va_A (wd_X4_fetch cI cC cZ cB cJ wQ xI vX uO vQ jC eO eW dO fJ fY jD nG oE uF qR tJ) sz) := by
  refine g_enter (own := RX4) (dC, dI) (tyl cI cC cZ cB cJ) (wd_X4_fetch cI cC cZ cB cJ wQ xI vX uO vQ jC eO eW dO fJ fY jD nG oE uF qR tJ) sz [.ref xI, .int p0, .ref wQ] (fun A => q_X4_fetch dC dI cI cC cZ cB cJ A wQ xI vX uO vQ uF qR tJ post) pn_RX4 rfl (Nat.le_of_ble_eq_true rfl) ?_
  intro p e s m args below meth c A H locs ls C0 hP hD hS hl
  have hl : lv_has ls 3 [(0, .ref xI), (1, .int p0), (2, .ref wQ)] := hl
  obtain ⟨hx, hb, hr, hml, hown, hts, hlocks, hA, hK, hN, tL, tM, hZL, hTL, hZM, hTM, hZX⟩ := id C0
  have hp := hw
  unfold wp_X4_fetch at hp
  refine lv_iload_n hx hb eX4_fetch_0.1 rfl (lv_at hl 1 rfl) ?_
  refine lv_if_lt (tgt := 18) hx hb eX4_fetch_0.2.1 (by decide) (fun hc => ?_) (fun hc => ?_)
  · have hp := hp.1 hc
    refine lv_iconst (v := 0) hx hb eX4_fetch_0.2.2.2.2.2.2.2.2.2.2.1 ic_0 ?_
    exact W.zret (v := 0) hx hb hr rfl (fun t ht hW => ⟨⟨0, (jC, eO, eW, dO, fJ, fY, jD, nG, oE), rfl, hp, by rw [ht]; exact hP, va_K.moved hW.alike hK, hD⟩, hS.F ht⟩) hS.2.2 eX4_fetch_0.2.2.2.2.2.2.2.2.2.2.2.1
  · have hp := hp.2 hc
    refine lv_iload_n hx hb eX4_fetch_0.2.2.1 rfl (lv_at hl 1 rfl) ?_
    refine lv_iconst (v := 2) hx hb eX4_fetch_0.2.2.2.1 ic_2 ?_
    refine lv_icmp_ge (tgt := 18) hx hb eX4_fetch_0.2.2.2.2.1 (by decide) (fun hc => ?_) (fun hc => ?_)
    · have hp := hp.1 hc
      refine lv_iconst (v := 0) hx hb eX4_fetch_0.2.2.2.2.2.2.2.2.2.2.1 ic_0 ?_
      exact W.zret (v := 0) hx hb hr rfl (fun t ht hW => ⟨⟨0, (jC, eO, eW, dO, fJ, fY, jD, nG, oE), rfl, hp, by rw [ht]; exact hP, va_K.moved hW.alike hK, hD⟩, hS.F ht⟩) hS.2.2 eX4_fetch_0.2.2.2.2.2.2.2.2.2.2.2.1
    · have hp := hp.2 hc
      refine lv_aload_n hx hb eX4_fetch_0.2.2.2.2.2.1 rfl (lv_at hl 0 rfl) ?_
      refine va_get (D := (dC, dI)) (ci := 4) (v := .ref vQ) (C := RX4) (T := TX4) (N := 5) hx hb hts i_X4 hown hK hP 1 rfl rfl 2 (Nat.le_of_ble_eq_true rfl) (hts _ q_24) (fun _ h9 => h9) rfl eX4_fetch_0.2.2.2.2.2.2.1 ?_
      refine lv_iload_n hx hb eX4_fetch_0.2.2.2.2.2.2.2.1 rfl (lv_at hl 1 rfl) ?_
      have hin := hp.1
      have hp := hp.2
      refine va_zald hx hb hK hP 3 2 rfl rfl hin eX4_fetch_0.2.2.2.2.2.2.2.2.1 ?_
      refine lv_if_ne (tgt := 20) hx hb eX4_fetch_0.2.2.2.2.2.2.2.2.2.1 (by decide) (fun hc => ?_) (fun hc => ?_)
      · have hp := hp.1 hc
        refine lv_aload_n hx hb eX4_fetch_0.2.2.2.2.2.2.2.2.2.2.2.2.1 rfl (lv_at hl 2 rfl) ?_
        refine lv_aload_n hx hb eX4_fetch_0.2.2.2.2.2.2.2.2.2.2.2.2.2.1 rfl (lv_at hl 0 rfl) ?_
        refine va_get (D := (dC, dI)) (ci := 4) (v := .ref uO) (C := RX4) (T := TX4) (N := 5) hx hb hts i_X4 hown hK hP 1 rfl rfl 1 (Nat.le_of_ble_eq_true rfl) (hts _ q_625) (fun _ h9 => h9) rfl eX4_fetch_0.2.2.2.2.2.2.2.2.2.2.2.2.2.2.1 ?_
        refine lv_iload_n hx hb eX4_fetch_0.2.2.2.2.2.2.2.2.2.2.2.2.2.2.2 rfl (lv_at hl 1 rfl) ?_
        refine lv_bipush (v := 8) hx hb eX4_fetch_26.1 bp_8 ?_
        refine lv_imul hx hb eX4_fetch_26.2.1 ?_
        refine lv_topi (fun v_1 ev_1 => ?_)
        have hp := hp v_1 ev_1
        have hm := mgk (wc := (wd_X2_read_b2 cI cC cZ cB cJ wQ uO jC eO eW dO fJ fY jD nG qR)) hP mk_194 4 rfl rfl rfl
        refine g_callv hP hD hS hA (mixT mk_194) (mixF mk_194) hm.1 hm.2 (nd_F _) (dis_g _) (g_runV (As := [.ref uO, .int v_1]) (rest := []) C0 hP hD hS (mixT mk_194) hm.1 (nd_T _) 0 2 rfl rfl (c_X2_read_b2 l dC dI cI cC cZ cB cJ wQ uO H.size v_1 jC eO eW dO fJ fY jD nG qR _ hp) q_402 q_405 q_403 q_404 q_181 h_X2_read rfl rfl ⟨Nat.le_of_ble_eq_true rfl, Nat.le_of_ble_eq_true rfl⟩ rfl rfl hl.1 rfl (lv_room (Nat.le_of_ble_eq_true rfl)) eX4_fetch_26.2.2.1 ⟨Nat.zero_le _, Nat.zero_le _⟩) (fun u H locs hp hP hD hS => ?_)
        obtain ⟨aAm, zY, aCG, aB1, aCH, aCI, aEz, aEA⟩ := u
        have hPD := PDm (ws' := (wd_X4_fetch cI cC cZ cB cJ wQ xI vX uO vQ aAm zY aCG aB1 aCH aCI aEz aEA oE uF qR tJ)) hP hD 4 rfl rfl rfl
        have hP := hPD.1
        have hD := hPD.2
        refine lv_aload_n hx hb eX4_fetch_26.2.2.2.1 rfl (lv_at hl 0 rfl) ?_
        refine lv_iconst (v := 0) hx hb eX4_fetch_26.2.2.2.2.1 ic_0 ?_
        refine va_put (D := (dC, dI)) (ci := 4) (v := .int 0) (ty := .int) (C := RX4) (T := TX4) (N := 5) hx hb hts i_X4 tyX4 tyX4_ok nmX4 hown hK hP hD hS 1 rfl rfl 3 (Nat.le_of_ble_eq_true rfl) (hts _ q_23) (fun _ h9 => h9) rfl (tyX4_ok 3 (Nat.le_of_ble_eq_true rfl)) rfl rfl (Nat.le_of_ble_eq_true rfl) eX4_fetch_26.2.2.2.2.2.1 (fun H locs hP hD hS => ?_)
        have hP : va_P (dC, dI) classes (wd_X4_fetch cI cC cZ cB cJ wQ xI vX uO vQ aAm zY aCG aB1 aCH aCI aEz aEA 0 uF qR tJ) H := hP
        have hD : va_D A (wd_X4_fetch cI cC cZ cB cJ wQ xI vX uO vQ aAm zY aCG aB1 aCH aCI aEz aEA 0 uF qR tJ) := hD
        refine lv_iconst (v := 1) hx hb eX4_fetch_26.2.2.2.2.2.2.1 ic_1 ?_
        exact W.zret (v := 1) hx hb hr rfl (fun t ht hW => ⟨⟨1, (aAm, zY, aCG, aB1, aCH, aCI, aEz, aEA, 0), rfl, hp, by rw [ht]; exact hP, va_K.moved hW.alike hK, hD⟩, hS.F ht⟩) hS.2.2 eX4_fetch_26.2.2.2.2.2.2.2
      · have hp := hp.2 hc
        refine lv_iconst (v := 0) hx hb eX4_fetch_0.2.2.2.2.2.2.2.2.2.2.1 ic_0 ?_
        exact W.zret (v := 0) hx hb hr rfl (fun t ht hW => ⟨⟨0, (jC, eO, eW, dO, fJ, fY, jD, nG, oE), rfl, hp, by rw [ht]; exact hP, va_K.moved hW.alike hK, hD⟩, hS.F ht⟩) hS.2.2 eX4_fetch_0.2.2.2.2.2.2.2.2.2.2.2.1
noncomputable abbrev wd_X9_again (cI cC cZ cB cJ : ClassId) (a_x xG xD wY wJ wQ xI xK xJ tW vX uO vQ : Nat) (jC eO eW dO fJ fY jD nG oE uF : Int32) (qR tJ : Nat → Int32) : va_W := [(a_x, .inr (9, [.ref xG, .ref xD, .ref wY, .ref wJ, .ref wQ, .ref xI, .ref xK, .ref xJ, .ref tW])), (wQ, .inr (2, [.int jC, .int eO, .int eW, .int dO, .int fJ, .int fY, .int jD, .int nG])), (xI, .inr (4, [.ref vX, .ref uO, .ref vQ, .int oE, .int uF])), (uO, .inl (cI, 16, .inl qR)), (vQ, .inl (cZ, 2, .inl tJ))]
noncomputable abbrev q_X9_again (dC : Nat → ClassId) (dI : Nat → Nat → Nat) (cI cC cZ cB cJ : ClassId) (A : Nat → Prop) (a_x xG xD wY wJ wQ xI xK xJ tW vX uO vQ : Nat) (uF : Int32) (qR tJ : Nat → Int32) (post : Int32 → Int32 → Int32 → Int32 → Int32 → Int32 → Int32 → Int32 → Int32 → Int32 → Prop) : Array Value → State → Outcome → State → Prop := va_Qi (fun (r : Int32) (u : Int32 × Int32 × Int32 × Int32 × Int32 × Int32 × Int32 × Int32 × Int32) => post r u.1 u.2.1 u.2.2.1 u.2.2.2.1 u.2.2.2.2.1 u.2.2.2.2.2.1 u.2.2.2.2.2.2.1 u.2.2.2.2.2.2.2.1 u.2.2.2.2.2.2.2.2) (fun u t => gB (dC, dI) (tyl cI cC cZ cB cJ) A (wd_X9_again cI cC cZ cB cJ a_x xG xD wY wJ wQ xI xK xJ tW vX uO vQ u.1 u.2.1 u.2.2.1 u.2.2.2.1 u.2.2.2.2.1 u.2.2.2.2.2.1 u.2.2.2.2.2.2.1 u.2.2.2.2.2.2.2.1 u.2.2.2.2.2.2.2.2 uF qR tJ) t) A
noncomputable abbrev rm_X9_again : Room := { frames := 2, cells := 0, slots := 0, locals := 44 }
noncomputable def wp_X9_again (post : Int32 → Int32 → Int32 → Int32 → Int32 → Int32 → Int32 → Int32 → Int32 → Int32 → Prop) (p0 jC eO eW dO fJ fY jD nG oE : Int32) (qR tJ : Nat → Int32) : Prop := wp_X4_fetch (fun r_1 aAm zY aCG aB1 aCH aCI aEz aEA pa_undoable_10 => narrow .boolean (.int r_1) = .int r_1 ∧ post r_1 aAm zY aCG aB1 aCH aCI aEz aEA pa_undoable_10) p0 jC eO eW dO fJ fY jD nG oE qR tJ
set_option maxHeartbeats 4000000 in
set_option maxRecDepth 100000 in
theorem c_X9_again (l : Launch) (dC : Nat → ClassId) (dI : Nat → Nat → Nat) (cI cC cZ cB cJ : ClassId) (a_x xG xD wY wJ wQ xI xK xJ tW vX uO vQ sz : Nat) (p0 jC eO eW dO fJ fY jD nG oE uF : Int32) (qR tJ : Nat → Int32) (post : Int32 → Int32 → Int32 → Int32 → Int32 → Int32 → Int32 → Int32 → Int32 → Int32 → Prop) (hw : wp_X9_again post p0 jC eO eW dO fJ fY jD nG oE qR tJ) : Met l yX9_again (gw yX9_again cX9_again 2 (some .boolean)) rm_X9_again (va_Pc [.ref a_x, .int p0] (gPre (dC, dI) (tyl cI cC cZ cB cJ) (wd_X9_again cI cC cZ cB cJ a_x xG xD wY wJ wQ xI xK xJ tW vX uO vQ jC eO eW dO fJ fY jD nG oE uF qR tJ) sz)) (q_X9_again dC dI cI cC cZ cB cJ (va_A (wd_X9_again cI cC cZ cB cJ a_x xG xD wY wJ wQ xI xK xJ tW vX uO vQ jC eO eW dO fJ fY jD nG oE uF qR tJ) sz) a_x xG xD wY wJ wQ xI xK xJ tW vX uO vQ uF qR tJ post) 0 0 (va_A (wd_X9_again cI cC cZ cB cJ a_x xG xD wY wJ wQ xI xK xJ tW vX uO vQ jC eO eW dO fJ fY jD nG oE uF qR tJ) sz) := by
  refine g_enter (own := RX9) (dC, dI) (tyl cI cC cZ cB cJ) (wd_X9_again cI cC cZ cB cJ a_x xG xD wY wJ wQ xI xK xJ tW vX uO vQ jC eO eW dO fJ fY jD nG oE uF qR tJ) sz [.ref a_x, .int p0] (fun A => q_X9_again dC dI cI cC cZ cB cJ A a_x xG xD wY wJ wQ xI xK xJ tW vX uO vQ uF qR tJ post) pn_RX9 rfl (Nat.le_of_ble_eq_true rfl) ?_
  intro p e s m args below meth c A H locs ls C0 hP hD hS hl
  have hl : lv_has ls 2 [(0, .ref a_x), (1, .int p0)] := hl
  obtain ⟨hx, hb, hr, hml, hown, hts, hlocks, hA, hK, hN, tL, tM, hZL, hTL, hZM, hTM, hZX⟩ := id C0
  have hp := hw
  unfold wp_X9_again at hp
  refine lv_aload_n hx hb eX9_again_0.1 rfl (lv_at hl 0 rfl) ?_
  refine va_get (D := (dC, dI)) (ci := 9) (v := .ref xI) (C := RX9) (T := TX9) (N := 9) hx hb hts i_X9 hown hK hP 0 rfl rfl 5 (Nat.le_of_ble_eq_true rfl) (hts _ q_91) (fun _ h9 => h9) rfl eX9_again_0.2.1 ?_
  refine lv_iload_n hx hb eX9_again_0.2.2.1 rfl (lv_at hl 1 rfl) ?_
  refine lv_aload_n hx hb eX9_again_0.2.2.2.1 rfl (lv_at hl 0 rfl) ?_
  refine va_get (D := (dC, dI)) (ci := 9) (v := .ref wQ) (C := RX9) (T := TX9) (N := 9) hx hb hts i_X9 hown hK hP 0 rfl rfl 4 (Nat.le_of_ble_eq_true rfl) (hts _ q_179) (fun _ h9 => h9) rfl eX9_again_0.2.2.2.2.1 ?_
  have hm := mgk (wc := (wd_X4_fetch cI cC cZ cB cJ wQ xI vX uO vQ jC eO eW dO fJ fY jD nG oE uF qR tJ)) hP mk_195 5 rfl rfl rfl
  refine g_calli hP hD hS hA (mixT mk_195) (mixF mk_195) hm.1 hm.2 (nd_F _) (dis_g _) (g_runV (As := [.int p0, .ref wQ]) (rest := []) C0 hP hD hS (mixT mk_195) hm.1 (nd_T _) 2 4 rfl rfl (c_X4_fetch l dC dI cI cC cZ cB cJ wQ xI vX uO vQ H.size p0 jC eO eW dO fJ fY jD nG oE uF qR tJ _ hp) q_630 q_633 q_631 q_632 q_93 h_X4_fetch rfl rfl ⟨Nat.le_of_ble_eq_true rfl, Nat.le_of_ble_eq_true rfl⟩ rfl rfl hl.1 rfl (lv_room (Nat.le_of_ble_eq_true rfl)) eX9_again_0.2.2.2.2.2.1 ⟨Nat.zero_le _, Nat.zero_le _⟩) (fun r_1 u H locs hp hP hD hS => ?_)
  obtain ⟨aAm, zY, aCG, aB1, aCH, aCI, aEz, aEA, pa_undoable_10⟩ := u
  have hPD := PDm (ws' := (wd_X9_again cI cC cZ cB cJ a_x xG xD wY wJ wQ xI xK xJ tW vX uO vQ aAm zY aCG aB1 aCH aCI aEz aEA pa_undoable_10 uF qR tJ)) hP hD 5 rfl rfl rfl
  have hP := hPD.1
  have hD := hPD.2
  have hnz := hp.1
  have hp := hp.2
  exact W.zret (v := r_1) hx hb hr hnz (fun t ht hW => ⟨⟨r_1, (aAm, zY, aCG, aB1, aCH, aCI, aEz, aEA, pa_undoable_10), rfl, hp, by rw [ht]; exact hP, va_K.moved hW.alike hK, hD⟩, hS.F ht⟩) hS.2.2 eX9_again_0.2.2.2.2.2.2
noncomputable abbrev wd_X9_count (cI cC cZ cB cJ : ClassId) (a_x xG xD wY wJ wQ xI xK xJ tW uT xH tX jE mX pD oO oQ eG vX uO vQ qT : Nat) (qI qJ rY bZ bD bI aI : Int32) (pE : Nat → Int32) (jC eO eW dO fJ fY jD nG oE uF qF : Int32) : va_W := [(a_x, .inr (9, [.ref xG, .ref xD, .ref wY, .ref wJ, .ref wQ, .ref xI, .ref xK, .ref xJ, .ref tW])), (xG, .inr (8, [.ref uT, .int qI, .int qJ, .int rY])), (wY, .inr (0, [.ref wJ, .ref wQ, .ref xH])), (wJ, .inr (3, [.ref tX, .ref jE, .ref mX, .ref pD, .ref oO, .ref oQ, .ref eG, .int bZ, .int bD, .int bI, .int aI])), (mX, .inl (cI, 16, .inl pE)), (wQ, .inr (2, [.int jC, .int eO, .int eW, .int dO, .int fJ, .int fY, .int jD, .int nG])), (xI, .inr (4, [.ref vX, .ref uO, .ref vQ, .int oE, .int uF])), (xK, .inr (6, [.ref qT, .int qF]))]
noncomputable abbrev q_X9_count (dC : Nat → ClassId) (dI : Nat → Nat → Nat) (cI cC cZ cB cJ : ClassId) (A : Nat → Prop) (a_x xG xD wY wJ wQ xI xK xJ tW uT xH tX jE mX pD oO oQ eG vX uO vQ qT : Nat) (qI qJ rY bZ bD bI aI : Int32) (pE : Nat → Int32) (jC eO eW dO fJ fY jD nG oE uF qF : Int32) (post : Int32 → Prop) : Array Value → State → Outcome → State → Prop := va_Qi (fun (r : Int32) (u : Unit) => post r) (fun u t => gB (dC, dI) (tyl cI cC cZ cB cJ) A (wd_X9_count cI cC cZ cB cJ a_x xG xD wY wJ wQ xI xK xJ tW uT xH tX jE mX pD oO oQ eG vX uO vQ qT qI qJ rY bZ bD bI aI pE jC eO eW dO fJ fY jD nG oE uF qF) t) A
noncomputable abbrev rm_X9_count : Room := { frames := 2, cells := 0, slots := 0, locals := 45 }
noncomputable def wp_X9_count (post : Int32 → Prop) (p0 qI bZ bD : Int32) (pE : Nat → Int32) (jC eO eW dO fJ jD nG oE qF : Int32) : Prop := (p0 = 0 → post bZ) ∧ (p0 = 1 → post bD) ∧ (p0 = 2 → post fJ) ∧ (p0 = 3 → post jD) ∧ (p0 = 4 → post nG) ∧ (p0 = 5 → wp_X0_hanging (fun r_1 => post r_1) bZ jC eO eW) ∧ (p0 = 6 → post jC) ∧ (p0 = 7 → post eO) ∧ (p0 = 8 → post eW) ∧ (p0 = 9 → post dO) ∧ (p0 = 10 → wp_X0_worthOf (fun r_2 => post r_2) eO bZ pE dO) ∧ (p0 = 11 → post oE) ∧ (p0 = 12 → post qF) ∧ (p0 = 13 → post qI) ∧ (¬ p0 = 0 → ¬ p0 = 1 → ¬ p0 = 2 → ¬ p0 = 3 → ¬ p0 = 4 → ¬ p0 = 5 → ¬ p0 = 6 → ¬ p0 = 7 → ¬ p0 = 8 → ¬ p0 = 9 → ¬ p0 = 10 → ¬ p0 = 11 → ¬ p0 = 12 → ¬ p0 = 13 → post (-100))
set_option maxHeartbeats 4000000 in
set_option maxRecDepth 100000 in
theorem c_X9_count (l : Launch) (dC : Nat → ClassId) (dI : Nat → Nat → Nat) (cI cC cZ cB cJ : ClassId) (a_x xG xD wY wJ wQ xI xK xJ tW uT xH tX jE mX pD oO oQ eG vX uO vQ qT sz : Nat) (p0 qI qJ rY bZ bD bI aI : Int32) (pE : Nat → Int32) (jC eO eW dO fJ fY jD nG oE uF qF : Int32) (post : Int32 → Prop) (hw : wp_X9_count post p0 qI bZ bD pE jC eO eW dO fJ jD nG oE qF) : Met l yX9_count (gw yX9_count cX9_count 2 (some .int)) rm_X9_count (va_Pc [.ref a_x, .int p0] (gPre (dC, dI) (tyl cI cC cZ cB cJ) (wd_X9_count cI cC cZ cB cJ a_x xG xD wY wJ wQ xI xK xJ tW uT xH tX jE mX pD oO oQ eG vX uO vQ qT qI qJ rY bZ bD bI aI pE jC eO eW dO fJ fY jD nG oE uF qF) sz)) (q_X9_count dC dI cI cC cZ cB cJ (va_A (wd_X9_count cI cC cZ cB cJ a_x xG xD wY wJ wQ xI xK xJ tW uT xH tX jE mX pD oO oQ eG vX uO vQ qT qI qJ rY bZ bD bI aI pE jC eO eW dO fJ fY jD nG oE uF qF) sz) a_x xG xD wY wJ wQ xI xK xJ tW uT xH tX jE mX pD oO oQ eG vX uO vQ qT qI qJ rY bZ bD bI aI pE jC eO eW dO fJ fY jD nG oE uF qF post) 0 0 (va_A (wd_X9_count cI cC cZ cB cJ a_x xG xD wY wJ wQ xI xK xJ tW uT xH tX jE mX pD oO oQ eG vX uO vQ qT qI qJ rY bZ bD bI aI pE jC eO eW dO fJ fY jD nG oE uF qF) sz) := by
  refine g_enter (own := RX9) (dC, dI) (tyl cI cC cZ cB cJ) (wd_X9_count cI cC cZ cB cJ a_x xG xD wY wJ wQ xI xK xJ tW uT xH tX jE mX pD oO oQ eG vX uO vQ qT qI qJ rY bZ bD bI aI pE jC eO eW dO fJ fY jD nG oE uF qF) sz [.ref a_x, .int p0] (fun A => q_X9_count dC dI cI cC cZ cB cJ A a_x xG xD wY wJ wQ xI xK xJ tW uT xH tX jE mX pD oO oQ eG vX uO vQ qT qI qJ rY bZ bD bI aI pE jC eO eW dO fJ fY jD nG oE uF qF post) pn_RX9 rfl (Nat.le_of_ble_eq_true rfl) ?_
  intro p e s m args below meth c A H locs ls C0 hP hD hS hl
  have hl : lv_has ls 2 [(0, .ref a_x), (1, .int p0)] := hl
  obtain ⟨hx, hb, hr, hml, hown, hts, hlocks, hA, hK, hN, tL, tM, hZL, hTL, hZM, hTM, hZX⟩ := id C0
  have hp := hw
  unfold wp_X9_count at hp
  refine lv_iload_n hx hb eX9_count_0.1 rfl (lv_at hl 1 rfl) ?_
  by_cases hc0 : p0 = 0
  · have hp := hp.1 hc0
    refine lv_tableIn (tgt := 72) hx hb eX9_count_0.2.1 (by first | (rw [hc0]; done) | (rw [hc0]; decide)) (by first | (rw [hc0]; done) | (rw [hc0]; decide)) (by first | (rw [hc0]; done) | (rw [hc0]; rfl)) (by decide) ?_
    refine lv_aload_n hx hb eX9_count_0.2.2.1 rfl (lv_at hl 0 rfl) ?_
    refine va_get (D := (dC, dI)) (ci := 9) (v := .ref wJ) (C := RX9) (T := TX9) (N := 9) hx hb hts i_X9 hown hK hP 0 rfl rfl 3 (Nat.le_of_ble_eq_true rfl) (hts _ q_74) (fun _ h9 => h9) rfl eX9_count_0.2.2.2.1 ?_
    refine va_get (D := (dC, dI)) (ci := 3) (v := .int bZ) (C := RX3) (T := TX3) (N := 11) hx hb hts i_X3 hown hK hP 3 rfl rfl 7 (Nat.le_of_ble_eq_true rfl) (hts _ q_539) (fun _ h9 => h9) rfl eX9_count_0.2.2.2.2.1 ?_
    exact W.iret (v := bZ) hx hb hr (fun t ht hW => ⟨⟨bZ, (), rfl, hp, by rw [ht]; exact hP, va_K.moved hW.alike hK, hD⟩, hS.F ht⟩) hS.2.2 eX9_count_0.2.2.2.2.2.1
  by_cases hc1 : p0 = 1
  · have hp := hp.2.1 hc1
    refine lv_tableIn (tgt := 80) hx hb eX9_count_0.2.1 (by first | (rw [hc1]; done) | (rw [hc1]; decide)) (by first | (rw [hc1]; done) | (rw [hc1]; decide)) (by first | (rw [hc1]; done) | (rw [hc1]; rfl)) (by decide) ?_
    refine lv_aload_n hx hb eX9_count_0.2.2.2.2.2.2.1 rfl (lv_at hl 0 rfl) ?_
    refine va_get (D := (dC, dI)) (ci := 9) (v := .ref wJ) (C := RX9) (T := TX9) (N := 9) hx hb hts i_X9 hown hK hP 0 rfl rfl 3 (Nat.le_of_ble_eq_true rfl) (hts _ q_74) (fun _ h9 => h9) rfl eX9_count_0.2.2.2.2.2.2.2.1 ?_
    refine va_get (D := (dC, dI)) (ci := 3) (v := .int bD) (C := RX3) (T := TX3) (N := 11) hx hb hts i_X3 hown hK hP 3 rfl rfl 8 (Nat.le_of_ble_eq_true rfl) (hts _ q_415) (fun _ h9 => h9) rfl eX9_count_0.2.2.2.2.2.2.2.2.1 ?_
    exact W.iret (v := bD) hx hb hr (fun t ht hW => ⟨⟨bD, (), rfl, hp, by rw [ht]; exact hP, va_K.moved hW.alike hK, hD⟩, hS.F ht⟩) hS.2.2 eX9_count_0.2.2.2.2.2.2.2.2.2.1
  by_cases hc2 : p0 = 2
  · have hp := hp.2.2.1 hc2
    refine lv_tableIn (tgt := 88) hx hb eX9_count_0.2.1 (by first | (rw [hc2]; done) | (rw [hc2]; decide)) (by first | (rw [hc2]; done) | (rw [hc2]; decide)) (by first | (rw [hc2]; done) | (rw [hc2]; rfl)) (by decide) ?_
    refine lv_aload_n hx hb eX9_count_0.2.2.2.2.2.2.2.2.2.2.1 rfl (lv_at hl 0 rfl) ?_
    refine va_get (D := (dC, dI)) (ci := 9) (v := .ref wQ) (C := RX9) (T := TX9) (N := 9) hx hb hts i_X9 hown hK hP 0 rfl rfl 4 (Nat.le_of_ble_eq_true rfl) (hts _ q_179) (fun _ h9 => h9) rfl eX9_count_0.2.2.2.2.2.2.2.2.2.2.2.1 ?_
    refine va_get (D := (dC, dI)) (ci := 2) (v := .int fJ) (C := RX2) (T := TX2) (N := 8) hx hb hts i_X2 hown hK hP 5 rfl rfl 4 (Nat.le_of_ble_eq_true rfl) (hts _ q_497) (fun _ h9 => h9) rfl eX9_count_0.2.2.2.2.2.2.2.2.2.2.2.2.1 ?_
    exact W.iret (v := fJ) hx hb hr (fun t ht hW => ⟨⟨fJ, (), rfl, hp, by rw [ht]; exact hP, va_K.moved hW.alike hK, hD⟩, hS.F ht⟩) hS.2.2 eX9_count_0.2.2.2.2.2.2.2.2.2.2.2.2.2.1
  by_cases hc3 : p0 = 3
  · have hp := hp.2.2.2.1 hc3
    refine lv_tableIn (tgt := 96) hx hb eX9_count_0.2.1 (by first | (rw [hc3]; done) | (rw [hc3]; decide)) (by first | (rw [hc3]; done) | (rw [hc3]; decide)) (by first | (rw [hc3]; done) | (rw [hc3]; rfl)) (by decide) ?_
    refine lv_aload_n hx hb eX9_count_0.2.2.2.2.2.2.2.2.2.2.2.2.2.2.1 rfl (lv_at hl 0 rfl) ?_
    refine va_get (D := (dC, dI)) (ci := 9) (v := .ref wQ) (C := RX9) (T := TX9) (N := 9) hx hb hts i_X9 hown hK hP 0 rfl rfl 4 (Nat.le_of_ble_eq_true rfl) (hts _ q_179) (fun _ h9 => h9) rfl eX9_count_0.2.2.2.2.2.2.2.2.2.2.2.2.2.2.2 ?_
    refine va_get (D := (dC, dI)) (ci := 2) (v := .int jD) (C := RX2) (T := TX2) (N := 8) hx hb hts i_X2 hown hK hP 5 rfl rfl 6 (Nat.le_of_ble_eq_true rfl) (hts _ q_542) (fun _ h9 => h9) rfl eX9_count_100.1 ?_
    exact W.iret (v := jD) hx hb hr (fun t ht hW => ⟨⟨jD, (), rfl, hp, by rw [ht]; exact hP, va_K.moved hW.alike hK, hD⟩, hS.F ht⟩) hS.2.2 eX9_count_100.2.1
  by_cases hc4 : p0 = 4
  · have hp := hp.2.2.2.2.1 hc4
    refine lv_tableIn (tgt := 104) hx hb eX9_count_0.2.1 (by first | (rw [hc4]; done) | (rw [hc4]; decide)) (by first | (rw [hc4]; done) | (rw [hc4]; decide)) (by first | (rw [hc4]; done) | (rw [hc4]; rfl)) (by decide) ?_
    refine lv_aload_n hx hb eX9_count_100.2.2.1 rfl (lv_at hl 0 rfl) ?_
    refine va_get (D := (dC, dI)) (ci := 9) (v := .ref wQ) (C := RX9) (T := TX9) (N := 9) hx hb hts i_X9 hown hK hP 0 rfl rfl 4 (Nat.le_of_ble_eq_true rfl) (hts _ q_179) (fun _ h9 => h9) rfl eX9_count_100.2.2.2.1 ?_
    refine va_get (D := (dC, dI)) (ci := 2) (v := .int nG) (C := RX2) (T := TX2) (N := 8) hx hb hts i_X2 hown hK hP 5 rfl rfl 7 (Nat.le_of_ble_eq_true rfl) (hts _ q_634) (fun _ h9 => h9) rfl eX9_count_100.2.2.2.2.1 ?_
    exact W.iret (v := nG) hx hb hr (fun t ht hW => ⟨⟨nG, (), rfl, hp, by rw [ht]; exact hP, va_K.moved hW.alike hK, hD⟩, hS.F ht⟩) hS.2.2 eX9_count_100.2.2.2.2.2.1
  by_cases hc5 : p0 = 5
  · have hp := hp.2.2.2.2.2.1 hc5
    refine lv_tableIn (tgt := 112) hx hb eX9_count_0.2.1 (by first | (rw [hc5]; done) | (rw [hc5]; decide)) (by first | (rw [hc5]; done) | (rw [hc5]; decide)) (by first | (rw [hc5]; done) | (rw [hc5]; rfl)) (by decide) ?_
    refine lv_aload_n hx hb eX9_count_100.2.2.2.2.2.2.1 rfl (lv_at hl 0 rfl) ?_
    refine va_get (D := (dC, dI)) (ci := 9) (v := .ref wY) (C := RX9) (T := TX9) (N := 9) hx hb hts i_X9 hown hK hP 0 rfl rfl 2 (Nat.le_of_ble_eq_true rfl) (hts _ q_146) (fun _ h9 => h9) rfl eX9_count_100.2.2.2.2.2.2.2.1 ?_
    have hm := mgk (wc := (wd_X0_hanging cI cC cZ cB cJ wY wJ wQ xH tX jE mX pD oO oQ eG bZ bD bI aI jC eO eW dO fJ fY jD nG)) hP mk_196 8 rfl rfl rfl
    refine g_calli hP hD hS hA (mixT mk_196) (mixF mk_196) hm.1 hm.2 (nd_F _) (dis_g _) (g_runV (As := []) (rest := []) C0 hP hD hS (mixT mk_196) hm.1 (nd_T _) 2 0 rfl rfl (c_X0_hanging l dC dI cI cC cZ cB cJ wY wJ wQ xH tX jE mX pD oO oQ eG H.size bZ bD bI aI jC eO eW dO fJ fY jD nG _ hp) q_186 q_190 q_188 q_189 q_187 h_X0_hanging rfl rfl ⟨Nat.le_of_ble_eq_true rfl, Nat.le_of_ble_eq_true rfl⟩ rfl rfl hl.1 rfl (lv_room (Nat.le_of_ble_eq_true rfl)) eX9_count_100.2.2.2.2.2.2.2.2.1 ⟨Nat.zero_le _, Nat.zero_le _⟩) (fun r_1 u H locs hp hP hD hS => ?_)
    have hPD := PDm (ws' := (wd_X9_count cI cC cZ cB cJ a_x xG xD wY wJ wQ xI xK xJ tW uT xH tX jE mX pD oO oQ eG vX uO vQ qT qI qJ rY bZ bD bI aI pE jC eO eW dO fJ fY jD nG oE uF qF)) hP hD 8 rfl rfl rfl
    have hP := hPD.1
    have hD := hPD.2
    exact W.iret (v := r_1) hx hb hr (fun t ht hW => ⟨⟨r_1, (), rfl, hp, by rw [ht]; exact hP, va_K.moved hW.alike hK, hD⟩, hS.F ht⟩) hS.2.2 eX9_count_100.2.2.2.2.2.2.2.2.2.1
  by_cases hc6 : p0 = 6
  · have hp := hp.2.2.2.2.2.2.1 hc6
    refine lv_tableIn (tgt := 120) hx hb eX9_count_0.2.1 (by first | (rw [hc6]; done) | (rw [hc6]; decide)) (by first | (rw [hc6]; done) | (rw [hc6]; decide)) (by first | (rw [hc6]; done) | (rw [hc6]; rfl)) (by decide) ?_
    refine lv_aload_n hx hb eX9_count_100.2.2.2.2.2.2.2.2.2.2.1 rfl (lv_at hl 0 rfl) ?_
    refine va_get (D := (dC, dI)) (ci := 9) (v := .ref wQ) (C := RX9) (T := TX9) (N := 9) hx hb hts i_X9 hown hK hP 0 rfl rfl 4 (Nat.le_of_ble_eq_true rfl) (hts _ q_179) (fun _ h9 => h9) rfl eX9_count_100.2.2.2.2.2.2.2.2.2.2.2.1 ?_
    refine va_get (D := (dC, dI)) (ci := 2) (v := .int jC) (C := RX2) (T := TX2) (N := 8) hx hb hts i_X2 hown hK hP 5 rfl rfl 0 (Nat.le_of_ble_eq_true rfl) (hts _ q_541) (fun _ h9 => h9) rfl eX9_count_100.2.2.2.2.2.2.2.2.2.2.2.2.1 ?_
    exact W.iret (v := jC) hx hb hr (fun t ht hW => ⟨⟨jC, (), rfl, hp, by rw [ht]; exact hP, va_K.moved hW.alike hK, hD⟩, hS.F ht⟩) hS.2.2 eX9_count_100.2.2.2.2.2.2.2.2.2.2.2.2.2.1
  by_cases hc7 : p0 = 7
  · have hp := hp.2.2.2.2.2.2.2.1 hc7
    refine lv_tableIn (tgt := 128) hx hb eX9_count_0.2.1 (by first | (rw [hc7]; done) | (rw [hc7]; decide)) (by first | (rw [hc7]; done) | (rw [hc7]; decide)) (by first | (rw [hc7]; done) | (rw [hc7]; rfl)) (by decide) ?_
    refine lv_aload_n hx hb eX9_count_100.2.2.2.2.2.2.2.2.2.2.2.2.2.2.1 rfl (lv_at hl 0 rfl) ?_
    refine va_get (D := (dC, dI)) (ci := 9) (v := .ref wQ) (C := RX9) (T := TX9) (N := 9) hx hb hts i_X9 hown hK hP 0 rfl rfl 4 (Nat.le_of_ble_eq_true rfl) (hts _ q_179) (fun _ h9 => h9) rfl eX9_count_100.2.2.2.2.2.2.2.2.2.2.2.2.2.2.2 ?_
    refine va_get (D := (dC, dI)) (ci := 2) (v := .int eO) (C := RX2) (T := TX2) (N := 8) hx hb hts i_X2 hown hK hP 5 rfl rfl 1 (Nat.le_of_ble_eq_true rfl) (hts _ q_635) (fun _ h9 => h9) rfl eX9_count_132.1 ?_
    exact W.iret (v := eO) hx hb hr (fun t ht hW => ⟨⟨eO, (), rfl, hp, by rw [ht]; exact hP, va_K.moved hW.alike hK, hD⟩, hS.F ht⟩) hS.2.2 eX9_count_132.2.1
  by_cases hc8 : p0 = 8
  · have hp := hp.2.2.2.2.2.2.2.2.1 hc8
    refine lv_tableIn (tgt := 136) hx hb eX9_count_0.2.1 (by first | (rw [hc8]; done) | (rw [hc8]; decide)) (by first | (rw [hc8]; done) | (rw [hc8]; decide)) (by first | (rw [hc8]; done) | (rw [hc8]; rfl)) (by decide) ?_
    refine lv_aload_n hx hb eX9_count_132.2.2.1 rfl (lv_at hl 0 rfl) ?_
    refine va_get (D := (dC, dI)) (ci := 9) (v := .ref wQ) (C := RX9) (T := TX9) (N := 9) hx hb hts i_X9 hown hK hP 0 rfl rfl 4 (Nat.le_of_ble_eq_true rfl) (hts _ q_179) (fun _ h9 => h9) rfl eX9_count_132.2.2.2.1 ?_
    refine va_get (D := (dC, dI)) (ci := 2) (v := .int eW) (C := RX2) (T := TX2) (N := 8) hx hb hts i_X2 hown hK hP 5 rfl rfl 2 (Nat.le_of_ble_eq_true rfl) (hts _ q_636) (fun _ h9 => h9) rfl eX9_count_132.2.2.2.2.1 ?_
    exact W.iret (v := eW) hx hb hr (fun t ht hW => ⟨⟨eW, (), rfl, hp, by rw [ht]; exact hP, va_K.moved hW.alike hK, hD⟩, hS.F ht⟩) hS.2.2 eX9_count_132.2.2.2.2.2.1
  by_cases hc9 : p0 = 9
  · have hp := hp.2.2.2.2.2.2.2.2.2.1 hc9
    refine lv_tableIn (tgt := 144) hx hb eX9_count_0.2.1 (by first | (rw [hc9]; done) | (rw [hc9]; decide)) (by first | (rw [hc9]; done) | (rw [hc9]; decide)) (by first | (rw [hc9]; done) | (rw [hc9]; rfl)) (by decide) ?_
    refine lv_aload_n hx hb eX9_count_132.2.2.2.2.2.2.1 rfl (lv_at hl 0 rfl) ?_
    refine va_get (D := (dC, dI)) (ci := 9) (v := .ref wQ) (C := RX9) (T := TX9) (N := 9) hx hb hts i_X9 hown hK hP 0 rfl rfl 4 (Nat.le_of_ble_eq_true rfl) (hts _ q_179) (fun _ h9 => h9) rfl eX9_count_132.2.2.2.2.2.2.2.1 ?_
    refine va_get (D := (dC, dI)) (ci := 2) (v := .int dO) (C := RX2) (T := TX2) (N := 8) hx hb hts i_X2 hown hK hP 5 rfl rfl 3 (Nat.le_of_ble_eq_true rfl) (hts _ q_185) (fun _ h9 => h9) rfl eX9_count_132.2.2.2.2.2.2.2.2.1 ?_
    exact W.iret (v := dO) hx hb hr (fun t ht hW => ⟨⟨dO, (), rfl, hp, by rw [ht]; exact hP, va_K.moved hW.alike hK, hD⟩, hS.F ht⟩) hS.2.2 eX9_count_132.2.2.2.2.2.2.2.2.2.1
  by_cases hc10 : p0 = 10
  · have hp := hp.2.2.2.2.2.2.2.2.2.2.1 hc10
    refine lv_tableIn (tgt := 152) hx hb eX9_count_0.2.1 (by first | (rw [hc10]; done) | (rw [hc10]; decide)) (by first | (rw [hc10]; done) | (rw [hc10]; decide)) (by first | (rw [hc10]; done) | (rw [hc10]; rfl)) (by decide) ?_
    refine lv_aload_n hx hb eX9_count_132.2.2.2.2.2.2.2.2.2.2.1 rfl (lv_at hl 0 rfl) ?_
    refine va_get (D := (dC, dI)) (ci := 9) (v := .ref wY) (C := RX9) (T := TX9) (N := 9) hx hb hts i_X9 hown hK hP 0 rfl rfl 2 (Nat.le_of_ble_eq_true rfl) (hts _ q_146) (fun _ h9 => h9) rfl eX9_count_132.2.2.2.2.2.2.2.2.2.2.2.1 ?_
    refine lv_aload_n hx hb eX9_count_132.2.2.2.2.2.2.2.2.2.2.2.2.1 rfl (lv_at hl 0 rfl) ?_
    refine va_get (D := (dC, dI)) (ci := 9) (v := .ref wQ) (C := RX9) (T := TX9) (N := 9) hx hb hts i_X9 hown hK hP 0 rfl rfl 4 (Nat.le_of_ble_eq_true rfl) (hts _ q_179) (fun _ h9 => h9) rfl eX9_count_132.2.2.2.2.2.2.2.2.2.2.2.2.2.1 ?_
    refine va_get (D := (dC, dI)) (ci := 2) (v := .int eO) (C := RX2) (T := TX2) (N := 8) hx hb hts i_X2 hown hK hP 5 rfl rfl 1 (Nat.le_of_ble_eq_true rfl) (hts _ q_635) (fun _ h9 => h9) rfl eX9_count_132.2.2.2.2.2.2.2.2.2.2.2.2.2.2.1 ?_
    have hm := mgk (wc := (wd_X0_worthOf cI cC cZ cB cJ wY wJ wQ xH tX jE mX pD oO oQ eG bZ bD bI aI pE jC eO eW dO fJ fY jD nG)) hP mk_197 8 rfl rfl rfl
    refine g_calli hP hD hS hA (mixT mk_197) (mixF mk_197) hm.1 hm.2 (nd_F _) (dis_g _) (g_runV (As := [.int eO]) (rest := []) C0 hP hD hS (mixT mk_197) hm.1 (nd_T _) 2 0 rfl rfl (c_X0_worthOf l dC dI cI cC cZ cB cJ wY wJ wQ xH tX jE mX pD oO oQ eG H.size eO bZ bD bI aI pE jC eO eW dO fJ fY jD nG _ hp) q_297 q_417 q_298 q_299 q_187 h_X0_worthOf rfl rfl ⟨Nat.le_of_ble_eq_true rfl, Nat.le_of_ble_eq_true rfl⟩ rfl rfl hl.1 rfl (lv_room (Nat.le_of_ble_eq_true rfl)) eX9_count_132.2.2.2.2.2.2.2.2.2.2.2.2.2.2.2 ⟨Nat.zero_le _, Nat.zero_le _⟩) (fun r_2 u H locs hp hP hD hS => ?_)
    have hPD := PDm (ws' := (wd_X9_count cI cC cZ cB cJ a_x xG xD wY wJ wQ xI xK xJ tW uT xH tX jE mX pD oO oQ eG vX uO vQ qT qI qJ rY bZ bD bI aI pE jC eO eW dO fJ fY jD nG oE uF qF)) hP hD 8 rfl rfl rfl
    have hP := hPD.1
    have hD := hPD.2
    exact W.iret (v := r_2) hx hb hr (fun t ht hW => ⟨⟨r_2, (), rfl, hp, by rw [ht]; exact hP, va_K.moved hW.alike hK, hD⟩, hS.F ht⟩) hS.2.2 eX9_count_166.1
  by_cases hc11 : p0 = 11
  · have hp := hp.2.2.2.2.2.2.2.2.2.2.2.1 hc11
    refine lv_tableIn (tgt := 167) hx hb eX9_count_0.2.1 (by first | (rw [hc11]; done) | (rw [hc11]; decide)) (by first | (rw [hc11]; done) | (rw [hc11]; decide)) (by first | (rw [hc11]; done) | (rw [hc11]; rfl)) (by decide) ?_
    refine lv_aload_n hx hb eX9_count_166.2.1 rfl (lv_at hl 0 rfl) ?_
    refine va_get (D := (dC, dI)) (ci := 9) (v := .ref xI) (C := RX9) (T := TX9) (N := 9) hx hb hts i_X9 hown hK hP 0 rfl rfl 5 (Nat.le_of_ble_eq_true rfl) (hts _ q_91) (fun _ h9 => h9) rfl eX9_count_166.2.2.1 ?_
    refine va_get (D := (dC, dI)) (ci := 4) (v := .int oE) (C := RX4) (T := TX4) (N := 5) hx hb hts i_X4 hown hK hP 6 rfl rfl 3 (Nat.le_of_ble_eq_true rfl) (hts _ q_406) (fun _ h9 => h9) rfl eX9_count_166.2.2.2.1 ?_
    exact W.iret (v := oE) hx hb hr (fun t ht hW => ⟨⟨oE, (), rfl, hp, by rw [ht]; exact hP, va_K.moved hW.alike hK, hD⟩, hS.F ht⟩) hS.2.2 eX9_count_166.2.2.2.2.1
  by_cases hc12 : p0 = 12
  · have hp := hp.2.2.2.2.2.2.2.2.2.2.2.2.1 hc12
    refine lv_tableIn (tgt := 175) hx hb eX9_count_0.2.1 (by first | (rw [hc12]; done) | (rw [hc12]; decide)) (by first | (rw [hc12]; done) | (rw [hc12]; decide)) (by first | (rw [hc12]; done) | (rw [hc12]; rfl)) (by decide) ?_
    refine lv_aload_n hx hb eX9_count_166.2.2.2.2.2.1 rfl (lv_at hl 0 rfl) ?_
    refine va_get (D := (dC, dI)) (ci := 9) (v := .ref xK) (C := RX9) (T := TX9) (N := 9) hx hb hts i_X9 hown hK hP 0 rfl rfl 6 (Nat.le_of_ble_eq_true rfl) (hts _ q_363) (fun _ h9 => h9) rfl eX9_count_166.2.2.2.2.2.2.1 ?_
    refine va_get (D := (dC, dI)) (ci := 6) (v := .int qF) (C := RX6) (T := TX6) (N := 2) hx hb hts i_X6 hown hK hP 7 rfl rfl 1 (Nat.le_of_ble_eq_true rfl) (hts _ q_461) (fun _ h9 => h9) rfl eX9_count_166.2.2.2.2.2.2.2.1 ?_
    exact W.iret (v := qF) hx hb hr (fun t ht hW => ⟨⟨qF, (), rfl, hp, by rw [ht]; exact hP, va_K.moved hW.alike hK, hD⟩, hS.F ht⟩) hS.2.2 eX9_count_166.2.2.2.2.2.2.2.2.1
  by_cases hc13 : p0 = 13
  · have hp := hp.2.2.2.2.2.2.2.2.2.2.2.2.2.1 hc13
    refine lv_tableIn (tgt := 183) hx hb eX9_count_0.2.1 (by first | (rw [hc13]; done) | (rw [hc13]; decide)) (by first | (rw [hc13]; done) | (rw [hc13]; decide)) (by first | (rw [hc13]; done) | (rw [hc13]; rfl)) (by decide) ?_
    refine lv_aload_n hx hb eX9_count_166.2.2.2.2.2.2.2.2.2.1 rfl (lv_at hl 0 rfl) ?_
    refine va_get (D := (dC, dI)) (ci := 9) (v := .ref xG) (C := RX9) (T := TX9) (N := 9) hx hb hts i_X9 hown hK hP 0 rfl rfl 0 (Nat.le_of_ble_eq_true rfl) (hts _ q_3) (fun _ h9 => h9) rfl eX9_count_166.2.2.2.2.2.2.2.2.2.2.1 ?_
    refine va_get (D := (dC, dI)) (ci := 8) (v := .int qI) (C := RX8) (T := TX8) (N := 4) hx hb hts i_X8 hown hK hP 1 rfl rfl 1 (Nat.le_of_ble_eq_true rfl) (hts _ q_73) (fun _ h9 => h9) rfl eX9_count_166.2.2.2.2.2.2.2.2.2.2.2.1 ?_
    exact W.iret (v := qI) hx hb hr (fun t ht hW => ⟨⟨qI, (), rfl, hp, by rw [ht]; exact hP, va_K.moved hW.alike hK, hD⟩, hS.F ht⟩) hS.2.2 eX9_count_166.2.2.2.2.2.2.2.2.2.2.2.2.1
  have hp := hp.2.2.2.2.2.2.2.2.2.2.2.2.2.2 hc0 hc1 hc2 hc3 hc4 hc5 hc6 hc7 hc8 hc9 hc10 hc11 hc12 hc13
  have key : W p l e rm_X9_count s m args below meth c H locs 0 0 (MQ below (q_X9_count dC dI cI cC cZ cB cJ A a_x xG xD wY wJ wQ xI xK xJ tW uT xH tX jE mX pD oO oQ eG vX uO vQ qT qI qJ rY bZ bD bI aI pE jC eO eW dO fJ fY jD nG oE uF qF post) args s 0 0 A) (F0 m 191 ls []) := by
    refine lv_bipush (v := (-100)) hx hb eX9_count_166.2.2.2.2.2.2.2.2.2.2.2.2.2.1 bp_m100 ?_
    exact W.iret (v := (-100)) hx hb hr (fun t ht hW => ⟨⟨(-100), (), rfl, hp, by rw [ht]; exact hP, va_K.moved hW.alike hK, hD⟩, hS.F ht⟩) hS.2.2 eX9_count_166.2.2.2.2.2.2.2.2.2.2.2.2.2.2
  exact lv_tableOut (tgt := 191) hx hb eX9_count_0.2.1 (by have g0 := lv_neT (a := 0) hc0 rfl; have g1 := lv_neT (a := 1) hc1 rfl; have g2 := lv_neT (a := 2) hc2 rfl; have g3 := lv_neT (a := 3) hc3 rfl; have g4 := lv_neT (a := 4) hc4 rfl; have g5 := lv_neT (a := 5) hc5 rfl; have g6 := lv_neT (a := 6) hc6 rfl; have g7 := lv_neT (a := 7) hc7 rfl; have g8 := lv_neT (a := 8) hc8 rfl; have g9 := lv_neT (a := 9) hc9 rfl; have g10 := lv_neT (a := 10) hc10 rfl; have g11 := lv_neT (a := 11) hc11 rfl; have g12 := lv_neT (a := 12) hc12 rfl; have g13 := lv_neT (a := 13) hc13 rfl; omega) (by decide) key
noncomputable abbrev wd_X9_row (cI cC cZ cB cJ : ClassId) (a_x xG xD wY wJ wQ xI xK xJ tW qT : Nat) (qF : Int32) (jJ : Nat → Int32) : va_W := [(a_x, .inr (9, [.ref xG, .ref xD, .ref wY, .ref wJ, .ref wQ, .ref xI, .ref xK, .ref xJ, .ref tW])), (xK, .inr (6, [.ref qT, .int qF])), (qT, .inl (cI, 16, .inl jJ))]
noncomputable abbrev q_X9_row (dC : Nat → ClassId) (dI : Nat → Nat → Nat) (cI cC cZ cB cJ : ClassId) (A : Nat → Prop) (a_x xG xD wY wJ wQ xI xK xJ tW qT : Nat) (qF : Int32) (jJ : Nat → Int32) (post : Int32 → Prop) : Array Value → State → Outcome → State → Prop := va_Qi (fun (r : Int32) (u : Unit) => post r) (fun u t => gB (dC, dI) (tyl cI cC cZ cB cJ) A (wd_X9_row cI cC cZ cB cJ a_x xG xD wY wJ wQ xI xK xJ tW qT qF jJ) t) A
noncomputable abbrev rm_X9_row : Room := { frames := 6, cells := 1, slots := 6, locals := 100 }
noncomputable def wp_X9_row (post : Int32 → Prop) (postx : Prop) (p0 qF : Int32) (jJ : Nat → Int32) : Prop := (p0 < 0 → postx) ∧ (¬ p0 < 0 → (p0 < qF → vp_in p0 16 ∧ (post (jJ p0.toNatClampNeg))) ∧ (¬ p0 < qF → postx))
set_option maxHeartbeats 4000000 in
set_option maxRecDepth 100000 in
theorem c_X9_row (l : Launch) (hl9 : l.stackTraces = false) (dC : Nat → ClassId) (dI : Nat → Nat → Nat) (cI cC cZ cB cJ : ClassId) (a_x xG xD wY wJ wQ xI xK xJ tW qT sz : Nat) (p0 qF : Int32) (jJ : Nat → Int32) (post : Int32 → Prop) (postx : Prop) (hw : wp_X9_row post postx p0 qF jJ) : vx_Met l yX9_row (gw yX9_row cX9_row 2 (some .int)) rm_X9_row (va_Pc [.ref a_x, .int p0] (gPre (dC, dI) (tyl cI cC cZ cB cJ) (wd_X9_row cI cC cZ cB cJ a_x xG xD wY wJ wQ xI xK xJ tW qT qF jJ) sz)) (q_X9_row dC dI cI cC cZ cB cJ (va_A (wd_X9_row cI cC cZ cB cJ a_x xG xD wY wJ wQ xI xK xJ tW qT qF jJ) sz) a_x xG xD wY wJ wQ xI xK xJ tW qT qF jJ post) (gXC (dC, dI) (tyl cI cC cZ cB cJ) (va_A (wd_X9_row cI cC cZ cB cJ a_x xG xD wY wJ wQ xI xK xJ tW qT qF jJ) sz) (wd_X9_row cI cC cZ cB cJ a_x xG xD wY wJ wQ xI xK xJ tW qT qF jJ) postx) 1 6 (va_A (wd_X9_row cI cC cZ cB cJ a_x xG xD wY wJ wQ xI xK xJ tW qT qF jJ) sz) := by
  refine g_enterX (own := RX9) (dC, dI) (tyl cI cC cZ cB cJ) (wd_X9_row cI cC cZ cB cJ a_x xG xD wY wJ wQ xI xK xJ tW qT qF jJ) sz [.ref a_x, .int p0] (fun A => q_X9_row dC dI cI cC cZ cB cJ A a_x xG xD wY wJ wQ xI xK xJ tW qT qF jJ post) (fun A => (gXC (dC, dI) (tyl cI cC cZ cB cJ) A (wd_X9_row cI cC cZ cB cJ a_x xG xD wY wJ wQ xI xK xJ tW qT qF jJ) postx)) (by decide) rfl (Nat.le_of_ble_eq_true rfl) ?_
  intro p e s m args below meth c A H locs ls C0 htab hP hD hS hl
  have hl : lv_has ls 2 [(0, .ref a_x), (1, .int p0)] := hl
  obtain ⟨hx, hb, hr, hml, hown, hts, hlocks, hA, hK, hN, tL, tM, hZL, hTL, hZM, hTM, hZX⟩ := id C0
  have hp := hw
  unfold wp_X9_row at hp
  refine lv_iload_n hx hb eX9_row_0.1 rfl (lv_at hl 1 rfl) ?_
  refine lv_if_lt (tgt := 15) hx hb eX9_row_0.2.1 (by decide) (fun hc => ?_) (fun hc => ?_)
  · have hp := hp.1 hc
    exact g_throw C0 hl9 htab hP hD hS hl.1 eX9_row_0.2.2.2.2.2.2.2.1 eX9_row_0.2.2.2.2.2.2.2.2.1 eX9_row_0.2.2.2.2.2.2.2.2.2.1 eX9_row_0.2.2.2.2.2.2.2.2.2.2.1 (Nat.le_of_ble_eq_true rfl) (Nat.le_of_ble_eq_true rfl) (Nat.le_of_ble_eq_true rfl) (Nat.le_of_ble_eq_true rfl) hp
  · have hp := hp.2 hc
    refine lv_iload_n hx hb eX9_row_0.2.2.1 rfl (lv_at hl 1 rfl) ?_
    refine lv_aload_n hx hb eX9_row_0.2.2.2.1 rfl (lv_at hl 0 rfl) ?_
    refine va_get (D := (dC, dI)) (ci := 9) (v := .ref xK) (C := RX9) (T := TX9) (N := 9) hx hb hts i_X9 hown hK hP 0 rfl rfl 6 (Nat.le_of_ble_eq_true rfl) (hts _ q_363) (fun _ h9 => h9) rfl eX9_row_0.2.2.2.2.1 ?_
    refine va_get (D := (dC, dI)) (ci := 6) (v := .int qF) (C := RX6) (T := TX6) (N := 2) hx hb hts i_X6 hown hK hP 1 rfl rfl 1 (Nat.le_of_ble_eq_true rfl) (hts _ q_461) (fun _ h9 => h9) rfl eX9_row_0.2.2.2.2.2.1 ?_
    refine lv_icmp_lt (tgt := 23) hx hb eX9_row_0.2.2.2.2.2.2.1 (by decide) (fun hc => ?_) (fun hc => ?_)
    · have hp := hp.1 hc
      refine lv_aload_n hx hb eX9_row_0.2.2.2.2.2.2.2.2.2.2.2.1 rfl (lv_at hl 0 rfl) ?_
      refine va_get (D := (dC, dI)) (ci := 9) (v := .ref xK) (C := RX9) (T := TX9) (N := 9) hx hb hts i_X9 hown hK hP 0 rfl rfl 6 (Nat.le_of_ble_eq_true rfl) (hts _ q_363) (fun _ h9 => h9) rfl eX9_row_0.2.2.2.2.2.2.2.2.2.2.2.2.1 ?_
      refine va_get (D := (dC, dI)) (ci := 6) (v := .ref qT) (C := RX6) (T := TX6) (N := 2) hx hb hts i_X6 hown hK hP 1 rfl rfl 0 (Nat.le_of_ble_eq_true rfl) (hts _ q_637) (fun _ h9 => h9) rfl eX9_row_0.2.2.2.2.2.2.2.2.2.2.2.2.2.1 ?_
      refine lv_iload_n hx hb eX9_row_0.2.2.2.2.2.2.2.2.2.2.2.2.2.2.1 rfl (lv_at hl 1 rfl) ?_
      have hin := hp.1
      have hp := hp.2
      refine va_iald hx hb hK hP 2 0 rfl rfl hin eX9_row_0.2.2.2.2.2.2.2.2.2.2.2.2.2.2.2 ?_
      refine vx_ret (W.widen (k := 1) (n := 6) (Nat.zero_le _) (Nat.zero_le _) ?_)
      exact W.iret (v := jJ p0.toNatClampNeg) hx hb hr (fun t ht hW => ⟨⟨jJ p0.toNatClampNeg, (), rfl, hp, by rw [ht]; exact hP, va_K.moved hW.alike hK, hD⟩, hS.F ht⟩) hS.2.2 dX9_row_32
    · have hp := hp.2 hc
      exact g_throw C0 hl9 htab hP hD hS hl.1 eX9_row_0.2.2.2.2.2.2.2.1 eX9_row_0.2.2.2.2.2.2.2.2.1 eX9_row_0.2.2.2.2.2.2.2.2.2.1 eX9_row_0.2.2.2.2.2.2.2.2.2.2.1 (Nat.le_of_ble_eq_true rfl) (Nat.le_of_ble_eq_true rfl) (Nat.le_of_ble_eq_true rfl) (Nat.le_of_ble_eq_true rfl) hp
noncomputable abbrev wd_X10_sign (cI cC cZ cB cJ : ClassId) (a_m oJ uD dY iJ lJ jQ jR jW jK pJ bM aY jO gR gY mK jZ iY bG mJ jB mQ lY eJ bY : Nat) (bW aG jG bQ dG : Int32) (jY : Nat) (m_length qG uW eY aJ aB bU dN aR aE bJ aW bT gJ dU bL bR bO mY pW : Int32) (rG : Nat → Int32) : va_W := [(a_m, .inr (10, [.ref oJ, .int bW, .ref uD, .ref dY, .ref iJ, .ref lJ, .int aG, .ref jQ, .ref jR, .ref jW, .ref jK, .int jG, .ref pJ, .int bQ, .int dG, rdv jK jO jY, .int m_length, .int qG, .int uW, .int eY, .ref bM, .ref aY, .int aJ, .int aB, .ref jO, .int bU, .int dN, .int aR, .int aE, .int bJ, .int aW, .ref gR, .int bT, .ref gY, .ref mK, .int gJ, .ref jZ, .int dU, .ref iY, .ref bG, .int bL, .int bR, .int bO, .ref mJ, .ref jB, .ref mQ, .int mY, .int pW, .ref lY, .ref eJ, .ref bY])), (jK, .inl (cB, 80, .inl rG))]
noncomputable abbrev q_X10_sign (dC : Nat → ClassId) (dI : Nat → Nat → Nat) (cI cC cZ cB cJ : ClassId) (A : Nat → Prop) (a_m oJ uD dY iJ lJ jQ jR jW jK pJ bM aY jO gR gY mK jZ iY bG mJ jB mQ lY eJ bY : Nat) (bW aG bQ : Int32) (jY : Nat) (m_length qG uW eY aJ aB bU dN aR aE bJ aW bT gJ dU bL bR bO mY pW : Int32) (post : Int32 → Int32 → Int32 → (Nat → Int32) → Prop) : Array Value → State → Outcome → State → Prop := va_Qi (fun (r : Int32) (u : Int32 × Int32 × (Nat → Int32)) => post r u.1 u.2.1 u.2.2) (fun u t => gB (dC, dI) (tyl cI cC cZ cB cJ) A (wd_X10_sign cI cC cZ cB cJ a_m oJ uD dY iJ lJ jQ jR jW jK pJ bM aY jO gR gY mK jZ iY bG mJ jB mQ lY eJ bY bW aG u.1 bQ u.2.1 jY m_length qG uW eY aJ aB bU dN aR aE bJ aW bT gJ dU bL bR bO mY pW u.2.2) t) A
noncomputable abbrev rm_X10_sign : Room := { frames := 0, cells := 0, slots := 0, locals := 0 }
section S_X10_sign
variable {p : Program} {l : Launch} {e : Env} {s : State} {m : MethodId} {args : Array Value} {below : List Frame} {meth : Method} {c : Code} {dC : Nat → ClassId} {dI : Nat → Nat → Nat} {cI cC cZ cB cJ : ClassId} {A : Nat → Prop} {a_m oJ uD dY iJ lJ jQ jR jW jK pJ bM aY jO gR gY mK jZ iY bG mJ jB mQ lY eJ bY : Nat} {bW aG bQ : Int32} {jY : Nat} {m_length qG uW eY aJ aB bU dN aR aE bJ aW bT gJ dU bL bR bO mY pW : Int32} {post : Int32 → Int32 → Int32 → (Nat → Int32) → Prop}
noncomputable def ws_X10_sign_20 (post : Int32 → Int32 → Int32 → (Nat → Int32) → Prop) (next : Int32 → Int32 → Int32 → Int32 → (Nat → Int32) → Prop) (x1 x2 jG dG : Int32) (rG : Nat → Int32) : Prop := (x2 < 0 → post jG jG dG rG) ∧ (¬ x2 < 0 → ∀ v_2 : Int32, v_2 = jG + 1 → ∀ v_3 : Int32, v_3 = (x1 >>> ((8 * x2) &&& 31)).toInt8.toInt32 → vp_in jG 80 ∧ (∀ v_4 : Int32, v_4 = x2 + (-1) → next x1 v_4 v_2 dG (upd rG jG.toNatClampNeg (vp_nar .byte v_3))))
noncomputable def wb_X10_sign_20 (post : Int32 → Int32 → Int32 → (Nat → Int32) → Prop) : Nat → Int32 → Int32 → Int32 → Int32 → (Nat → Int32) → Prop := fun n => Nat.rec (motive := fun _ => Int32 → Int32 → Int32 → Int32 → (Nat → Int32) → Prop) (fun _ _ _ _ _ => False) (fun _ ih => ws_X10_sign_20 post ih) n
set_option maxHeartbeats 4000000 in
set_option maxRecDepth 100000 in
theorem ks_X10_sign_20 (C0 : gc cX10_sign (some .int) 3 RX10 (dC, dI) (tyl cI cC cZ cB cJ) A p s m args meth c) {next : Int32 → Int32 → Int32 → Int32 → (Nat → Int32) → Prop} (hKn : ∀ (x1 : Int32) (x2 : Int32) (jG : Int32) (dG : Int32) (rG : Nat → Int32) (H : Heap) (locs : List Loc) (ls : Array Slot), next x1 x2 jG dG rG → va_P (dC, dI) classes (wd_X10_sign cI cC cZ cB cJ a_m oJ uD dY iJ lJ jQ jR jW jK pJ bM aY jO gR gY mK jZ iY bG mJ jB mQ lY eJ bY bW aG jG bQ dG jY m_length qG uW eY aJ aB bU dN aR aE bJ aW bT gJ dU bL bR bO mY pW rG) H → va_D A (wd_X10_sign cI cC cZ cB cJ a_m oJ uD dY iJ lJ jQ jR jW jK pJ bM aY jO gR gY mK jZ iY bG mJ jB mQ lY eJ bY bW aG jG bQ dG jY m_length qG uW eY aJ aB bU dN aR aE bJ aW bT gJ dU bL bR bO mY pW rG) → va_S A s.heap H locs → lv_has ls 3 [(0, .ref a_m), (1, .int x1), (2, .int x2)] → W p l e rm_X10_sign s m args below meth c H locs 0 0 (MQ below (q_X10_sign dC dI cI cC cZ cB cJ A a_m oJ uD dY iJ lJ jQ jR jW jK pJ bM aY jO gR gY mK jZ iY bG mJ jB mQ lY eJ bY bW aG bQ jY m_length qG uW eY aJ aB bU dN aR aE bJ aW bT gJ dU bL bR bO mY pW post) args s 0 0 A) (F0 m 20 ls [])) : ∀ (x1 x2 jG dG : Int32) (rG : Nat → Int32) (H : Heap) (locs : List Loc) (ls : Array Slot), (ws_X10_sign_20 post next) x1 x2 jG dG rG → va_P (dC, dI) classes (wd_X10_sign cI cC cZ cB cJ a_m oJ uD dY iJ lJ jQ jR jW jK pJ bM aY jO gR gY mK jZ iY bG mJ jB mQ lY eJ bY bW aG jG bQ dG jY m_length qG uW eY aJ aB bU dN aR aE bJ aW bT gJ dU bL bR bO mY pW rG) H → va_D A (wd_X10_sign cI cC cZ cB cJ a_m oJ uD dY iJ lJ jQ jR jW jK pJ bM aY jO gR gY mK jZ iY bG mJ jB mQ lY eJ bY bW aG jG bQ dG jY m_length qG uW eY aJ aB bU dN aR aE bJ aW bT gJ dU bL bR bO mY pW rG) → va_S A s.heap H locs → lv_has ls 3 [(0, .ref a_m), (1, .int x1), (2, .int x2)] → W p l e rm_X10_sign s m args below meth c H locs 0 0 (MQ below (q_X10_sign dC dI cI cC cZ cB cJ A a_m oJ uD dY iJ lJ jQ jR jW jK pJ bM aY jO gR gY mK jZ iY bG mJ jB mQ lY eJ bY bW aG bQ jY m_length qG uW eY aJ aB bU dN aR aE bJ aW bT gJ dU bL bR bO mY pW post) args s 0 0 A) (F0 m 20 ls []) := by
  obtain ⟨hx, hb, hr, hml, hown, hts, hlocks, hA, hK, hN, tL, tM, hZL, hTL, hZM, hTM, hZX⟩ := id C0
  intro x1 x2 jG dG rG H locs ls hp hP hD hS hl
  unfold ws_X10_sign_20 at hp
  refine lv_iload_n hx hb eX10_sign_0.2.2.2.2.2.2.2.2.2.2.2.2.2.1 rfl (lv_at hl 2 rfl) ?_
  refine lv_if_lt (tgt := 53) hx hb eX10_sign_0.2.2.2.2.2.2.2.2.2.2.2.2.2.2.1 (by decide) (fun hc => ?_) (fun hc => ?_)
  · have hp := hp.1 hc
    refine lv_aload_n hx hb eX10_sign_50.2.1 rfl (lv_at hl 0 rfl) ?_
    refine va_get (D := (dC, dI)) (ci := 10) (v := .int jG) (C := RX10) (T := TX10) (N := 51) hx hb hts i_X10 hown hK hP 0 rfl rfl 11 (Nat.le_of_ble_eq_true rfl) (hts _ q_639) (fun _ h9 => h9) rfl eX10_sign_50.2.2.1 ?_
    exact W.iret (v := jG) hx hb hr (fun t ht hW => ⟨⟨jG, (jG, dG, rG), rfl, hp, by rw [ht]; exact hP, va_K.moved hW.alike hK, hD⟩, hS.F ht⟩) hS.2.2 eX10_sign_50.2.2.2
  · have hp := hp.2 hc
    refine lv_aload_n hx hb eX10_sign_0.2.2.2.2.2.2.2.2.2.2.2.2.2.2.2 rfl (lv_at hl 0 rfl) ?_
    refine va_get (D := (dC, dI)) (ci := 10) (v := .ref jK) (C := RX10) (T := TX10) (N := 51) hx hb hts i_X10 hown hK hP 0 rfl rfl 10 (Nat.le_of_ble_eq_true rfl) (hts _ q_640) (fun _ h9 => h9) rfl eX10_sign_25.1 ?_
    refine lv_aload_n hx hb eX10_sign_25.2.1 rfl (lv_at hl 0 rfl) ?_
    refine lv_dup hx hb eX10_sign_25.2.2.1 rfl ?_
    refine va_get (D := (dC, dI)) (ci := 10) (v := .int jG) (C := RX10) (T := TX10) (N := 51) hx hb hts i_X10 hown hK hP 0 rfl rfl 11 (Nat.le_of_ble_eq_true rfl) (hts _ q_639) (fun _ h9 => h9) rfl eX10_sign_25.2.2.2.1 ?_
    refine lv_dup_x1 hx hb eX10_sign_25.2.2.2.2.1 rfl rfl ?_
    refine lv_iconst (v := 1) hx hb eX10_sign_25.2.2.2.2.2.1 ic_1 ?_
    refine lv_iadd hx hb eX10_sign_25.2.2.2.2.2.2.1 ?_
    refine lv_topi (fun v_2 ev_2 => ?_)
    have hp := hp v_2 ev_2
    refine va_put (D := (dC, dI)) (ci := 10) (v := .int v_2) (ty := .int) (C := RX10) (T := TX10) (N := 51) hx hb hts i_X10 tyX10 tyX10_ok nmX10 hown hK hP hD hS 0 rfl rfl 11 (Nat.le_of_ble_eq_true rfl) (hts _ q_639) (fun _ h9 => h9) rfl (tyX10_ok 11 (Nat.le_of_ble_eq_true rfl)) rfl rfl (Nat.le_of_ble_eq_true rfl) eX10_sign_25.2.2.2.2.2.2.2.1 (fun H locs hP hD hS => ?_)
    have hP : va_P (dC, dI) classes (wd_X10_sign cI cC cZ cB cJ a_m oJ uD dY iJ lJ jQ jR jW jK pJ bM aY jO gR gY mK jZ iY bG mJ jB mQ lY eJ bY bW aG v_2 bQ dG jY m_length qG uW eY aJ aB bU dN aR aE bJ aW bT gJ dU bL bR bO mY pW rG) H := hP
    have hD : va_D A (wd_X10_sign cI cC cZ cB cJ a_m oJ uD dY iJ lJ jQ jR jW jK pJ bM aY jO gR gY mK jZ iY bG mJ jB mQ lY eJ bY bW aG v_2 bQ dG jY m_length qG uW eY aJ aB bU dN aR aE bJ aW bT gJ dU bL bR bO mY pW rG) := hD
    refine lv_iload_n hx hb eX10_sign_25.2.2.2.2.2.2.2.2.1 rfl (lv_at hl 1 rfl) ?_
    refine lv_bipush (v := 8) hx hb eX10_sign_25.2.2.2.2.2.2.2.2.2.1 bp_8 ?_
    refine lv_iload_n hx hb eX10_sign_25.2.2.2.2.2.2.2.2.2.2.1 rfl (lv_at hl 2 rfl) ?_
    refine lv_imul hx hb eX10_sign_25.2.2.2.2.2.2.2.2.2.2.2.1 ?_
    refine lv_ishr hx hb eX10_sign_25.2.2.2.2.2.2.2.2.2.2.2.2.1 ?_
    refine lv_i2b hx hb eX10_sign_25.2.2.2.2.2.2.2.2.2.2.2.2.2.1 rfl ?_
    refine lv_topi (fun v_3 ev_3 => ?_)
    have hp := hp v_3 ev_3
    have hin := hp.1
    have hp := hp.2
    refine va_bast hx hb hK hP hD hS 1 3 rfl rfl hin eX10_sign_25.2.2.2.2.2.2.2.2.2.2.2.2.2.2.1 (fun H locs hP hD hS => ?_)
    have hP : va_P (dC, dI) classes (wd_X10_sign cI cC cZ cB cJ a_m oJ uD dY iJ lJ jQ jR jW jK pJ bM aY jO gR gY mK jZ iY bG mJ jB mQ lY eJ bY bW aG v_2 bQ dG jY m_length qG uW eY aJ aB bU dN aR aE bJ aW bT gJ dU bL bR bO mY pW (upd rG jG.toNatClampNeg (vp_nar .byte v_3))) H := hP
    have hD : va_D A (wd_X10_sign cI cC cZ cB cJ a_m oJ uD dY iJ lJ jQ jR jW jK pJ bM aY jO gR gY mK jZ iY bG mJ jB mQ lY eJ bY bW aG v_2 bQ dG jY m_length qG uW eY aJ aB bU dN aR aE bJ aW bT gJ dU bL bR bO mY pW (upd rG jG.toNatClampNeg (vp_nar .byte v_3))) := hD
    obtain ⟨v_4, ev_4⟩ : ∃ y : Int32, y = x2 + (-1) := ⟨_, rfl⟩
    refine lv_iinc (v := v_4) (lv' := [(2, .int v_4), (0, .ref a_m), (1, .int x1)]) hx hb eX10_sign_25.2.2.2.2.2.2.2.2.2.2.2.2.2.2.2 hl (k := 2) rfl (by rw [ev_4]; rfl) (by decide) rfl (fun ls hl => ?_)
    have hp := hp v_4 ev_4
    refine lv_goto (tgt := 20) hx hb eX10_sign_50.1 (by decide) ?_
    exact hKn x1 v_4 v_2 dG (upd rG jG.toNatClampNeg (vp_nar .byte v_3)) H locs ls hp hP hD hS (lv_sub hl [1, 2, 0] rfl)
set_option maxHeartbeats 4000000 in
set_option maxRecDepth 100000 in
theorem kb_X10_sign_20 (C0 : gc cX10_sign (some .int) 3 RX10 (dC, dI) (tyl cI cC cZ cB cJ) A p s m args meth c) : ∀ (n : Nat), ∀ (x1 x2 jG dG : Int32) (rG : Nat → Int32) (H : Heap) (locs : List Loc) (ls : Array Slot), (wb_X10_sign_20 post n) x1 x2 jG dG rG → va_P (dC, dI) classes (wd_X10_sign cI cC cZ cB cJ a_m oJ uD dY iJ lJ jQ jR jW jK pJ bM aY jO gR gY mK jZ iY bG mJ jB mQ lY eJ bY bW aG jG bQ dG jY m_length qG uW eY aJ aB bU dN aR aE bJ aW bT gJ dU bL bR bO mY pW rG) H → va_D A (wd_X10_sign cI cC cZ cB cJ a_m oJ uD dY iJ lJ jQ jR jW jK pJ bM aY jO gR gY mK jZ iY bG mJ jB mQ lY eJ bY bW aG jG bQ dG jY m_length qG uW eY aJ aB bU dN aR aE bJ aW bT gJ dU bL bR bO mY pW rG) → va_S A s.heap H locs → lv_has ls 3 [(0, .ref a_m), (1, .int x1), (2, .int x2)] → W p l e rm_X10_sign s m args below meth c H locs 0 0 (MQ below (q_X10_sign dC dI cI cC cZ cB cJ A a_m oJ uD dY iJ lJ jQ jR jW jK pJ bM aY jO gR gY mK jZ iY bG mJ jB mQ lY eJ bY bW aG bQ jY m_length qG uW eY aJ aB bU dN aR aE bJ aW bT gJ dU bL bR bO mY pW post) args s 0 0 A) (F0 m 20 ls []) := by
  intro n
  induction n with
  | zero =>
    intro x1 x2 jG dG rG H locs ls hp
    exact False.elim hp
  | succ n ih =>
    intro x1 x2 jG dG rG H locs ls hp
    exact ks_X10_sign_20 C0 ih x1 x2 jG dG rG H locs ls hp
end S_X10_sign
noncomputable def wp_X10_sign (post : Int32 → Int32 → Int32 → (Nat → Int32) → Prop) (p0 jG dG : Int32) (rG : Nat → Int32) : Prop := ∀ v_1 : Int32, v_1 = jG + 4 → (v_1 ≤ 80 → ∃ n : Nat, wb_X10_sign_20 post n p0 3 jG 0 rG) ∧ (¬ v_1 ≤ 80 → post (-1) jG 0 rG)
set_option maxHeartbeats 4000000 in
set_option maxRecDepth 100000 in
theorem c_X10_sign (l : Launch) (dC : Nat → ClassId) (dI : Nat → Nat → Nat) (cI cC cZ cB cJ : ClassId) (a_m oJ uD dY iJ lJ jQ jR jW jK pJ bM aY jO gR gY mK jZ iY bG mJ jB mQ lY eJ bY sz : Nat) (p0 bW aG jG bQ dG : Int32) (jY : Nat) (m_length qG uW eY aJ aB bU dN aR aE bJ aW bT gJ dU bL bR bO mY pW : Int32) (rG : Nat → Int32) (post : Int32 → Int32 → Int32 → (Nat → Int32) → Prop) (hw : wp_X10_sign post p0 jG dG rG) : Met l yX10_sign (gw yX10_sign cX10_sign 3 (some .int)) rm_X10_sign (va_Pc [.ref a_m, .int p0] (gPre (dC, dI) (tyl cI cC cZ cB cJ) (wd_X10_sign cI cC cZ cB cJ a_m oJ uD dY iJ lJ jQ jR jW jK pJ bM aY jO gR gY mK jZ iY bG mJ jB mQ lY eJ bY bW aG jG bQ dG jY m_length qG uW eY aJ aB bU dN aR aE bJ aW bT gJ dU bL bR bO mY pW rG) sz)) (q_X10_sign dC dI cI cC cZ cB cJ (va_A (wd_X10_sign cI cC cZ cB cJ a_m oJ uD dY iJ lJ jQ jR jW jK pJ bM aY jO gR gY mK jZ iY bG mJ jB mQ lY eJ bY bW aG jG bQ dG jY m_length qG uW eY aJ aB bU dN aR aE bJ aW bT gJ dU bL bR bO mY pW rG) sz) a_m oJ uD dY iJ lJ jQ jR jW jK pJ bM aY jO gR gY mK jZ iY bG mJ jB mQ lY eJ bY bW aG bQ jY m_length qG uW eY aJ aB bU dN aR aE bJ aW bT gJ dU bL bR bO mY pW post) 0 0 (va_A (wd_X10_sign cI cC cZ cB cJ a_m oJ uD dY iJ lJ jQ jR jW jK pJ bM aY jO gR gY mK jZ iY bG mJ jB mQ lY eJ bY bW aG jG bQ dG jY m_length qG uW eY aJ aB bU dN aR aE bJ aW bT gJ dU bL bR bO mY pW rG) sz) := by
  refine g_enter (own := RX10) (dC, dI) (tyl cI cC cZ cB cJ) (wd_X10_sign cI cC cZ cB cJ a_m oJ uD dY iJ lJ jQ jR jW jK pJ bM aY jO gR gY mK jZ iY bG mJ jB mQ lY eJ bY bW aG jG bQ dG jY m_length qG uW eY aJ aB bU dN aR aE bJ aW bT gJ dU bL bR bO mY pW rG) sz [.ref a_m, .int p0] (fun A => q_X10_sign dC dI cI cC cZ cB cJ A a_m oJ uD dY iJ lJ jQ jR jW jK pJ bM aY jO gR gY mK jZ iY bG mJ jB mQ lY eJ bY bW aG bQ jY m_length qG uW eY aJ aB bU dN aR aE bJ aW bT gJ dU bL bR bO mY pW post) pn_RX10 rfl (Nat.le_of_ble_eq_true rfl) ?_
  intro p e s m args below meth c A H locs ls C0 hP hD hS hl
  have hl : lv_has ls 3 [(0, .ref a_m), (1, .int p0)] := hl
  obtain ⟨hx, hb, hr, hml, hown, hts, hlocks, hA, hK, hN, tL, tM, hZL, hTL, hZM, hTM, hZX⟩ := id C0
  have hp := hw
  unfold wp_X10_sign at hp
  refine lv_aload_n hx hb eX10_sign_0.1 rfl (lv_at hl 0 rfl) ?_
  refine lv_iconst (v := 0) hx hb eX10_sign_0.2.1 ic_0 ?_
  refine va_put (D := (dC, dI)) (ci := 10) (v := .int 0) (ty := .int) (C := RX10) (T := TX10) (N := 51) hx hb hts i_X10 tyX10 tyX10_ok nmX10 hown hK hP hD hS 0 rfl rfl 14 (Nat.le_of_ble_eq_true rfl) (hts _ q_638) (fun _ h9 => h9) rfl (tyX10_ok 14 (Nat.le_of_ble_eq_true rfl)) rfl rfl (Nat.le_of_ble_eq_true rfl) eX10_sign_0.2.2.1 (fun H locs hP hD hS => ?_)
  have hP : va_P (dC, dI) classes (wd_X10_sign cI cC cZ cB cJ a_m oJ uD dY iJ lJ jQ jR jW jK pJ bM aY jO gR gY mK jZ iY bG mJ jB mQ lY eJ bY bW aG jG bQ 0 jY m_length qG uW eY aJ aB bU dN aR aE bJ aW bT gJ dU bL bR bO mY pW rG) H := hP
  have hD : va_D A (wd_X10_sign cI cC cZ cB cJ a_m oJ uD dY iJ lJ jQ jR jW jK pJ bM aY jO gR gY mK jZ iY bG mJ jB mQ lY eJ bY bW aG jG bQ 0 jY m_length qG uW eY aJ aB bU dN aR aE bJ aW bT gJ dU bL bR bO mY pW rG) := hD
  refine lv_aload_n hx hb eX10_sign_0.2.2.2.1 rfl (lv_at hl 0 rfl) ?_
  refine va_get (D := (dC, dI)) (ci := 10) (v := .int jG) (C := RX10) (T := TX10) (N := 51) hx hb hts i_X10 hown hK hP 0 rfl rfl 11 (Nat.le_of_ble_eq_true rfl) (hts _ q_639) (fun _ h9 => h9) rfl eX10_sign_0.2.2.2.2.1 ?_
  refine lv_iconst (v := 4) hx hb eX10_sign_0.2.2.2.2.2.1 ic_4 ?_
  refine lv_iadd hx hb eX10_sign_0.2.2.2.2.2.2.1 ?_
  refine lv_topi (fun v_1 ev_1 => ?_)
  have hp := hp v_1 ev_1
  refine lv_bipush (v := 80) hx hb eX10_sign_0.2.2.2.2.2.2.2.1 bp_80 ?_
  refine lv_icmp_le (tgt := 18) hx hb eX10_sign_0.2.2.2.2.2.2.2.2.1 (by decide) (fun hc => ?_) (fun hc => ?_)
  · have hp := hp.1 hc
    refine lv_iconst (v := 3) hx hb eX10_sign_0.2.2.2.2.2.2.2.2.2.2.2.1 ic_3 ?_
    refine lv_istore_n (lv' := [(2, .int 3), (0, .ref a_m), (1, .int p0)]) hx hb eX10_sign_0.2.2.2.2.2.2.2.2.2.2.2.2.1 rfl hl (by decide) rfl (fun ls hl => ?_)
    obtain ⟨n9, hp⟩ := hp
    exact kb_X10_sign_20 C0 n9 p0 3 jG 0 rG H locs ls hp hP hD hS (lv_sub hl [1, 2, 0] rfl)
  · have hp := hp.2 hc
    refine lv_iconst (v := (-1)) hx hb eX10_sign_0.2.2.2.2.2.2.2.2.2.1 ic_m1 ?_
    exact W.iret (v := (-1)) hx hb hr (fun t ht hW => ⟨⟨(-1), (jG, 0, rG), rfl, hp, by rw [ht]; exact hP, va_K.moved hW.alike hK, hD⟩, hS.F ht⟩) hS.2.2 eX10_sign_0.2.2.2.2.2.2.2.2.2.2.1
noncomputable abbrev wd_X10_in (cI cC cZ cB cJ : ClassId) : va_W := []
noncomputable abbrev q_X10_in (dC : Nat → ClassId) (dI : Nat → Nat → Nat) (cI cC cZ cB cJ : ClassId) (A : Nat → Prop) (post : Int32 → Prop) : Array Value → State → Outcome → State → Prop := va_Qi (fun (r : Int32) (u : Unit) => post r) (fun u t => gB (dC, dI) (tyl cI cC cZ cB cJ) A (wd_X10_in cI cC cZ cB cJ) t) A
noncomputable abbrev rm_X10_in : Room := { frames := 0, cells := 0, slots := 0, locals := 0 }
noncomputable def wp_X10_in (post : Int32 → Prop) (p0 p1 p2 : Int32) : Prop := (p0 < p1 → post 0) ∧ (¬ p0 < p1 → (p2 < p0 → post 0) ∧ (¬ p2 < p0 → post 1))
set_option maxHeartbeats 4000000 in
set_option maxRecDepth 100000 in
theorem c_X10_in (l : Launch) (dC : Nat → ClassId) (dI : Nat → Nat → Nat) (cI cC cZ cB cJ : ClassId) (sz : Nat) (p0 p1 p2 : Int32) (post : Int32 → Prop) (hw : wp_X10_in post p0 p1 p2) : Met l yX10_in (gw yX10_in cX10_in 3 (some .boolean)) rm_X10_in (va_Pc [.int p0, .int p1, .int p2] (gPre (dC, dI) (tyl cI cC cZ cB cJ) (wd_X10_in cI cC cZ cB cJ) sz)) (q_X10_in dC dI cI cC cZ cB cJ (va_A (wd_X10_in cI cC cZ cB cJ) sz) post) 0 0 (va_A (wd_X10_in cI cC cZ cB cJ) sz) := by
  refine g_enter (own := RX10) (dC, dI) (tyl cI cC cZ cB cJ) (wd_X10_in cI cC cZ cB cJ) sz [.int p0, .int p1, .int p2] (fun A => q_X10_in dC dI cI cC cZ cB cJ A post) pn_RX10 rfl (Nat.le_of_ble_eq_true rfl) ?_
  intro p e s m args below meth c A H locs ls C0 hP hD hS hl
  have hl : lv_has ls 3 [(0, .int p0), (1, .int p1), (2, .int p2)] := hl
  obtain ⟨hx, hb, hr, hml, hown, hts, hlocks, hA, hK, hN, tL, tM, hZL, hTL, hZM, hTM, hZX⟩ := id C0
  have hp := hw
  unfold wp_X10_in at hp
  refine lv_iload_n hx hb eX10_in_0.1 rfl (lv_at hl 0 rfl) ?_
  refine lv_iload_n hx hb eX10_in_0.2.1 rfl (lv_at hl 1 rfl) ?_
  refine lv_icmp_lt (tgt := 14) hx hb eX10_in_0.2.2.1 (by decide) (fun hc => ?_) (fun hc => ?_)
  · have hp := hp.1 hc
    refine lv_iconst (v := 0) hx hb eX10_in_0.2.2.2.2.2.2.2.2.1 ic_0 ?_
    exact W.zret (v := 0) hx hb hr rfl (fun t ht hW => ⟨⟨0, (), rfl, hp, by rw [ht]; exact hP, va_K.moved hW.alike hK, hD⟩, hS.F ht⟩) hS.2.2 eX10_in_0.2.2.2.2.2.2.2.2.2
  · have hp := hp.2 hc
    refine lv_iload_n hx hb eX10_in_0.2.2.2.1 rfl (lv_at hl 0 rfl) ?_
    refine lv_iload_n hx hb eX10_in_0.2.2.2.2.1 rfl (lv_at hl 2 rfl) ?_
    refine lv_icmp_gt (tgt := 14) hx hb eX10_in_0.2.2.2.2.2.1 (by decide) (fun hc => ?_) (fun hc => ?_)
    · have hp := hp.1 hc
      refine lv_iconst (v := 0) hx hb eX10_in_0.2.2.2.2.2.2.2.2.1 ic_0 ?_
      exact W.zret (v := 0) hx hb hr rfl (fun t ht hW => ⟨⟨0, (), rfl, hp, by rw [ht]; exact hP, va_K.moved hW.alike hK, hD⟩, hS.F ht⟩) hS.2.2 eX10_in_0.2.2.2.2.2.2.2.2.2
    · have hp := hp.2 hc
      refine lv_iconst (v := 1) hx hb eX10_in_0.2.2.2.2.2.2.1 ic_1 ?_
      refine lv_goto (tgt := 15) hx hb eX10_in_0.2.2.2.2.2.2.2.1 (by decide) ?_
      exact W.zret (v := 1) hx hb hr rfl (fun t ht hW => ⟨⟨1, (), rfl, hp, by rw [ht]; exact hP, va_K.moved hW.alike hK, hD⟩, hS.F ht⟩) hS.2.2 eX10_in_0.2.2.2.2.2.2.2.2.2
noncomputable abbrev wd_X10_end (cI cC cZ cB cJ : ClassId) (a_m oJ uD dY iJ lJ jQ jR jW jK pJ bM aY jO gR gY mK jZ iY bG mJ jB mQ lY eJ bY : Nat) (bW aG jG bQ dG : Int32) (jY : Nat) (m_length qG uW eY aJ aB bU dN aR aE bJ aW bT gJ dU bL bR bO mY pW : Int32) : va_W := [(a_m, .inr (10, [.ref oJ, .int bW, .ref uD, .ref dY, .ref iJ, .ref lJ, .int aG, .ref jQ, .ref jR, .ref jW, .ref jK, .int jG, .ref pJ, .int bQ, .int dG, rdv jK jO jY, .int m_length, .int qG, .int uW, .int eY, .ref bM, .ref aY, .int aJ, .int aB, .ref jO, .int bU, .int dN, .int aR, .int aE, .int bJ, .int aW, .ref gR, .int bT, .ref gY, .ref mK, .int gJ, .ref jZ, .int dU, .ref iY, .ref bG, .int bL, .int bR, .int bO, .ref mJ, .ref jB, .ref mQ, .int mY, .int pW, .ref lY, .ref eJ, .ref bY]))]
noncomputable abbrev q_X10_end (dC : Nat → ClassId) (dI : Nat → Nat → Nat) (cI cC cZ cB cJ : ClassId) (A : Nat → Prop) (a_m oJ uD dY iJ lJ jQ jR jW jK pJ bM aY jO gR gY mK jZ iY bG mJ jB mQ lY eJ bY : Nat) (bW aG bQ : Int32) (jY : Nat) (m_length qG uW eY aJ aB bU dN aR aE bJ aW bT gJ dU bL bR bO mY pW : Int32) (post : Int32 → Int32 → Int32 → Prop) : Array Value → State → Outcome → State → Prop := va_Qi (fun (r : Int32) (u : Int32 × Int32) => post r u.1 u.2) (fun u t => gB (dC, dI) (tyl cI cC cZ cB cJ) A (wd_X10_end cI cC cZ cB cJ a_m oJ uD dY iJ lJ jQ jR jW jK pJ bM aY jO gR gY mK jZ iY bG mJ jB mQ lY eJ bY bW aG u.1 bQ u.2 jY m_length qG uW eY aJ aB bU dN aR aE bJ aW bT gJ dU bL bR bO mY pW) t) A
noncomputable abbrev rm_X10_end : Room := { frames := 1, cells := 0, slots := 0, locals := 22 }
noncomputable def wp_X10_end (post : Int32 → Int32 → Int32 → Prop) (p0 jG dG : Int32) : Prop := wp_X10_in (fun r_1 => (¬ r_1 = 0 → post 1 p0 0) ∧ (r_1 = 0 → post 0 jG 0)) p0 0 jG
set_option maxHeartbeats 4000000 in
set_option maxRecDepth 100000 in
theorem c_X10_end (l : Launch) (dC : Nat → ClassId) (dI : Nat → Nat → Nat) (cI cC cZ cB cJ : ClassId) (a_m oJ uD dY iJ lJ jQ jR jW jK pJ bM aY jO gR gY mK jZ iY bG mJ jB mQ lY eJ bY sz : Nat) (p0 bW aG jG bQ dG : Int32) (jY : Nat) (m_length qG uW eY aJ aB bU dN aR aE bJ aW bT gJ dU bL bR bO mY pW : Int32) (post : Int32 → Int32 → Int32 → Prop) (hw : wp_X10_end post p0 jG dG) : Met l yX10_end (gw yX10_end cX10_end 2 (some .boolean)) rm_X10_end (va_Pc [.ref a_m, .int p0] (gPre (dC, dI) (tyl cI cC cZ cB cJ) (wd_X10_end cI cC cZ cB cJ a_m oJ uD dY iJ lJ jQ jR jW jK pJ bM aY jO gR gY mK jZ iY bG mJ jB mQ lY eJ bY bW aG jG bQ dG jY m_length qG uW eY aJ aB bU dN aR aE bJ aW bT gJ dU bL bR bO mY pW) sz)) (q_X10_end dC dI cI cC cZ cB cJ (va_A (wd_X10_end cI cC cZ cB cJ a_m oJ uD dY iJ lJ jQ jR jW jK pJ bM aY jO gR gY mK jZ iY bG mJ jB mQ lY eJ bY bW aG jG bQ dG jY m_length qG uW eY aJ aB bU dN aR aE bJ aW bT gJ dU bL bR bO mY pW) sz) a_m oJ uD dY iJ lJ jQ jR jW jK pJ bM aY jO gR gY mK jZ iY bG mJ jB mQ lY eJ bY bW aG bQ jY m_length qG uW eY aJ aB bU dN aR aE bJ aW bT gJ dU bL bR bO mY pW post) 0 0 (va_A (wd_X10_end cI cC cZ cB cJ a_m oJ uD dY iJ lJ jQ jR jW jK pJ bM aY jO gR gY mK jZ iY bG mJ jB mQ lY eJ bY bW aG jG bQ dG jY m_length qG uW eY aJ aB bU dN aR aE bJ aW bT gJ dU bL bR bO mY pW) sz) := by
  refine g_enter (own := RX10) (dC, dI) (tyl cI cC cZ cB cJ) (wd_X10_end cI cC cZ cB cJ a_m oJ uD dY iJ lJ jQ jR jW jK pJ bM aY jO gR gY mK jZ iY bG mJ jB mQ lY eJ bY bW aG jG bQ dG jY m_length qG uW eY aJ aB bU dN aR aE bJ aW bT gJ dU bL bR bO mY pW) sz [.ref a_m, .int p0] (fun A => q_X10_end dC dI cI cC cZ cB cJ A a_m oJ uD dY iJ lJ jQ jR jW jK pJ bM aY jO gR gY mK jZ iY bG mJ jB mQ lY eJ bY bW aG bQ jY m_length qG uW eY aJ aB bU dN aR aE bJ aW bT gJ dU bL bR bO mY pW post) pn_RX10 rfl (Nat.le_of_ble_eq_true rfl) ?_
  intro p e s m args below meth c A H locs ls C0 hP hD hS hl
  have hl : lv_has ls 2 [(0, .ref a_m), (1, .int p0)] := hl
  obtain ⟨hx, hb, hr, hml, hown, hts, hlocks, hA, hK, hN, tL, tM, hZL, hTL, hZM, hTM, hZX⟩ := id C0
  have hp := hw
  unfold wp_X10_end at hp
  refine lv_aload_n hx hb eX10_end_0.1 rfl (lv_at hl 0 rfl) ?_
  refine lv_iconst (v := 0) hx hb eX10_end_0.2.1 ic_0 ?_
  refine va_put (D := (dC, dI)) (ci := 10) (v := .int 0) (ty := .int) (C := RX10) (T := TX10) (N := 51) hx hb hts i_X10 tyX10 tyX10_ok nmX10 hown hK hP hD hS 0 rfl rfl 14 (Nat.le_of_ble_eq_true rfl) (hts _ q_638) (fun _ h9 => h9) rfl (tyX10_ok 14 (Nat.le_of_ble_eq_true rfl)) rfl rfl (Nat.le_of_ble_eq_true rfl) eX10_end_0.2.2.1 (fun H locs hP hD hS => ?_)
  have hP : va_P (dC, dI) classes (wd_X10_end cI cC cZ cB cJ a_m oJ uD dY iJ lJ jQ jR jW jK pJ bM aY jO gR gY mK jZ iY bG mJ jB mQ lY eJ bY bW aG jG bQ 0 jY m_length qG uW eY aJ aB bU dN aR aE bJ aW bT gJ dU bL bR bO mY pW) H := hP
  have hD : va_D A (wd_X10_end cI cC cZ cB cJ a_m oJ uD dY iJ lJ jQ jR jW jK pJ bM aY jO gR gY mK jZ iY bG mJ jB mQ lY eJ bY bW aG jG bQ 0 jY m_length qG uW eY aJ aB bU dN aR aE bJ aW bT gJ dU bL bR bO mY pW) := hD
  refine lv_iload_n hx hb eX10_end_0.2.2.2.1 rfl (lv_at hl 1 rfl) ?_
  refine lv_iconst (v := 0) hx hb eX10_end_0.2.2.2.2.1 ic_0 ?_
  refine lv_aload_n hx hb eX10_end_0.2.2.2.2.2.1 rfl (lv_at hl 0 rfl) ?_
  refine va_get (D := (dC, dI)) (ci := 10) (v := .int jG) (C := RX10) (T := TX10) (N := 51) hx hb hts i_X10 hown hK hP 0 rfl rfl 11 (Nat.le_of_ble_eq_true rfl) (hts _ q_639) (fun _ h9 => h9) rfl eX10_end_0.2.2.2.2.2.2.1 ?_
  refine g_calli (wc := (wd_X10_in cI cC cZ cB cJ)) hP hD hS hA [] [0] rfl rfl rfl rfl (g_runS (As := [.int p0, .int 0, .int jG]) (rest := []) C0 hP hD hS [] rfl rfl (c_X10_in l dC dI cI cC cZ cB cJ H.size p0 0 jG _ hp) q_641 q_644 q_643 q_642 h_X10_in rfl rfl ⟨Nat.le_of_ble_eq_true rfl, Nat.le_of_ble_eq_true rfl⟩ rfl rfl hl.1 rfl (lv_room (Nat.le_of_ble_eq_true rfl)) eX10_end_0.2.2.2.2.2.2.2.1 ⟨Nat.zero_le _, Nat.zero_le _⟩) (fun r_1 u H locs hp hP hD hS => ?_)
  have hPD := PDs (ws' := (wd_X10_end cI cC cZ cB cJ a_m oJ uD dY iJ lJ jQ jR jW jK pJ bM aY jO gR gY mK jZ iY bG mJ jB mQ lY eJ bY bW aG jG bQ 0 jY m_length qG uW eY aJ aB bU dN aR aE bJ aW bT gJ dU bL bR bO mY pW)) hP hD [0] (by decide) rfl
  have hP := hPD.1
  have hD := hPD.2
  refine lv_if_ne (tgt := 19) hx hb eX10_end_0.2.2.2.2.2.2.2.2.1 (by decide) (fun hc => ?_) (fun hc => ?_)
  · have hp := hp.1 hc
    refine lv_aload_n hx hb eX10_end_0.2.2.2.2.2.2.2.2.2.2.2.1 rfl (lv_at hl 0 rfl) ?_
    refine lv_iload_n hx hb eX10_end_0.2.2.2.2.2.2.2.2.2.2.2.2.1 rfl (lv_at hl 1 rfl) ?_
    refine va_put (D := (dC, dI)) (ci := 10) (v := .int p0) (ty := .int) (C := RX10) (T := TX10) (N := 51) hx hb hts i_X10 tyX10 tyX10_ok nmX10 hown hK hP hD hS 0 rfl rfl 11 (Nat.le_of_ble_eq_true rfl) (hts _ q_639) (fun _ h9 => h9) rfl (tyX10_ok 11 (Nat.le_of_ble_eq_true rfl)) rfl rfl (Nat.le_of_ble_eq_true rfl) eX10_end_0.2.2.2.2.2.2.2.2.2.2.2.2.2.1 (fun H locs hP hD hS => ?_)
    have hP : va_P (dC, dI) classes (wd_X10_end cI cC cZ cB cJ a_m oJ uD dY iJ lJ jQ jR jW jK pJ bM aY jO gR gY mK jZ iY bG mJ jB mQ lY eJ bY bW aG p0 bQ 0 jY m_length qG uW eY aJ aB bU dN aR aE bJ aW bT gJ dU bL bR bO mY pW) H := hP
    have hD : va_D A (wd_X10_end cI cC cZ cB cJ a_m oJ uD dY iJ lJ jQ jR jW jK pJ bM aY jO gR gY mK jZ iY bG mJ jB mQ lY eJ bY bW aG p0 bQ 0 jY m_length qG uW eY aJ aB bU dN aR aE bJ aW bT gJ dU bL bR bO mY pW) := hD
    refine lv_iconst (v := 1) hx hb eX10_end_0.2.2.2.2.2.2.2.2.2.2.2.2.2.2.1 ic_1 ?_
    exact W.zret (v := 1) hx hb hr rfl (fun t ht hW => ⟨⟨1, (p0, 0), rfl, hp, by rw [ht]; exact hP, va_K.moved hW.alike hK, hD⟩, hS.F ht⟩) hS.2.2 eX10_end_0.2.2.2.2.2.2.2.2.2.2.2.2.2.2.2
  · have hp := hp.2 hc
    refine lv_iconst (v := 0) hx hb eX10_end_0.2.2.2.2.2.2.2.2.2.1 ic_0 ?_
    exact W.zret (v := 0) hx hb hr rfl (fun t ht hW => ⟨⟨0, (jG, 0), rfl, hp, by rw [ht]; exact hP, va_K.moved hW.alike hK, hD⟩, hS.F ht⟩) hS.2.2 eX10_end_0.2.2.2.2.2.2.2.2.2.2.1
noncomputable abbrev wd_X10_begin (cI cC cZ cB cJ : ClassId) (a_m oJ uD dY iJ lJ jQ jR jW jK pJ bM aY jO gR gY mK jZ iY bG mJ jB mQ lY eJ bY : Nat) (bW aG jG bQ dG : Int32) (jY : Nat) (m_length qG uW eY aJ aB bU dN aR aE bJ aW bT gJ dU bL bR bO mY pW : Int32) : va_W := [(a_m, .inr (10, [.ref oJ, .int bW, .ref uD, .ref dY, .ref iJ, .ref lJ, .int aG, .ref jQ, .ref jR, .ref jW, .ref jK, .int jG, .ref pJ, .int bQ, .int dG, rdv jK jO jY, .int m_length, .int qG, .int uW, .int eY, .ref bM, .ref aY, .int aJ, .int aB, .ref jO, .int bU, .int dN, .int aR, .int aE, .int bJ, .int aW, .ref gR, .int bT, .ref gY, .ref mK, .int gJ, .ref jZ, .int dU, .ref iY, .ref bG, .int bL, .int bR, .int bO, .ref mJ, .ref jB, .ref mQ, .int mY, .int pW, .ref lY, .ref eJ, .ref bY]))]
noncomputable abbrev q_X10_begin (dC : Nat → ClassId) (dI : Nat → Nat → Nat) (cI cC cZ cB cJ : ClassId) (A : Nat → Prop) (a_m oJ uD dY iJ lJ jQ jR jW jK pJ bM aY jO gR gY mK jZ iY bG mJ jB mQ lY eJ bY : Nat) (bW aG jG bQ dG aJ aB bU dN aR aE bJ aW bT gJ dU bL bR bO mY pW : Int32) (post : Nat → Int32 → Int32 → Int32 → Int32 → Prop) : Array Value → State → Outcome → State → Prop := va_Qv (fun (u : Nat × Int32 × Int32 × Int32 × Int32) => post u.1 u.2.1 u.2.2.1 u.2.2.2.1 u.2.2.2.2) (fun u t => gB (dC, dI) (tyl cI cC cZ cB cJ) A (wd_X10_begin cI cC cZ cB cJ a_m oJ uD dY iJ lJ jQ jR jW jK pJ bM aY jO gR gY mK jZ iY bG mJ jB mQ lY eJ bY bW aG jG bQ dG u.1 u.2.1 u.2.2.1 u.2.2.2.1 u.2.2.2.2 aJ aB bU dN aR aE bJ aW bT gJ dU bL bR bO mY pW) t) A
noncomputable abbrev rm_X10_begin : Room := { frames := 0, cells := 0, slots := 0, locals := 0 }
noncomputable def wp_X10_begin (post : Nat → Int32 → Int32 → Int32 → Int32 → Prop) (p1 p2 : Int32) (jY : Nat) (m_length qG uW eY : Int32) : Prop := post 1 p1 p2 0 (-1)
set_option maxHeartbeats 4000000 in
set_option maxRecDepth 100000 in
theorem c_X10_begin (l : Launch) (dC : Nat → ClassId) (dI : Nat → Nat → Nat) (cI cC cZ cB cJ : ClassId) (a_m oJ uD dY iJ lJ jQ jR jW jK pJ bM aY jO gR gY mK jZ iY bG mJ jB mQ lY eJ bY sz : Nat) (p1 p2 bW aG jG bQ dG : Int32) (jY : Nat) (m_length qG uW eY aJ aB bU dN aR aE bJ aW bT gJ dU bL bR bO mY pW : Int32) (post : Nat → Int32 → Int32 → Int32 → Int32 → Prop) (hw : wp_X10_begin post p1 p2 jY m_length qG uW eY) : Met l yX10_begin (gw yX10_begin cX10_begin 4 none) rm_X10_begin (va_Pc [.ref a_m, .ref jK, .int p1, .int p2] (gPre (dC, dI) (tyl cI cC cZ cB cJ) (wd_X10_begin cI cC cZ cB cJ a_m oJ uD dY iJ lJ jQ jR jW jK pJ bM aY jO gR gY mK jZ iY bG mJ jB mQ lY eJ bY bW aG jG bQ dG jY m_length qG uW eY aJ aB bU dN aR aE bJ aW bT gJ dU bL bR bO mY pW) sz)) (q_X10_begin dC dI cI cC cZ cB cJ (va_A (wd_X10_begin cI cC cZ cB cJ a_m oJ uD dY iJ lJ jQ jR jW jK pJ bM aY jO gR gY mK jZ iY bG mJ jB mQ lY eJ bY bW aG jG bQ dG jY m_length qG uW eY aJ aB bU dN aR aE bJ aW bT gJ dU bL bR bO mY pW) sz) a_m oJ uD dY iJ lJ jQ jR jW jK pJ bM aY jO gR gY mK jZ iY bG mJ jB mQ lY eJ bY bW aG jG bQ dG aJ aB bU dN aR aE bJ aW bT gJ dU bL bR bO mY pW post) 0 0 (va_A (wd_X10_begin cI cC cZ cB cJ a_m oJ uD dY iJ lJ jQ jR jW jK pJ bM aY jO gR gY mK jZ iY bG mJ jB mQ lY eJ bY bW aG jG bQ dG jY m_length qG uW eY aJ aB bU dN aR aE bJ aW bT gJ dU bL bR bO mY pW) sz) := by
  refine g_enter (own := RX10) (dC, dI) (tyl cI cC cZ cB cJ) (wd_X10_begin cI cC cZ cB cJ a_m oJ uD dY iJ lJ jQ jR jW jK pJ bM aY jO gR gY mK jZ iY bG mJ jB mQ lY eJ bY bW aG jG bQ dG jY m_length qG uW eY aJ aB bU dN aR aE bJ aW bT gJ dU bL bR bO mY pW) sz [.ref a_m, .ref jK, .int p1, .int p2] (fun A => q_X10_begin dC dI cI cC cZ cB cJ A a_m oJ uD dY iJ lJ jQ jR jW jK pJ bM aY jO gR gY mK jZ iY bG mJ jB mQ lY eJ bY bW aG jG bQ dG aJ aB bU dN aR aE bJ aW bT gJ dU bL bR bO mY pW post) pn_RX10 rfl (Nat.le_of_ble_eq_true rfl) ?_
  intro p e s m args below meth c A H locs ls C0 hP hD hS hl
  have hl : lv_has ls 4 [(0, .ref a_m), (1, .ref jK), (2, .int p1), (3, .int p2)] := hl
  obtain ⟨hx, hb, hr, hml, hown, hts, hlocks, hA, hK, hN, tL, tM, hZL, hTL, hZM, hTM, hZX⟩ := id C0
  have hp := hw
  unfold wp_X10_begin at hp
  refine lv_aload_n hx hb eX10_begin_0.1 rfl (lv_at hl 0 rfl) ?_
  refine lv_aload_n hx hb eX10_begin_0.2.1 rfl (lv_at hl 1 rfl) ?_
  refine va_put (D := (dC, dI)) (ci := 10) (v := .ref jK) (ty := .array .byte) (C := RX10) (T := TX10) (N := 51) hx hb hts i_X10 tyX10 tyX10_ok nmX10 hown hK hP hD hS 0 rfl rfl 15 (Nat.le_of_ble_eq_true rfl) (hts _ q_645) (fun _ h9 => h9) rfl (tyX10_ok 15 (Nat.le_of_ble_eq_true rfl)) rfl rfl (Nat.le_of_ble_eq_true rfl) eX10_begin_0.2.2.1 (fun H locs hP hD hS => ?_)
  have hP : va_P (dC, dI) classes (wd_X10_begin cI cC cZ cB cJ a_m oJ uD dY iJ lJ jQ jR jW jK pJ bM aY jO gR gY mK jZ iY bG mJ jB mQ lY eJ bY bW aG jG bQ dG 1 m_length qG uW eY aJ aB bU dN aR aE bJ aW bT gJ dU bL bR bO mY pW) H := hP
  have hD : va_D A (wd_X10_begin cI cC cZ cB cJ a_m oJ uD dY iJ lJ jQ jR jW jK pJ bM aY jO gR gY mK jZ iY bG mJ jB mQ lY eJ bY bW aG jG bQ dG 1 m_length qG uW eY aJ aB bU dN aR aE bJ aW bT gJ dU bL bR bO mY pW) := hD
  refine lv_aload_n hx hb eX10_begin_0.2.2.2.1 rfl (lv_at hl 0 rfl) ?_
  refine lv_iload_n hx hb eX10_begin_0.2.2.2.2.1 rfl (lv_at hl 2 rfl) ?_
  refine va_put (D := (dC, dI)) (ci := 10) (v := .int p1) (ty := .int) (C := RX10) (T := TX10) (N := 51) hx hb hts i_X10 tyX10 tyX10_ok nmX10 hown hK hP hD hS 0 rfl rfl 16 (Nat.le_of_ble_eq_true rfl) (hts _ q_646) (fun _ h9 => h9) rfl (tyX10_ok 16 (Nat.le_of_ble_eq_true rfl)) rfl rfl (Nat.le_of_ble_eq_true rfl) eX10_begin_0.2.2.2.2.2.1 (fun H locs hP hD hS => ?_)
  have hP : va_P (dC, dI) classes (wd_X10_begin cI cC cZ cB cJ a_m oJ uD dY iJ lJ jQ jR jW jK pJ bM aY jO gR gY mK jZ iY bG mJ jB mQ lY eJ bY bW aG jG bQ dG 1 p1 qG uW eY aJ aB bU dN aR aE bJ aW bT gJ dU bL bR bO mY pW) H := hP
  have hD : va_D A (wd_X10_begin cI cC cZ cB cJ a_m oJ uD dY iJ lJ jQ jR jW jK pJ bM aY jO gR gY mK jZ iY bG mJ jB mQ lY eJ bY bW aG jG bQ dG 1 p1 qG uW eY aJ aB bU dN aR aE bJ aW bT gJ dU bL bR bO mY pW) := hD
  refine lv_aload_n hx hb eX10_begin_0.2.2.2.2.2.2.1 rfl (lv_at hl 0 rfl) ?_
  refine lv_iload_n hx hb eX10_begin_0.2.2.2.2.2.2.2.1 rfl (lv_at hl 3 rfl) ?_
  refine va_put (D := (dC, dI)) (ci := 10) (v := .int p2) (ty := .int) (C := RX10) (T := TX10) (N := 51) hx hb hts i_X10 tyX10 tyX10_ok nmX10 hown hK hP hD hS 0 rfl rfl 17 (Nat.le_of_ble_eq_true rfl) (hts _ q_647) (fun _ h9 => h9) rfl (tyX10_ok 17 (Nat.le_of_ble_eq_true rfl)) rfl rfl (Nat.le_of_ble_eq_true rfl) eX10_begin_0.2.2.2.2.2.2.2.2.1 (fun H locs hP hD hS => ?_)
  have hP : va_P (dC, dI) classes (wd_X10_begin cI cC cZ cB cJ a_m oJ uD dY iJ lJ jQ jR jW jK pJ bM aY jO gR gY mK jZ iY bG mJ jB mQ lY eJ bY bW aG jG bQ dG 1 p1 p2 uW eY aJ aB bU dN aR aE bJ aW bT gJ dU bL bR bO mY pW) H := hP
  have hD : va_D A (wd_X10_begin cI cC cZ cB cJ a_m oJ uD dY iJ lJ jQ jR jW jK pJ bM aY jO gR gY mK jZ iY bG mJ jB mQ lY eJ bY bW aG jG bQ dG 1 p1 p2 uW eY aJ aB bU dN aR aE bJ aW bT gJ dU bL bR bO mY pW) := hD
  refine lv_aload_n hx hb eX10_begin_0.2.2.2.2.2.2.2.2.2.1 rfl (lv_at hl 0 rfl) ?_
  refine lv_iconst (v := 0) hx hb eX10_begin_0.2.2.2.2.2.2.2.2.2.2.1 ic_0 ?_
  refine va_put (D := (dC, dI)) (ci := 10) (v := .int 0) (ty := .int) (C := RX10) (T := TX10) (N := 51) hx hb hts i_X10 tyX10 tyX10_ok nmX10 hown hK hP hD hS 0 rfl rfl 18 (Nat.le_of_ble_eq_true rfl) (hts _ q_648) (fun _ h9 => h9) rfl (tyX10_ok 18 (Nat.le_of_ble_eq_true rfl)) rfl rfl (Nat.le_of_ble_eq_true rfl) eX10_begin_0.2.2.2.2.2.2.2.2.2.2.2.1 (fun H locs hP hD hS => ?_)
  have hP : va_P (dC, dI) classes (wd_X10_begin cI cC cZ cB cJ a_m oJ uD dY iJ lJ jQ jR jW jK pJ bM aY jO gR gY mK jZ iY bG mJ jB mQ lY eJ bY bW aG jG bQ dG 1 p1 p2 0 eY aJ aB bU dN aR aE bJ aW bT gJ dU bL bR bO mY pW) H := hP
  have hD : va_D A (wd_X10_begin cI cC cZ cB cJ a_m oJ uD dY iJ lJ jQ jR jW jK pJ bM aY jO gR gY mK jZ iY bG mJ jB mQ lY eJ bY bW aG jG bQ dG 1 p1 p2 0 eY aJ aB bU dN aR aE bJ aW bT gJ dU bL bR bO mY pW) := hD
  refine lv_aload_n hx hb eX10_begin_0.2.2.2.2.2.2.2.2.2.2.2.2.1 rfl (lv_at hl 0 rfl) ?_
  refine lv_iconst (v := (-1)) hx hb eX10_begin_0.2.2.2.2.2.2.2.2.2.2.2.2.2.1 ic_m1 ?_
  refine va_put (D := (dC, dI)) (ci := 10) (v := .int (-1)) (ty := .int) (C := RX10) (T := TX10) (N := 51) hx hb hts i_X10 tyX10 tyX10_ok nmX10 hown hK hP hD hS 0 rfl rfl 19 (Nat.le_of_ble_eq_true rfl) (hts _ q_649) (fun _ h9 => h9) rfl (tyX10_ok 19 (Nat.le_of_ble_eq_true rfl)) rfl rfl (Nat.le_of_ble_eq_true rfl) eX10_begin_0.2.2.2.2.2.2.2.2.2.2.2.2.2.2.1 (fun H locs hP hD hS => ?_)
  have hP : va_P (dC, dI) classes (wd_X10_begin cI cC cZ cB cJ a_m oJ uD dY iJ lJ jQ jR jW jK pJ bM aY jO gR gY mK jZ iY bG mJ jB mQ lY eJ bY bW aG jG bQ dG 1 p1 p2 0 (-1) aJ aB bU dN aR aE bJ aW bT gJ dU bL bR bO mY pW) H := hP
  have hD : va_D A (wd_X10_begin cI cC cZ cB cJ a_m oJ uD dY iJ lJ jQ jR jW jK pJ bM aY jO gR gY mK jZ iY bG mJ jB mQ lY eJ bY bW aG jG bQ dG 1 p1 p2 0 (-1) aJ aB bU dN aR aE bJ aW bT gJ dU bL bR bO mY pW) := hD
  exact W.vret hx hb hr (fun t ht hW => ⟨⟨(1, p1, p2, 0, (-1)), rfl, hp, by rw [ht]; exact hP, va_K.moved hW.alike hK, hD⟩, hS.F ht⟩) hS.2.2 eX10_begin_0.2.2.2.2.2.2.2.2.2.2.2.2.2.2.2
noncomputable abbrev wd_X10_fine (cI cC cZ cB cJ : ClassId) (a_m oJ uD dY iJ lJ jQ jR jW jK pJ bM aY jO gR gY mK jZ iY bG mJ jB mQ lY eJ bY : Nat) (bW aG jG bQ dG : Int32) (jY : Nat) (m_length qG uW eY aJ aB bU dN aR aE bJ aW bT gJ dU bL bR bO mY pW : Int32) : va_W := [(a_m, .inr (10, [.ref oJ, .int bW, .ref uD, .ref dY, .ref iJ, .ref lJ, .int aG, .ref jQ, .ref jR, .ref jW, .ref jK, .int jG, .ref pJ, .int bQ, .int dG, rdv jK jO jY, .int m_length, .int qG, .int uW, .int eY, .ref bM, .ref aY, .int aJ, .int aB, .ref jO, .int bU, .int dN, .int aR, .int aE, .int bJ, .int aW, .ref gR, .int bT, .ref gY, .ref mK, .int gJ, .ref jZ, .int dU, .ref iY, .ref bG, .int bL, .int bR, .int bO, .ref mJ, .ref jB, .ref mQ, .int mY, .int pW, .ref lY, .ref eJ, .ref bY]))]
noncomputable abbrev q_X10_fine (dC : Nat → ClassId) (dI : Nat → Nat → Nat) (cI cC cZ cB cJ : ClassId) (A : Nat → Prop) (a_m oJ uD dY iJ lJ jQ jR jW jK pJ bM aY jO gR gY mK jZ iY bG mJ jB mQ lY eJ bY : Nat) (bW aG jG bQ dG : Int32) (jY : Nat) (m_length qG uW eY aJ aB bU dN aR aE bJ aW bT gJ dU bL bR bO mY pW : Int32) (post : Int32 → Prop) : Array Value → State → Outcome → State → Prop := va_Qi (fun (r : Int32) (u : Unit) => post r) (fun u t => gB (dC, dI) (tyl cI cC cZ cB cJ) A (wd_X10_fine cI cC cZ cB cJ a_m oJ uD dY iJ lJ jQ jR jW jK pJ bM aY jO gR gY mK jZ iY bG mJ jB mQ lY eJ bY bW aG jG bQ dG jY m_length qG uW eY aJ aB bU dN aR aE bJ aW bT gJ dU bL bR bO mY pW) t) A
noncomputable abbrev rm_X10_fine : Room := { frames := 0, cells := 0, slots := 0, locals := 0 }
noncomputable def wp_X10_fine (post : Int32 → Prop) (eY : Int32) : Prop := (¬ eY = (-1) → post 0) ∧ (eY = (-1) → post 1)
set_option maxHeartbeats 4000000 in
set_option maxRecDepth 100000 in
theorem c_X10_fine (l : Launch) (dC : Nat → ClassId) (dI : Nat → Nat → Nat) (cI cC cZ cB cJ : ClassId) (a_m oJ uD dY iJ lJ jQ jR jW jK pJ bM aY jO gR gY mK jZ iY bG mJ jB mQ lY eJ bY sz : Nat) (bW aG jG bQ dG : Int32) (jY : Nat) (m_length qG uW eY aJ aB bU dN aR aE bJ aW bT gJ dU bL bR bO mY pW : Int32) (post : Int32 → Prop) (hw : wp_X10_fine post eY) : Met l yX10_fine (gw yX10_fine cX10_fine 1 (some .boolean)) rm_X10_fine (va_Pc [.ref a_m] (gPre (dC, dI) (tyl cI cC cZ cB cJ) (wd_X10_fine cI cC cZ cB cJ a_m oJ uD dY iJ lJ jQ jR jW jK pJ bM aY jO gR gY mK jZ iY bG mJ jB mQ lY eJ bY bW aG jG bQ dG jY m_length qG uW eY aJ aB bU dN aR aE bJ aW bT gJ dU bL bR bO mY pW) sz)) (q_X10_fine dC dI cI cC cZ cB cJ (va_A (wd_X10_fine cI cC cZ cB cJ a_m oJ uD dY iJ lJ jQ jR jW jK pJ bM aY jO gR gY mK jZ iY bG mJ jB mQ lY eJ bY bW aG jG bQ dG jY m_length qG uW eY aJ aB bU dN aR aE bJ aW bT gJ dU bL bR bO mY pW) sz) a_m oJ uD dY iJ lJ jQ jR jW jK pJ bM aY jO gR gY mK jZ iY bG mJ jB mQ lY eJ bY bW aG jG bQ dG jY m_length qG uW eY aJ aB bU dN aR aE bJ aW bT gJ dU bL bR bO mY pW post) 0 0 (va_A (wd_X10_fine cI cC cZ cB cJ a_m oJ uD dY iJ lJ jQ jR jW jK pJ bM aY jO gR gY mK jZ iY bG mJ jB mQ lY eJ bY bW aG jG bQ dG jY m_length qG uW eY aJ aB bU dN aR aE bJ aW bT gJ dU bL bR bO mY pW) sz) := by
  refine g_enter (own := RX10) (dC, dI) (tyl cI cC cZ cB cJ) (wd_X10_fine cI cC cZ cB cJ a_m oJ uD dY iJ lJ jQ jR jW jK pJ bM aY jO gR gY mK jZ iY bG mJ jB mQ lY eJ bY bW aG jG bQ dG jY m_length qG uW eY aJ aB bU dN aR aE bJ aW bT gJ dU bL bR bO mY pW) sz [.ref a_m] (fun A => q_X10_fine dC dI cI cC cZ cB cJ A a_m oJ uD dY iJ lJ jQ jR jW jK pJ bM aY jO gR gY mK jZ iY bG mJ jB mQ lY eJ bY bW aG jG bQ dG jY m_length qG uW eY aJ aB bU dN aR aE bJ aW bT gJ dU bL bR bO mY pW post) pn_RX10 rfl (Nat.le_of_ble_eq_true rfl) ?_
  intro p e s m args below meth c A H locs ls C0 hP hD hS hl
  have hl : lv_has ls 1 [(0, .ref a_m)] := hl
  obtain ⟨hx, hb, hr, hml, hown, hts, hlocks, hA, hK, hN, tL, tM, hZL, hTL, hZM, hTM, hZX⟩ := id C0
  have hp := hw
  unfold wp_X10_fine at hp
  refine lv_aload_n hx hb eX10_fine_0.1 rfl (lv_at hl 0 rfl) ?_
  refine va_get (D := (dC, dI)) (ci := 10) (v := .int eY) (C := RX10) (T := TX10) (N := 51) hx hb hts i_X10 hown hK hP 0 rfl rfl 19 (Nat.le_of_ble_eq_true rfl) (hts _ q_649) (fun _ h9 => h9) rfl eX10_fine_0.2.1 ?_
  refine lv_iconst (v := (-1)) hx hb eX10_fine_0.2.2.1 ic_m1 ?_
  refine lv_icmp_ne (tgt := 12) hx hb eX10_fine_0.2.2.2.1 (by decide) (fun hc => ?_) (fun hc => ?_)
  · have hp := hp.1 hc
    refine lv_iconst (v := 0) hx hb eX10_fine_0.2.2.2.2.2.2.1 ic_0 ?_
    exact W.zret (v := 0) hx hb hr rfl (fun t ht hW => ⟨⟨0, (), rfl, hp, by rw [ht]; exact hP, va_K.moved hW.alike hK, hD⟩, hS.F ht⟩) hS.2.2 eX10_fine_0.2.2.2.2.2.2.2
  · have hp := hp.2 hc
    refine lv_iconst (v := 1) hx hb eX10_fine_0.2.2.2.2.1 ic_1 ?_
    refine lv_goto (tgt := 13) hx hb eX10_fine_0.2.2.2.2.2.1 (by decide) ?_
    exact W.zret (v := 1) hx hb hr rfl (fun t ht hW => ⟨⟨1, (), rfl, hp, by rw [ht]; exact hP, va_K.moved hW.alike hK, hD⟩, hS.F ht⟩) hS.2.2 eX10_fine_0.2.2.2.2.2.2.2
noncomputable abbrev wd_X10_here (cI cC cZ cB cJ : ClassId) (a_m oJ uD dY iJ lJ jQ jR jW jK pJ bM aY jO gR gY mK jZ iY bG mJ jB mQ lY eJ bY : Nat) (bW aG jG bQ dG : Int32) (jY : Nat) (m_length qG uW eY aJ aB bU dN aR aE bJ aW bT gJ dU bL bR bO mY pW : Int32) (rG rQ : Nat → Int32) : va_W := [(a_m, .inr (10, [.ref oJ, .int bW, .ref uD, .ref dY, .ref iJ, .ref lJ, .int aG, .ref jQ, .ref jR, .ref jW, .ref jK, .int jG, .ref pJ, .int bQ, .int dG, rdv jK jO jY, .int m_length, .int qG, .int uW, .int eY, .ref bM, .ref aY, .int aJ, .int aB, .ref jO, .int bU, .int dN, .int aR, .int aE, .int bJ, .int aW, .ref gR, .int bT, .ref gY, .ref mK, .int gJ, .ref jZ, .int dU, .ref iY, .ref bG, .int bL, .int bR, .int bO, .ref mJ, .ref jB, .ref mQ, .int mY, .int pW, .ref lY, .ref eJ, .ref bY])), (jK, .inl (cB, 80, .inl rG)), (jO, .inl (cB, 40, .inl rQ))]
noncomputable abbrev q_X10_here (dC : Nat → ClassId) (dI : Nat → Nat → Nat) (cI cC cZ cB cJ : ClassId) (A : Nat → Prop) (a_m oJ uD dY iJ lJ jQ jR jW jK pJ bM aY jO gR gY mK jZ iY bG mJ jB mQ lY eJ bY : Nat) (bW aG jG bQ dG : Int32) (jY : Nat) (m_length qG uW eY aJ aB bU dN aR aE bJ aW bT gJ dU bL bR bO mY pW : Int32) (rG rQ : Nat → Int32) (post : Int32 → Prop) : Array Value → State → Outcome → State → Prop := va_Qi (fun (r : Int32) (u : Unit) => post r) (fun u t => gB (dC, dI) (tyl cI cC cZ cB cJ) A (wd_X10_here cI cC cZ cB cJ a_m oJ uD dY iJ lJ jQ jR jW jK pJ bM aY jO gR gY mK jZ iY bG mJ jB mQ lY eJ bY bW aG jG bQ dG jY m_length qG uW eY aJ aB bU dN aR aE bJ aW bT gJ dU bL bR bO mY pW rG rQ) t) A
noncomputable abbrev rm_X10_here : Room := { frames := 0, cells := 0, slots := 0, locals := 0 }
noncomputable def wp_X10_here (post : Int32 → Prop) (jY : Nat) (m_length qG uW : Int32) (rG rQ : Nat → Int32) : Prop := (m_length ≤ uW → post (-1)) ∧ (¬ m_length ≤ uW → (qG ≤ uW → post (-1)) ∧ (¬ qG ≤ uW → (jY = 1 ∧ vp_in uW 80 ∧ ∀ v_1 : Int32, v_1 = rG uW.toNatClampNeg → ∀ v_2 : Int32, v_2 = v_1 &&& 255 → post v_2) ∨ (jY = 2 ∧ vp_in uW 40 ∧ ∀ v_3 : Int32, v_3 = rQ uW.toNatClampNeg → ∀ v_4 : Int32, v_4 = v_3 &&& 255 → post v_4)))
set_option maxHeartbeats 4000000 in
set_option maxRecDepth 100000 in
theorem c_X10_here (l : Launch) (dC : Nat → ClassId) (dI : Nat → Nat → Nat) (cI cC cZ cB cJ : ClassId) (a_m oJ uD dY iJ lJ jQ jR jW jK pJ bM aY jO gR gY mK jZ iY bG mJ jB mQ lY eJ bY sz : Nat) (bW aG jG bQ dG : Int32) (jY : Nat) (m_length qG uW eY aJ aB bU dN aR aE bJ aW bT gJ dU bL bR bO mY pW : Int32) (rG rQ : Nat → Int32) (post : Int32 → Prop) (hw : wp_X10_here post jY m_length qG uW rG rQ) : Met l yX10_here (gw yX10_here cX10_here 1 (some .int)) rm_X10_here (va_Pc [.ref a_m] (gPre (dC, dI) (tyl cI cC cZ cB cJ) (wd_X10_here cI cC cZ cB cJ a_m oJ uD dY iJ lJ jQ jR jW jK pJ bM aY jO gR gY mK jZ iY bG mJ jB mQ lY eJ bY bW aG jG bQ dG jY m_length qG uW eY aJ aB bU dN aR aE bJ aW bT gJ dU bL bR bO mY pW rG rQ) sz)) (q_X10_here dC dI cI cC cZ cB cJ (va_A (wd_X10_here cI cC cZ cB cJ a_m oJ uD dY iJ lJ jQ jR jW jK pJ bM aY jO gR gY mK jZ iY bG mJ jB mQ lY eJ bY bW aG jG bQ dG jY m_length qG uW eY aJ aB bU dN aR aE bJ aW bT gJ dU bL bR bO mY pW rG rQ) sz) a_m oJ uD dY iJ lJ jQ jR jW jK pJ bM aY jO gR gY mK jZ iY bG mJ jB mQ lY eJ bY bW aG jG bQ dG jY m_length qG uW eY aJ aB bU dN aR aE bJ aW bT gJ dU bL bR bO mY pW rG rQ post) 0 0 (va_A (wd_X10_here cI cC cZ cB cJ a_m oJ uD dY iJ lJ jQ jR jW jK pJ bM aY jO gR gY mK jZ iY bG mJ jB mQ lY eJ bY bW aG jG bQ dG jY m_length qG uW eY aJ aB bU dN aR aE bJ aW bT gJ dU bL bR bO mY pW rG rQ) sz) := by
  refine g_enter (own := RX10) (dC, dI) (tyl cI cC cZ cB cJ) (wd_X10_here cI cC cZ cB cJ a_m oJ uD dY iJ lJ jQ jR jW jK pJ bM aY jO gR gY mK jZ iY bG mJ jB mQ lY eJ bY bW aG jG bQ dG jY m_length qG uW eY aJ aB bU dN aR aE bJ aW bT gJ dU bL bR bO mY pW rG rQ) sz [.ref a_m] (fun A => q_X10_here dC dI cI cC cZ cB cJ A a_m oJ uD dY iJ lJ jQ jR jW jK pJ bM aY jO gR gY mK jZ iY bG mJ jB mQ lY eJ bY bW aG jG bQ dG jY m_length qG uW eY aJ aB bU dN aR aE bJ aW bT gJ dU bL bR bO mY pW rG rQ post) pn_RX10 rfl (Nat.le_of_ble_eq_true rfl) ?_
  intro p e s m args below meth c A H locs ls C0 hP hD hS hl
  have hl : lv_has ls 1 [(0, .ref a_m)] := hl
  obtain ⟨hx, hb, hr, hml, hown, hts, hlocks, hA, hK, hN, tL, tM, hZL, hTL, hZM, hTM, hZX⟩ := id C0
  have hp := hw
  unfold wp_X10_here at hp
  refine lv_aload_n hx hb eX10_here_0.1 rfl (lv_at hl 0 rfl) ?_
  refine va_get (D := (dC, dI)) (ci := 10) (v := .int uW) (C := RX10) (T := TX10) (N := 51) hx hb hts i_X10 hown hK hP 0 rfl rfl 18 (Nat.le_of_ble_eq_true rfl) (hts _ q_648) (fun _ h9 => h9) rfl eX10_here_0.2.1 ?_
  refine lv_aload_n hx hb eX10_here_0.2.2.1 rfl (lv_at hl 0 rfl) ?_
  refine va_get (D := (dC, dI)) (ci := 10) (v := .int m_length) (C := RX10) (T := TX10) (N := 51) hx hb hts i_X10 hown hK hP 0 rfl rfl 16 (Nat.le_of_ble_eq_true rfl) (hts _ q_646) (fun _ h9 => h9) rfl eX10_here_0.2.2.2.1 ?_
  refine lv_icmp_ge (tgt := 38) hx hb eX10_here_0.2.2.2.2.1 (by decide) (fun hc => ?_) (fun hc => ?_)
  · have hp := hp.1 hc
    refine lv_iconst (v := (-1)) hx hb eX10_here_34.2.2.1 ic_m1 ?_
    exact W.iret (v := (-1)) hx hb hr (fun t ht hW => ⟨⟨(-1), (), rfl, hp, by rw [ht]; exact hP, va_K.moved hW.alike hK, hD⟩, hS.F ht⟩) hS.2.2 eX10_here_34.2.2.2
  · have hp := hp.2 hc
    refine lv_aload_n hx hb eX10_here_0.2.2.2.2.2.1 rfl (lv_at hl 0 rfl) ?_
    refine va_get (D := (dC, dI)) (ci := 10) (v := .int uW) (C := RX10) (T := TX10) (N := 51) hx hb hts i_X10 hown hK hP 0 rfl rfl 18 (Nat.le_of_ble_eq_true rfl) (hts _ q_648) (fun _ h9 => h9) rfl eX10_here_0.2.2.2.2.2.2.1 ?_
    refine lv_aload_n hx hb eX10_here_0.2.2.2.2.2.2.2.1 rfl (lv_at hl 0 rfl) ?_
    refine va_get (D := (dC, dI)) (ci := 10) (v := .int qG) (C := RX10) (T := TX10) (N := 51) hx hb hts i_X10 hown hK hP 0 rfl rfl 17 (Nat.le_of_ble_eq_true rfl) (hts _ q_647) (fun _ h9 => h9) rfl eX10_here_0.2.2.2.2.2.2.2.2.1 ?_
    refine lv_icmp_ge (tgt := 38) hx hb eX10_here_0.2.2.2.2.2.2.2.2.2.1 (by decide) (fun hc => ?_) (fun hc => ?_)
    · have hp := hp.1 hc
      refine lv_iconst (v := (-1)) hx hb eX10_here_34.2.2.1 ic_m1 ?_
      exact W.iret (v := (-1)) hx hb hr (fun t ht hW => ⟨⟨(-1), (), rfl, hp, by rw [ht]; exact hP, va_K.moved hW.alike hK, hD⟩, hS.F ht⟩) hS.2.2 eX10_here_34.2.2.2
    · have hp := hp.2 hc
      refine lv_aload_n hx hb eX10_here_0.2.2.2.2.2.2.2.2.2.2.1 rfl (lv_at hl 0 rfl) ?_
      refine va_get (D := (dC, dI)) (ci := 10) (v := rdv jK jO jY) (C := RX10) (T := TX10) (N := 51) hx hb hts i_X10 hown hK hP 0 rfl rfl 15 (Nat.le_of_ble_eq_true rfl) (hts _ q_645) (fun _ h9 => h9) rfl eX10_here_0.2.2.2.2.2.2.2.2.2.2.2.1 ?_
      refine lv_aload_n hx hb eX10_here_0.2.2.2.2.2.2.2.2.2.2.2.2.1 rfl (lv_at hl 0 rfl) ?_
      refine va_get (D := (dC, dI)) (ci := 10) (v := .int uW) (C := RX10) (T := TX10) (N := 51) hx hb hts i_X10 hown hK hP 0 rfl rfl 18 (Nat.le_of_ble_eq_true rfl) (hts _ q_648) (fun _ h9 => h9) rfl eX10_here_0.2.2.2.2.2.2.2.2.2.2.2.2.2.1 ?_
      rcases hp with ⟨hk, hin, hp⟩ | ⟨hk, hin, hp⟩
      · refine W.eq (g2 := F0 m 30 ls (.int uW :: .ref jK :: [])) (by rw [hk]; rfl) ?_
        refine va_bald hx hb hK hP 1 3 rfl rfl hin eX10_here_0.2.2.2.2.2.2.2.2.2.2.2.2.2.2.1 ?_
        refine lv_topi (fun v_1 ev_1 => ?_)
        have hp := hp v_1 ev_1
        refine lv_sipush (v := 255) hx hb eX10_here_0.2.2.2.2.2.2.2.2.2.2.2.2.2.2.2 sp_255 ?_
        refine lv_iand hx hb eX10_here_34.1 ?_
        refine lv_topi (fun v_2 ev_2 => ?_)
        have hp := hp v_2 ev_2
        refine lv_goto (tgt := 39) hx hb eX10_here_34.2.1 (by decide) ?_
        exact W.iret (v := v_2) hx hb hr (fun t ht hW => ⟨⟨v_2, (), rfl, hp, by rw [ht]; exact hP, va_K.moved hW.alike hK, hD⟩, hS.F ht⟩) hS.2.2 eX10_here_34.2.2.2
      · refine W.eq (g2 := F0 m 30 ls (.int uW :: .ref jO :: [])) (by rw [hk]; rfl) ?_
        refine va_bald hx hb hK hP 2 3 rfl rfl hin eX10_here_0.2.2.2.2.2.2.2.2.2.2.2.2.2.2.1 ?_
        refine lv_topi (fun v_3 ev_3 => ?_)
        have hp := hp v_3 ev_3
        refine lv_sipush (v := 255) hx hb eX10_here_0.2.2.2.2.2.2.2.2.2.2.2.2.2.2.2 sp_255 ?_
        refine lv_iand hx hb eX10_here_34.1 ?_
        refine lv_topi (fun v_4 ev_4 => ?_)
        have hp := hp v_4 ev_4
        refine lv_goto (tgt := 39) hx hb eX10_here_34.2.1 (by decide) ?_
        exact W.iret (v := v_4) hx hb hr (fun t ht hW => ⟨⟨v_4, (), rfl, hp, by rw [ht]; exact hP, va_K.moved hW.alike hK, hD⟩, hS.F ht⟩) hS.2.2 eX10_here_34.2.2.2
noncomputable abbrev wd_X10_fault (cI cC cZ cB cJ : ClassId) (a_m oJ uD dY iJ lJ jQ jR jW jK pJ bM aY jO gR gY mK jZ iY bG mJ jB mQ lY eJ bY : Nat) (bW aG jG bQ dG : Int32) (jY : Nat) (m_length qG uW eY aJ aB bU dN aR aE bJ aW bT gJ dU bL bR bO mY pW : Int32) : va_W := [(a_m, .inr (10, [.ref oJ, .int bW, .ref uD, .ref dY, .ref iJ, .ref lJ, .int aG, .ref jQ, .ref jR, .ref jW, .ref jK, .int jG, .ref pJ, .int bQ, .int dG, rdv jK jO jY, .int m_length, .int qG, .int uW, .int eY, .ref bM, .ref aY, .int aJ, .int aB, .ref jO, .int bU, .int dN, .int aR, .int aE, .int bJ, .int aW, .ref gR, .int bT, .ref gY, .ref mK, .int gJ, .ref jZ, .int dU, .ref iY, .ref bG, .int bL, .int bR, .int bO, .ref mJ, .ref jB, .ref mQ, .int mY, .int pW, .ref lY, .ref eJ, .ref bY]))]
noncomputable abbrev q_X10_fault (dC : Nat → ClassId) (dI : Nat → Nat → Nat) (cI cC cZ cB cJ : ClassId) (A : Nat → Prop) (a_m oJ uD dY iJ lJ jQ jR jW jK pJ bM aY jO gR gY mK jZ iY bG mJ jB mQ lY eJ bY : Nat) (bW aG jG bQ dG : Int32) (jY : Nat) (m_length qG uW aJ aB bU dN aR aE bJ aW bT gJ dU bL bR bO mY pW : Int32) (post : Int32 → Prop) : Array Value → State → Outcome → State → Prop := va_Qv (fun (u : Int32) => post u) (fun u t => gB (dC, dI) (tyl cI cC cZ cB cJ) A (wd_X10_fault cI cC cZ cB cJ a_m oJ uD dY iJ lJ jQ jR jW jK pJ bM aY jO gR gY mK jZ iY bG mJ jB mQ lY eJ bY bW aG jG bQ dG jY m_length qG uW u aJ aB bU dN aR aE bJ aW bT gJ dU bL bR bO mY pW) t) A
noncomputable abbrev rm_X10_fault : Room := { frames := 1, cells := 0, slots := 0, locals := 20 }
noncomputable def wp_X10_fault (post : Int32 → Prop) (p0 eY : Int32) : Prop := wp_X10_fine (fun r_1 => (r_1 = 0 → post eY) ∧ (¬ r_1 = 0 → post p0)) eY
set_option maxHeartbeats 4000000 in
set_option maxRecDepth 100000 in
theorem c_X10_fault (l : Launch) (dC : Nat → ClassId) (dI : Nat → Nat → Nat) (cI cC cZ cB cJ : ClassId) (a_m oJ uD dY iJ lJ jQ jR jW jK pJ bM aY jO gR gY mK jZ iY bG mJ jB mQ lY eJ bY sz : Nat) (p0 bW aG jG bQ dG : Int32) (jY : Nat) (m_length qG uW eY aJ aB bU dN aR aE bJ aW bT gJ dU bL bR bO mY pW : Int32) (post : Int32 → Prop) (hw : wp_X10_fault post p0 eY) : Met l yX10_fault (gw yX10_fault cX10_fault 2 none) rm_X10_fault (va_Pc [.ref a_m, .int p0] (gPre (dC, dI) (tyl cI cC cZ cB cJ) (wd_X10_fault cI cC cZ cB cJ a_m oJ uD dY iJ lJ jQ jR jW jK pJ bM aY jO gR gY mK jZ iY bG mJ jB mQ lY eJ bY bW aG jG bQ dG jY m_length qG uW eY aJ aB bU dN aR aE bJ aW bT gJ dU bL bR bO mY pW) sz)) (q_X10_fault dC dI cI cC cZ cB cJ (va_A (wd_X10_fault cI cC cZ cB cJ a_m oJ uD dY iJ lJ jQ jR jW jK pJ bM aY jO gR gY mK jZ iY bG mJ jB mQ lY eJ bY bW aG jG bQ dG jY m_length qG uW eY aJ aB bU dN aR aE bJ aW bT gJ dU bL bR bO mY pW) sz) a_m oJ uD dY iJ lJ jQ jR jW jK pJ bM aY jO gR gY mK jZ iY bG mJ jB mQ lY eJ bY bW aG jG bQ dG jY m_length qG uW aJ aB bU dN aR aE bJ aW bT gJ dU bL bR bO mY pW post) 0 0 (va_A (wd_X10_fault cI cC cZ cB cJ a_m oJ uD dY iJ lJ jQ jR jW jK pJ bM aY jO gR gY mK jZ iY bG mJ jB mQ lY eJ bY bW aG jG bQ dG jY m_length qG uW eY aJ aB bU dN aR aE bJ aW bT gJ dU bL bR bO mY pW) sz) := by
  refine g_enter (own := RX10) (dC, dI) (tyl cI cC cZ cB cJ) (wd_X10_fault cI cC cZ cB cJ a_m oJ uD dY iJ lJ jQ jR jW jK pJ bM aY jO gR gY mK jZ iY bG mJ jB mQ lY eJ bY bW aG jG bQ dG jY m_length qG uW eY aJ aB bU dN aR aE bJ aW bT gJ dU bL bR bO mY pW) sz [.ref a_m, .int p0] (fun A => q_X10_fault dC dI cI cC cZ cB cJ A a_m oJ uD dY iJ lJ jQ jR jW jK pJ bM aY jO gR gY mK jZ iY bG mJ jB mQ lY eJ bY bW aG jG bQ dG jY m_length qG uW aJ aB bU dN aR aE bJ aW bT gJ dU bL bR bO mY pW post) pn_RX10 rfl (Nat.le_of_ble_eq_true rfl) ?_
  intro p e s m args below meth c A H locs ls C0 hP hD hS hl
  have hl : lv_has ls 2 [(0, .ref a_m), (1, .int p0)] := hl
  obtain ⟨hx, hb, hr, hml, hown, hts, hlocks, hA, hK, hN, tL, tM, hZL, hTL, hZM, hTM, hZX⟩ := id C0
  have hp := hw
  unfold wp_X10_fault at hp
  refine lv_aload_n hx hb eX10_fault_0.1 rfl (lv_at hl 0 rfl) ?_
  refine g_calli (wc := (wd_X10_fine cI cC cZ cB cJ a_m oJ uD dY iJ lJ jQ jR jW jK pJ bM aY jO gR gY mK jZ iY bG mJ jB mQ lY eJ bY bW aG jG bQ dG jY m_length qG uW eY aJ aB bU dN aR aE bJ aW bT gJ dU bL bR bO mY pW)) hP hD hS hA [0] [] rfl rfl rfl rfl (g_runV (As := []) (rest := []) C0 hP hD hS [0] rfl rfl 0 10 rfl rfl (c_X10_fine l dC dI cI cC cZ cB cJ a_m oJ uD dY iJ lJ jQ jR jW jK pJ bM aY jO gR gY mK jZ iY bG mJ jB mQ lY eJ bY H.size bW aG jG bQ dG jY m_length qG uW eY aJ aB bU dN aR aE bJ aW bT gJ dU bL bR bO mY pW _ hp) q_650 q_653 q_651 q_652 q_642 h_X10_fine rfl rfl ⟨Nat.le_of_ble_eq_true rfl, Nat.le_of_ble_eq_true rfl⟩ rfl rfl hl.1 rfl (lv_room (Nat.le_of_ble_eq_true rfl)) eX10_fault_0.2.1 ⟨Nat.zero_le _, Nat.zero_le _⟩) (fun r_1 u H locs hp hP hD hS => ?_)
  have hPD := PDs (ws' := (wd_X10_fault cI cC cZ cB cJ a_m oJ uD dY iJ lJ jQ jR jW jK pJ bM aY jO gR gY mK jZ iY bG mJ jB mQ lY eJ bY bW aG jG bQ dG jY m_length qG uW eY aJ aB bU dN aR aE bJ aW bT gJ dU bL bR bO mY pW)) hP hD [0] (by decide) rfl
  have hP := hPD.1
  have hD := hPD.2
  refine lv_if_eq (tgt := 12) hx hb eX10_fault_0.2.2.1 (by decide) (fun hc => ?_) (fun hc => ?_)
  · have hp := hp.1 hc
    exact W.vret hx hb hr (fun t ht hW => ⟨⟨eY, rfl, hp, by rw [ht]; exact hP, va_K.moved hW.alike hK, hD⟩, hS.F ht⟩) hS.2.2 eX10_fault_0.2.2.2.2.2.2
  · have hp := hp.2 hc
    refine lv_aload_n hx hb eX10_fault_0.2.2.2.1 rfl (lv_at hl 0 rfl) ?_
    refine lv_iload_n hx hb eX10_fault_0.2.2.2.2.1 rfl (lv_at hl 1 rfl) ?_
    refine va_put (D := (dC, dI)) (ci := 10) (v := .int p0) (ty := .int) (C := RX10) (T := TX10) (N := 51) hx hb hts i_X10 tyX10 tyX10_ok nmX10 hown hK hP hD hS 0 rfl rfl 19 (Nat.le_of_ble_eq_true rfl) (hts _ q_649) (fun _ h9 => h9) rfl (tyX10_ok 19 (Nat.le_of_ble_eq_true rfl)) rfl rfl (Nat.le_of_ble_eq_true rfl) eX10_fault_0.2.2.2.2.2.1 (fun H locs hP hD hS => ?_)
    have hP : va_P (dC, dI) classes (wd_X10_fault cI cC cZ cB cJ a_m oJ uD dY iJ lJ jQ jR jW jK pJ bM aY jO gR gY mK jZ iY bG mJ jB mQ lY eJ bY bW aG jG bQ dG jY m_length qG uW p0 aJ aB bU dN aR aE bJ aW bT gJ dU bL bR bO mY pW) H := hP
    have hD : va_D A (wd_X10_fault cI cC cZ cB cJ a_m oJ uD dY iJ lJ jQ jR jW jK pJ bM aY jO gR gY mK jZ iY bG mJ jB mQ lY eJ bY bW aG jG bQ dG jY m_length qG uW p0 aJ aB bU dN aR aE bJ aW bT gJ dU bL bR bO mY pW) := hD
    exact W.vret hx hb hr (fun t ht hW => ⟨⟨p0, rfl, hp, by rw [ht]; exact hP, va_K.moved hW.alike hK, hD⟩, hS.F ht⟩) hS.2.2 eX10_fault_0.2.2.2.2.2.2
noncomputable abbrev wd_X10_number (cI cC cZ cB cJ : ClassId) (a_m oJ uD dY iJ lJ jQ jR jW jK pJ bM aY jO gR gY mK jZ iY bG mJ jB mQ lY eJ bY : Nat) (bW aG jG bQ dG : Int32) (jY : Nat) (m_length qG uW eY aJ aB bU dN aR aE bJ aW bT gJ dU bL bR bO mY pW : Int32) (rG rQ : Nat → Int32) : va_W := [(a_m, .inr (10, [.ref oJ, .int bW, .ref uD, .ref dY, .ref iJ, .ref lJ, .int aG, .ref jQ, .ref jR, .ref jW, .ref jK, .int jG, .ref pJ, .int bQ, .int dG, rdv jK jO jY, .int m_length, .int qG, .int uW, .int eY, .ref bM, .ref aY, .int aJ, .int aB, .ref jO, .int bU, .int dN, .int aR, .int aE, .int bJ, .int aW, .ref gR, .int bT, .ref gY, .ref mK, .int gJ, .ref jZ, .int dU, .ref iY, .ref bG, .int bL, .int bR, .int bO, .ref mJ, .ref jB, .ref mQ, .int mY, .int pW, .ref lY, .ref eJ, .ref bY])), (jK, .inl (cB, 80, .inl rG)), (jO, .inl (cB, 40, .inl rQ))]
noncomputable abbrev q_X10_number (dC : Nat → ClassId) (dI : Nat → Nat → Nat) (cI cC cZ cB cJ : ClassId) (A : Nat → Prop) (a_m oJ uD dY iJ lJ jQ jR jW jK pJ bM aY jO gR gY mK jZ iY bG mJ jB mQ lY eJ bY : Nat) (bW aG jG bQ dG : Int32) (jY : Nat) (m_length qG aJ aB bU dN aR aE bJ aW bT gJ dU bL bR bO mY pW : Int32) (rG rQ : Nat → Int32) (post : Int32 → Int32 → Int32 → Prop) : Array Value → State → Outcome → State → Prop := va_Qi (fun (r : Int32) (u : Int32 × Int32) => post r u.1 u.2) (fun u t => gB (dC, dI) (tyl cI cC cZ cB cJ) A (wd_X10_number cI cC cZ cB cJ a_m oJ uD dY iJ lJ jQ jR jW jK pJ bM aY jO gR gY mK jZ iY bG mJ jB mQ lY eJ bY bW aG jG bQ dG jY m_length qG u.1 u.2 aJ aB bU dN aR aE bJ aW bT gJ dU bL bR bO mY pW rG rQ) t) A
noncomputable abbrev rm_X10_number : Room := { frames := 2, cells := 0, slots := 0, locals := 41 }
section S_X10_number
variable {p : Program} {l : Launch} {e : Env} {s : State} {m : MethodId} {args : Array Value} {below : List Frame} {meth : Method} {c : Code} {dC : Nat → ClassId} {dI : Nat → Nat → Nat} {cI cC cZ cB cJ : ClassId} {A : Nat → Prop} {a_m oJ uD dY iJ lJ jQ jR jW jK pJ bM aY jO gR gY mK jZ iY bG mJ jB mQ lY eJ bY : Nat} {bW aG jG bQ dG : Int32} {jY : Nat} {m_length qG aJ aB bU dN aR aE bJ aW bT gJ dU bL bR bO mY pW : Int32} {rG rQ : Nat → Int32} {post : Int32 → Int32 → Int32 → Prop}
noncomputable def ws_X10_number_66 (post : Int32 → Int32 → Int32 → Prop) (jY : Nat) (m_length qG : Int32) (rG rQ : Nat → Int32) (x2 x3 uW eY : Int32) : Prop := (¬ uW = x2 → post x3 uW eY) ∧ (uW = x2 → wp_X10_fault (fun m_wrong_2 => post x3 uW m_wrong_2) uW eY)
set_option maxHeartbeats 4000000 in
set_option maxRecDepth 100000 in
theorem ks_X10_number_66 (C0 : gc cX10_number (some .int) 4 RX10 (dC, dI) (tyl cI cC cZ cB cJ) A p s m args meth c) : ∀ (x2 x3 uW eY : Int32) (H : Heap) (locs : List Loc) (ls : Array Slot), (ws_X10_number_66 post jY m_length qG rG rQ) x2 x3 uW eY → va_P (dC, dI) classes (wd_X10_number cI cC cZ cB cJ a_m oJ uD dY iJ lJ jQ jR jW jK pJ bM aY jO gR gY mK jZ iY bG mJ jB mQ lY eJ bY bW aG jG bQ dG jY m_length qG uW eY aJ aB bU dN aR aE bJ aW bT gJ dU bL bR bO mY pW rG rQ) H → va_D A (wd_X10_number cI cC cZ cB cJ a_m oJ uD dY iJ lJ jQ jR jW jK pJ bM aY jO gR gY mK jZ iY bG mJ jB mQ lY eJ bY bW aG jG bQ dG jY m_length qG uW eY aJ aB bU dN aR aE bJ aW bT gJ dU bL bR bO mY pW rG rQ) → va_S A s.heap H locs → lv_has ls 4 [(0, .ref a_m), (2, .int x2), (3, .int x3)] → W p l e rm_X10_number s m args below meth c H locs 0 0 (MQ below (q_X10_number dC dI cI cC cZ cB cJ A a_m oJ uD dY iJ lJ jQ jR jW jK pJ bM aY jO gR gY mK jZ iY bG mJ jB mQ lY eJ bY bW aG jG bQ dG jY m_length qG aJ aB bU dN aR aE bJ aW bT gJ dU bL bR bO mY pW rG rQ post) args s 0 0 A) (F0 m 66 ls []) := by
  obtain ⟨hx, hb, hr, hml, hown, hts, hlocks, hA, hK, hN, tL, tM, hZL, hTL, hZM, hTM, hZX⟩ := id C0
  intro x2 x3 uW eY H locs ls hp hP hD hS hl
  unfold ws_X10_number_66 at hp
  refine lv_aload_n hx hb eX10_number_54.2.2.2.2.2.2.1 rfl (lv_at hl 0 rfl) ?_
  refine va_get (D := (dC, dI)) (ci := 10) (v := .int uW) (C := RX10) (T := TX10) (N := 51) hx hb hts i_X10 hown hK hP 0 rfl rfl 18 (Nat.le_of_ble_eq_true rfl) (hts _ q_648) (fun _ h9 => h9) rfl eX10_number_54.2.2.2.2.2.2.2.1 ?_
  refine lv_iload_n hx hb eX10_number_54.2.2.2.2.2.2.2.2.1 rfl (lv_at hl 1 rfl) ?_
  refine lv_icmp_ne (tgt := 82) hx hb eX10_number_54.2.2.2.2.2.2.2.2.2.1 (by decide) (fun hc => ?_) (fun hc => ?_)
  · have hp := hp.1 hc
    refine lv_iload_n hx hb eX10_number_54.2.2.2.2.2.2.2.2.2.2.2.2.2.2.1 rfl (lv_at hl 2 rfl) ?_
    exact W.iret (v := x3) hx hb hr (fun t ht hW => ⟨⟨x3, (uW, eY), rfl, hp, by rw [ht]; exact hP, va_K.moved hW.alike hK, hD⟩, hS.F ht⟩) hS.2.2 eX10_number_54.2.2.2.2.2.2.2.2.2.2.2.2.2.2.2
  · have hp := hp.2 hc
    refine lv_aload_n hx hb eX10_number_54.2.2.2.2.2.2.2.2.2.2.1 rfl (lv_at hl 0 rfl) ?_
    refine lv_aload_n hx hb eX10_number_54.2.2.2.2.2.2.2.2.2.2.2.1 rfl (lv_at hl 0 rfl) ?_
    refine va_get (D := (dC, dI)) (ci := 10) (v := .int uW) (C := RX10) (T := TX10) (N := 51) hx hb hts i_X10 hown hK hP 0 rfl rfl 18 (Nat.le_of_ble_eq_true rfl) (hts _ q_648) (fun _ h9 => h9) rfl eX10_number_54.2.2.2.2.2.2.2.2.2.2.2.2.1 ?_
    have hm := mgk (wc := (wd_X10_fault cI cC cZ cB cJ a_m oJ uD dY iJ lJ jQ jR jW jK pJ bM aY jO gR gY mK jZ iY bG mJ jB mQ lY eJ bY bW aG jG bQ dG jY m_length qG uW eY aJ aB bU dN aR aE bJ aW bT gJ dU bL bR bO mY pW)) hP aGm 3 rfl rfl rfl
    refine g_callv hP hD hS hA (mixT aGm) (mixF aGm) hm.1 hm.2 (nd_F _) (dis_g _) (g_runV (As := [.int uW]) (rest := []) C0 hP hD hS (mixT aGm) hm.1 (nd_T _) 0 10 rfl rfl (c_X10_fault l dC dI cI cC cZ cB cJ a_m oJ uD dY iJ lJ jQ jR jW jK pJ bM aY jO gR gY mK jZ iY bG mJ jB mQ lY eJ bY H.size uW bW aG jG bQ dG jY m_length qG uW eY aJ aB bU dN aR aE bJ aW bT gJ dU bL bR bO mY pW _ hp) q_654 q_657 q_655 q_656 q_642 h_X10_fault rfl rfl ⟨Nat.le_of_ble_eq_true rfl, Nat.le_of_ble_eq_true rfl⟩ rfl rfl hl.1 rfl (lv_room (Nat.le_of_ble_eq_true rfl)) eX10_number_54.2.2.2.2.2.2.2.2.2.2.2.2.2.1 ⟨Nat.zero_le _, Nat.zero_le _⟩) (fun u H locs hp hP hD hS => ?_)
    obtain ⟨m_wrong_2, rfl⟩ : ∃ z, z = u := ⟨_, rfl⟩
    have hPD := PDm (ws' := (wd_X10_number cI cC cZ cB cJ a_m oJ uD dY iJ lJ jQ jR jW jK pJ bM aY jO gR gY mK jZ iY bG mJ jB mQ lY eJ bY bW aG jG bQ dG jY m_length qG uW m_wrong_2 aJ aB bU dN aR aE bJ aW bT gJ dU bL bR bO mY pW rG rQ)) hP hD 3 rfl rfl rfl
    have hP := hPD.1
    have hD := hPD.2
    refine lv_iload_n hx hb eX10_number_54.2.2.2.2.2.2.2.2.2.2.2.2.2.2.1 rfl (lv_at hl 2 rfl) ?_
    exact W.iret (v := x3) hx hb hr (fun t ht hW => ⟨⟨x3, (uW, m_wrong_2), rfl, hp, by rw [ht]; exact hP, va_K.moved hW.alike hK, hD⟩, hS.F ht⟩) hS.2.2 eX10_number_54.2.2.2.2.2.2.2.2.2.2.2.2.2.2.2
noncomputable def ws_X10_number_16 (post : Int32 → Int32 → Int32 → Prop) (next : Int32 → Int32 → Int32 → Int32 → Int32 → Prop) (jY : Nat) (m_length qG : Int32) (rG rQ : Nat → Int32) (x1 x2 x3 uW eY : Int32) : Prop := ((x2 + x1) ≤ uW → ws_X10_number_66 post jY m_length qG rG rQ x2 x3 uW eY) ∧ (¬ (x2 + x1) ≤ uW → wp_X10_here (fun r_3 => wp_X10_in (fun r_4 => (r_4 = 0 → ws_X10_number_66 post jY m_length qG rG rQ x2 x3 uW eY) ∧ (¬ r_4 = 0 → ∀ v_5 : Int32, v_5 = 10 * x3 → wp_X10_here (fun r_6 => ∀ v_7 : Int32, v_7 = v_5 + r_6 → ∀ v_8 : Int32, v_8 = v_7 - 48 → ∀ v_9 : Int32, v_9 = uW + 1 → next x1 x2 v_8 v_9 eY) jY m_length qG uW rG rQ)) r_3 48 57) jY m_length qG uW rG rQ)
noncomputable def wb_X10_number_16 (post : Int32 → Int32 → Int32 → Prop) (jY : Nat) (m_length qG : Int32) (rG rQ : Nat → Int32) : Nat → Int32 → Int32 → Int32 → Int32 → Int32 → Prop := fun n => Nat.rec (motive := fun _ => Int32 → Int32 → Int32 → Int32 → Int32 → Prop) (fun _ _ _ _ _ => False) (fun _ ih => ws_X10_number_16 post ih jY m_length qG rG rQ) n
set_option maxHeartbeats 4000000 in
set_option maxRecDepth 100000 in
theorem ks_X10_number_16 (C0 : gc cX10_number (some .int) 4 RX10 (dC, dI) (tyl cI cC cZ cB cJ) A p s m args meth c) {next : Int32 → Int32 → Int32 → Int32 → Int32 → Prop} (hKn : ∀ (x1 : Int32) (x2 : Int32) (x3 : Int32) (uW : Int32) (eY : Int32) (H : Heap) (locs : List Loc) (ls : Array Slot), next x1 x2 x3 uW eY → va_P (dC, dI) classes (wd_X10_number cI cC cZ cB cJ a_m oJ uD dY iJ lJ jQ jR jW jK pJ bM aY jO gR gY mK jZ iY bG mJ jB mQ lY eJ bY bW aG jG bQ dG jY m_length qG uW eY aJ aB bU dN aR aE bJ aW bT gJ dU bL bR bO mY pW rG rQ) H → va_D A (wd_X10_number cI cC cZ cB cJ a_m oJ uD dY iJ lJ jQ jR jW jK pJ bM aY jO gR gY mK jZ iY bG mJ jB mQ lY eJ bY bW aG jG bQ dG jY m_length qG uW eY aJ aB bU dN aR aE bJ aW bT gJ dU bL bR bO mY pW rG rQ) → va_S A s.heap H locs → lv_has ls 4 [(0, .ref a_m), (1, .int x1), (2, .int x2), (3, .int x3)] → W p l e rm_X10_number s m args below meth c H locs 0 0 (MQ below (q_X10_number dC dI cI cC cZ cB cJ A a_m oJ uD dY iJ lJ jQ jR jW jK pJ bM aY jO gR gY mK jZ iY bG mJ jB mQ lY eJ bY bW aG jG bQ dG jY m_length qG aJ aB bU dN aR aE bJ aW bT gJ dU bL bR bO mY pW rG rQ post) args s 0 0 A) (F0 m 16 ls [])) : ∀ (x1 x2 x3 uW eY : Int32) (H : Heap) (locs : List Loc) (ls : Array Slot), (ws_X10_number_16 post next jY m_length qG rG rQ) x1 x2 x3 uW eY → va_P (dC, dI) classes (wd_X10_number cI cC cZ cB cJ a_m oJ uD dY iJ lJ jQ jR jW jK pJ bM aY jO gR gY mK jZ iY bG mJ jB mQ lY eJ bY bW aG jG bQ dG jY m_length qG uW eY aJ aB bU dN aR aE bJ aW bT gJ dU bL bR bO mY pW rG rQ) H → va_D A (wd_X10_number cI cC cZ cB cJ a_m oJ uD dY iJ lJ jQ jR jW jK pJ bM aY jO gR gY mK jZ iY bG mJ jB mQ lY eJ bY bW aG jG bQ dG jY m_length qG uW eY aJ aB bU dN aR aE bJ aW bT gJ dU bL bR bO mY pW rG rQ) → va_S A s.heap H locs → lv_has ls 4 [(0, .ref a_m), (1, .int x1), (2, .int x2), (3, .int x3)] → W p l e rm_X10_number s m args below meth c H locs 0 0 (MQ below (q_X10_number dC dI cI cC cZ cB cJ A a_m oJ uD dY iJ lJ jQ jR jW jK pJ bM aY jO gR gY mK jZ iY bG mJ jB mQ lY eJ bY bW aG jG bQ dG jY m_length qG aJ aB bU dN aR aE bJ aW bT gJ dU bL bR bO mY pW rG rQ post) args s 0 0 A) (F0 m 16 ls []) := by
  obtain ⟨hx, hb, hr, hml, hown, hts, hlocks, hA, hK, hN, tL, tM, hZL, hTL, hZM, hTM, hZX⟩ := id C0
  intro x1 x2 x3 uW eY H locs ls hp hP hD hS hl
  unfold ws_X10_number_16 at hp
  refine lv_aload_n hx hb eX10_number_0.2.2.2.2.2.2.2.2.2.2.1 rfl (lv_at hl 0 rfl) ?_
  refine va_get (D := (dC, dI)) (ci := 10) (v := .int uW) (C := RX10) (T := TX10) (N := 51) hx hb hts i_X10 hown hK hP 0 rfl rfl 18 (Nat.le_of_ble_eq_true rfl) (hts _ q_648) (fun _ h9 => h9) rfl eX10_number_0.2.2.2.2.2.2.2.2.2.2.2.1 ?_
  refine lv_iload_n hx hb eX10_number_0.2.2.2.2.2.2.2.2.2.2.2.2.1 rfl (lv_at hl 2 rfl) ?_
  refine lv_iload_n hx hb eX10_number_0.2.2.2.2.2.2.2.2.2.2.2.2.2.1 rfl (lv_at hl 1 rfl) ?_
  refine lv_iadd hx hb eX10_number_0.2.2.2.2.2.2.2.2.2.2.2.2.2.2.1 ?_
  refine lv_icmp_ge (tgt := 66) hx hb eX10_number_0.2.2.2.2.2.2.2.2.2.2.2.2.2.2.2 (by decide) (fun hc => ?_) (fun hc => ?_)
  · have hp := hp.1 hc
    exact ks_X10_number_66 C0 x2 x3 uW eY H locs ls hp hP hD hS (lv_sub hl [0, 2, 3] rfl)
  · have hp := hp.2 hc
    refine lv_aload_n hx hb eX10_number_26.1 rfl (lv_at hl 0 rfl) ?_
    have hm := mgk (wc := (wd_X10_here cI cC cZ cB cJ a_m oJ uD dY iJ lJ jQ jR jW jK pJ bM aY jO gR gY mK jZ iY bG mJ jB mQ lY eJ bY bW aG jG bQ dG jY m_length qG uW eY aJ aB bU dN aR aE bJ aW bT gJ dU bL bR bO mY pW rG rQ)) hP aBD 3 rfl rfl rfl
    refine g_calli hP hD hS hA (mixT aBD) (mixF aBD) hm.1 hm.2 (nd_F _) (dis_g _) (g_runV (As := []) (rest := []) C0 hP hD hS (mixT aBD) hm.1 (nd_T _) 0 10 rfl rfl (c_X10_here l dC dI cI cC cZ cB cJ a_m oJ uD dY iJ lJ jQ jR jW jK pJ bM aY jO gR gY mK jZ iY bG mJ jB mQ lY eJ bY H.size bW aG jG bQ dG jY m_length qG uW eY aJ aB bU dN aR aE bJ aW bT gJ dU bL bR bO mY pW rG rQ _ hp) q_658 q_661 q_659 q_660 q_642 h_X10_here rfl rfl ⟨Nat.le_of_ble_eq_true rfl, Nat.le_of_ble_eq_true rfl⟩ rfl rfl hl.1 rfl (lv_room (Nat.le_of_ble_eq_true rfl)) eX10_number_26.2.1 ⟨Nat.zero_le _, Nat.zero_le _⟩) (fun r_3 u H locs hp hP hD hS => ?_)
    have hPD := PDm (ws' := (wd_X10_number cI cC cZ cB cJ a_m oJ uD dY iJ lJ jQ jR jW jK pJ bM aY jO gR gY mK jZ iY bG mJ jB mQ lY eJ bY bW aG jG bQ dG jY m_length qG uW eY aJ aB bU dN aR aE bJ aW bT gJ dU bL bR bO mY pW rG rQ)) hP hD 3 rfl rfl rfl
    have hP := hPD.1
    have hD := hPD.2
    refine lv_bipush (v := 48) hx hb eX10_number_26.2.2.1 bp_48 ?_
    refine lv_bipush (v := 57) hx hb eX10_number_26.2.2.2.1 bp_57 ?_
    have hm := mgk (wc := (wd_X10_in cI cC cZ cB cJ)) hP aGv 3 rfl rfl rfl
    refine g_calli hP hD hS hA (mixT aGv) (mixF aGv) hm.1 hm.2 (nd_F _) (dis_g _) (g_runS (As := [.int r_3, .int 48, .int 57]) (rest := []) C0 hP hD hS (mixT aGv) hm.1 (nd_T _) (c_X10_in l dC dI cI cC cZ cB cJ H.size r_3 48 57 _ hp) q_641 q_644 q_643 q_642 h_X10_in rfl rfl ⟨Nat.le_of_ble_eq_true rfl, Nat.le_of_ble_eq_true rfl⟩ rfl rfl hl.1 rfl (lv_room (Nat.le_of_ble_eq_true rfl)) eX10_number_26.2.2.2.2.1 ⟨Nat.zero_le _, Nat.zero_le _⟩) (fun r_4 u H locs hp hP hD hS => ?_)
    have hPD := PDm (ws' := (wd_X10_number cI cC cZ cB cJ a_m oJ uD dY iJ lJ jQ jR jW jK pJ bM aY jO gR gY mK jZ iY bG mJ jB mQ lY eJ bY bW aG jG bQ dG jY m_length qG uW eY aJ aB bU dN aR aE bJ aW bT gJ dU bL bR bO mY pW rG rQ)) hP hD 3 rfl rfl rfl
    have hP := hPD.1
    have hD := hPD.2
    refine lv_if_eq (tgt := 66) hx hb eX10_number_26.2.2.2.2.2.1 (by decide) (fun hc => ?_) (fun hc => ?_)
    · have hp := hp.1 hc
      exact ks_X10_number_66 C0 x2 x3 uW eY H locs ls hp hP hD hS (lv_sub hl [0, 2, 3] rfl)
    · have hp := hp.2 hc
      refine lv_bipush (v := 10) hx hb eX10_number_26.2.2.2.2.2.2.1 bp_10 ?_
      refine lv_iload_n hx hb eX10_number_26.2.2.2.2.2.2.2.1 rfl (lv_at hl 3 rfl) ?_
      refine lv_imul hx hb eX10_number_26.2.2.2.2.2.2.2.2.1 ?_
      refine lv_topi (fun v_5 ev_5 => ?_)
      have hp := hp v_5 ev_5
      refine lv_aload_n hx hb eX10_number_26.2.2.2.2.2.2.2.2.2.1 rfl (lv_at hl 0 rfl) ?_
      have hm := mgk (wc := (wd_X10_here cI cC cZ cB cJ a_m oJ uD dY iJ lJ jQ jR jW jK pJ bM aY jO gR gY mK jZ iY bG mJ jB mQ lY eJ bY bW aG jG bQ dG jY m_length qG uW eY aJ aB bU dN aR aE bJ aW bT gJ dU bL bR bO mY pW rG rQ)) hP aBD 3 rfl rfl rfl
      refine g_calli hP hD hS hA (mixT aBD) (mixF aBD) hm.1 hm.2 (nd_F _) (dis_g _) (g_runV (As := []) (rest := [.int v_5]) C0 hP hD hS (mixT aBD) hm.1 (nd_T _) 0 10 rfl rfl (c_X10_here l dC dI cI cC cZ cB cJ a_m oJ uD dY iJ lJ jQ jR jW jK pJ bM aY jO gR gY mK jZ iY bG mJ jB mQ lY eJ bY H.size bW aG jG bQ dG jY m_length qG uW eY aJ aB bU dN aR aE bJ aW bT gJ dU bL bR bO mY pW rG rQ _ hp) q_658 q_661 q_659 q_660 q_642 h_X10_here rfl rfl ⟨Nat.le_of_ble_eq_true rfl, Nat.le_of_ble_eq_true rfl⟩ rfl rfl hl.1 rfl (lv_room (Nat.le_of_ble_eq_true rfl)) eX10_number_26.2.2.2.2.2.2.2.2.2.2.1 ⟨Nat.zero_le _, Nat.zero_le _⟩) (fun r_6 u H locs hp hP hD hS => ?_)
      have hPD := PDm (ws' := (wd_X10_number cI cC cZ cB cJ a_m oJ uD dY iJ lJ jQ jR jW jK pJ bM aY jO gR gY mK jZ iY bG mJ jB mQ lY eJ bY bW aG jG bQ dG jY m_length qG uW eY aJ aB bU dN aR aE bJ aW bT gJ dU bL bR bO mY pW rG rQ)) hP hD 3 rfl rfl rfl
      have hP := hPD.1
      have hD := hPD.2
      refine lv_iadd hx hb eX10_number_26.2.2.2.2.2.2.2.2.2.2.2.1 ?_
      refine lv_topi (fun v_7 ev_7 => ?_)
      have hp := hp v_7 ev_7
      refine lv_bipush (v := 48) hx hb eX10_number_26.2.2.2.2.2.2.2.2.2.2.2.2.1 bp_48 ?_
      refine lv_isub hx hb eX10_number_26.2.2.2.2.2.2.2.2.2.2.2.2.2.1 ?_
      refine lv_topi (fun v_8 ev_8 => ?_)
      have hp := hp v_8 ev_8
      refine lv_istore_n (lv' := [(3, .int v_8), (0, .ref a_m), (1, .int x1), (2, .int x2)]) hx hb eX10_number_26.2.2.2.2.2.2.2.2.2.2.2.2.2.2.1 rfl hl (by decide) rfl (fun ls hl => ?_)
      refine lv_aload_n hx hb eX10_number_26.2.2.2.2.2.2.2.2.2.2.2.2.2.2.2 rfl (lv_at hl 1 rfl) ?_
      refine lv_dup hx hb eX10_number_54.1 rfl ?_
      refine va_get (D := (dC, dI)) (ci := 10) (v := .int uW) (C := RX10) (T := TX10) (N := 51) hx hb hts i_X10 hown hK hP 0 rfl rfl 18 (Nat.le_of_ble_eq_true rfl) (hts _ q_648) (fun _ h9 => h9) rfl eX10_number_54.2.1 ?_
      refine lv_iconst (v := 1) hx hb eX10_number_54.2.2.1 ic_1 ?_
      refine lv_iadd hx hb eX10_number_54.2.2.2.1 ?_
      refine lv_topi (fun v_9 ev_9 => ?_)
      have hp := hp v_9 ev_9
      refine va_put (D := (dC, dI)) (ci := 10) (v := .int v_9) (ty := .int) (C := RX10) (T := TX10) (N := 51) hx hb hts i_X10 tyX10 tyX10_ok nmX10 hown hK hP hD hS 0 rfl rfl 18 (Nat.le_of_ble_eq_true rfl) (hts _ q_648) (fun _ h9 => h9) rfl (tyX10_ok 18 (Nat.le_of_ble_eq_true rfl)) rfl rfl (Nat.le_of_ble_eq_true rfl) eX10_number_54.2.2.2.2.1 (fun H locs hP hD hS => ?_)
      have hP : va_P (dC, dI) classes (wd_X10_number cI cC cZ cB cJ a_m oJ uD dY iJ lJ jQ jR jW jK pJ bM aY jO gR gY mK jZ iY bG mJ jB mQ lY eJ bY bW aG jG bQ dG jY m_length qG v_9 eY aJ aB bU dN aR aE bJ aW bT gJ dU bL bR bO mY pW rG rQ) H := hP
      have hD : va_D A (wd_X10_number cI cC cZ cB cJ a_m oJ uD dY iJ lJ jQ jR jW jK pJ bM aY jO gR gY mK jZ iY bG mJ jB mQ lY eJ bY bW aG jG bQ dG jY m_length qG v_9 eY aJ aB bU dN aR aE bJ aW bT gJ dU bL bR bO mY pW rG rQ) := hD
      refine lv_goto (tgt := 16) hx hb eX10_number_54.2.2.2.2.2.1 (by decide) ?_
      exact hKn x1 x2 v_8 v_9 eY H locs ls hp hP hD hS (lv_sub hl [1, 2, 3, 0] rfl)
set_option maxHeartbeats 4000000 in
set_option maxRecDepth 100000 in
theorem kb_X10_number_16 (C0 : gc cX10_number (some .int) 4 RX10 (dC, dI) (tyl cI cC cZ cB cJ) A p s m args meth c) : ∀ (n : Nat), ∀ (x1 x2 x3 uW eY : Int32) (H : Heap) (locs : List Loc) (ls : Array Slot), (wb_X10_number_16 post jY m_length qG rG rQ n) x1 x2 x3 uW eY → va_P (dC, dI) classes (wd_X10_number cI cC cZ cB cJ a_m oJ uD dY iJ lJ jQ jR jW jK pJ bM aY jO gR gY mK jZ iY bG mJ jB mQ lY eJ bY bW aG jG bQ dG jY m_length qG uW eY aJ aB bU dN aR aE bJ aW bT gJ dU bL bR bO mY pW rG rQ) H → va_D A (wd_X10_number cI cC cZ cB cJ a_m oJ uD dY iJ lJ jQ jR jW jK pJ bM aY jO gR gY mK jZ iY bG mJ jB mQ lY eJ bY bW aG jG bQ dG jY m_length qG uW eY aJ aB bU dN aR aE bJ aW bT gJ dU bL bR bO mY pW rG rQ) → va_S A s.heap H locs → lv_has ls 4 [(0, .ref a_m), (1, .int x1), (2, .int x2), (3, .int x3)] → W p l e rm_X10_number s m args below meth c H locs 0 0 (MQ below (q_X10_number dC dI cI cC cZ cB cJ A a_m oJ uD dY iJ lJ jQ jR jW jK pJ bM aY jO gR gY mK jZ iY bG mJ jB mQ lY eJ bY bW aG jG bQ dG jY m_length qG aJ aB bU dN aR aE bJ aW bT gJ dU bL bR bO mY pW rG rQ post) args s 0 0 A) (F0 m 16 ls []) := by
  intro n
  induction n with
  | zero =>
    intro x1 x2 x3 uW eY H locs ls hp
    exact False.elim hp
  | succ n ih =>
    intro x1 x2 x3 uW eY H locs ls hp
    exact ks_X10_number_16 C0 ih x1 x2 x3 uW eY H locs ls hp
end S_X10_number
noncomputable def wp_X10_number (post : Int32 → Int32 → Int32 → Prop) (p0 : Int32) (jY : Nat) (m_length qG uW eY : Int32) (rG rQ : Nat → Int32) : Prop := wp_X10_fine (fun r_1 => (¬ r_1 = 0 → ∃ n : Nat, wb_X10_number_16 post jY m_length qG rG rQ n p0 uW 0 uW eY) ∧ (r_1 = 0 → post 0 uW eY)) eY
set_option maxHeartbeats 4000000 in
set_option maxRecDepth 100000 in
theorem c_X10_number (l : Launch) (dC : Nat → ClassId) (dI : Nat → Nat → Nat) (cI cC cZ cB cJ : ClassId) (a_m oJ uD dY iJ lJ jQ jR jW jK pJ bM aY jO gR gY mK jZ iY bG mJ jB mQ lY eJ bY sz : Nat) (p0 bW aG jG bQ dG : Int32) (jY : Nat) (m_length qG uW eY aJ aB bU dN aR aE bJ aW bT gJ dU bL bR bO mY pW : Int32) (rG rQ : Nat → Int32) (post : Int32 → Int32 → Int32 → Prop) (hw : wp_X10_number post p0 jY m_length qG uW eY rG rQ) : Met l yX10_number (gw yX10_number cX10_number 4 (some .int)) rm_X10_number (va_Pc [.ref a_m, .int p0] (gPre (dC, dI) (tyl cI cC cZ cB cJ) (wd_X10_number cI cC cZ cB cJ a_m oJ uD dY iJ lJ jQ jR jW jK pJ bM aY jO gR gY mK jZ iY bG mJ jB mQ lY eJ bY bW aG jG bQ dG jY m_length qG uW eY aJ aB bU dN aR aE bJ aW bT gJ dU bL bR bO mY pW rG rQ) sz)) (q_X10_number dC dI cI cC cZ cB cJ (va_A (wd_X10_number cI cC cZ cB cJ a_m oJ uD dY iJ lJ jQ jR jW jK pJ bM aY jO gR gY mK jZ iY bG mJ jB mQ lY eJ bY bW aG jG bQ dG jY m_length qG uW eY aJ aB bU dN aR aE bJ aW bT gJ dU bL bR bO mY pW rG rQ) sz) a_m oJ uD dY iJ lJ jQ jR jW jK pJ bM aY jO gR gY mK jZ iY bG mJ jB mQ lY eJ bY bW aG jG bQ dG jY m_length qG aJ aB bU dN aR aE bJ aW bT gJ dU bL bR bO mY pW rG rQ post) 0 0 (va_A (wd_X10_number cI cC cZ cB cJ a_m oJ uD dY iJ lJ jQ jR jW jK pJ bM aY jO gR gY mK jZ iY bG mJ jB mQ lY eJ bY bW aG jG bQ dG jY m_length qG uW eY aJ aB bU dN aR aE bJ aW bT gJ dU bL bR bO mY pW rG rQ) sz) := by
  refine g_enter (own := RX10) (dC, dI) (tyl cI cC cZ cB cJ) (wd_X10_number cI cC cZ cB cJ a_m oJ uD dY iJ lJ jQ jR jW jK pJ bM aY jO gR gY mK jZ iY bG mJ jB mQ lY eJ bY bW aG jG bQ dG jY m_length qG uW eY aJ aB bU dN aR aE bJ aW bT gJ dU bL bR bO mY pW rG rQ) sz [.ref a_m, .int p0] (fun A => q_X10_number dC dI cI cC cZ cB cJ A a_m oJ uD dY iJ lJ jQ jR jW jK pJ bM aY jO gR gY mK jZ iY bG mJ jB mQ lY eJ bY bW aG jG bQ dG jY m_length qG aJ aB bU dN aR aE bJ aW bT gJ dU bL bR bO mY pW rG rQ post) pn_RX10 rfl (Nat.le_of_ble_eq_true rfl) ?_
  intro p e s m args below meth c A H locs ls C0 hP hD hS hl
  have hl : lv_has ls 4 [(0, .ref a_m), (1, .int p0)] := hl
  obtain ⟨hx, hb, hr, hml, hown, hts, hlocks, hA, hK, hN, tL, tM, hZL, hTL, hZM, hTM, hZX⟩ := id C0
  have hp := hw
  unfold wp_X10_number at hp
  refine lv_aload_n hx hb eX10_number_0.1 rfl (lv_at hl 0 rfl) ?_
  have hm := mgk (wc := (wd_X10_fine cI cC cZ cB cJ a_m oJ uD dY iJ lJ jQ jR jW jK pJ bM aY jO gR gY mK jZ iY bG mJ jB mQ lY eJ bY bW aG jG bQ dG jY m_length qG uW eY aJ aB bU dN aR aE bJ aW bT gJ dU bL bR bO mY pW)) hP aGm 3 rfl rfl rfl
  refine g_calli hP hD hS hA (mixT aGm) (mixF aGm) hm.1 hm.2 (nd_F _) (dis_g _) (g_runV (As := []) (rest := []) C0 hP hD hS (mixT aGm) hm.1 (nd_T _) 0 10 rfl rfl (c_X10_fine l dC dI cI cC cZ cB cJ a_m oJ uD dY iJ lJ jQ jR jW jK pJ bM aY jO gR gY mK jZ iY bG mJ jB mQ lY eJ bY H.size bW aG jG bQ dG jY m_length qG uW eY aJ aB bU dN aR aE bJ aW bT gJ dU bL bR bO mY pW _ hp) q_650 q_653 q_651 q_652 q_642 h_X10_fine rfl rfl ⟨Nat.le_of_ble_eq_true rfl, Nat.le_of_ble_eq_true rfl⟩ rfl rfl hl.1 rfl (lv_room (Nat.le_of_ble_eq_true rfl)) eX10_number_0.2.1 ⟨Nat.zero_le _, Nat.zero_le _⟩) (fun r_1 u H locs hp hP hD hS => ?_)
  have hPD := PDm (ws' := (wd_X10_number cI cC cZ cB cJ a_m oJ uD dY iJ lJ jQ jR jW jK pJ bM aY jO gR gY mK jZ iY bG mJ jB mQ lY eJ bY bW aG jG bQ dG jY m_length qG uW eY aJ aB bU dN aR aE bJ aW bT gJ dU bL bR bO mY pW rG rQ)) hP hD 3 rfl rfl rfl
  have hP := hPD.1
  have hD := hPD.2
  refine lv_if_ne (tgt := 9) hx hb eX10_number_0.2.2.1 (by decide) (fun hc => ?_) (fun hc => ?_)
  · have hp := hp.1 hc
    refine lv_aload_n hx hb eX10_number_0.2.2.2.2.2.1 rfl (lv_at hl 0 rfl) ?_
    refine va_get (D := (dC, dI)) (ci := 10) (v := .int uW) (C := RX10) (T := TX10) (N := 51) hx hb hts i_X10 hown hK hP 0 rfl rfl 18 (Nat.le_of_ble_eq_true rfl) (hts _ q_648) (fun _ h9 => h9) rfl eX10_number_0.2.2.2.2.2.2.1 ?_
    refine lv_istore_n (lv' := [(2, .int uW), (0, .ref a_m), (1, .int p0)]) hx hb eX10_number_0.2.2.2.2.2.2.2.1 rfl hl (by decide) rfl (fun ls hl => ?_)
    refine lv_iconst (v := 0) hx hb eX10_number_0.2.2.2.2.2.2.2.2.1 ic_0 ?_
    refine lv_istore_n (lv' := [(3, .int 0), (2, .int uW), (0, .ref a_m), (1, .int p0)]) hx hb eX10_number_0.2.2.2.2.2.2.2.2.2.1 rfl hl (by decide) rfl (fun ls hl => ?_)
    obtain ⟨n9, hp⟩ := hp
    exact kb_X10_number_16 C0 n9 p0 uW 0 uW eY H locs ls hp hP hD hS (lv_sub hl [2, 3, 1, 0] rfl)
  · have hp := hp.2 hc
    refine lv_iconst (v := 0) hx hb eX10_number_0.2.2.2.1 ic_0 ?_
    exact W.iret (v := 0) hx hb hr (fun t ht hW => ⟨⟨0, (uW, eY), rfl, hp, by rw [ht]; exact hP, va_K.moved hW.alike hK, hD⟩, hS.F ht⟩) hS.2.2 eX10_number_0.2.2.2.2.1
noncomputable abbrev wd_X10_passes (cI cC cZ cB cJ : ClassId) (a_m oJ uD dY iJ lJ jQ jR jW jK pJ bM aY jO gR gY mK jZ iY bG mJ jB mQ lY eJ bY : Nat) (bW aG jG bQ dG : Int32) (jY : Nat) (m_length qG uW eY aJ aB bU dN aR aE bJ aW bT gJ dU bL bR bO mY pW : Int32) (rG rQ : Nat → Int32) : va_W := [(a_m, .inr (10, [.ref oJ, .int bW, .ref uD, .ref dY, .ref iJ, .ref lJ, .int aG, .ref jQ, .ref jR, .ref jW, .ref jK, .int jG, .ref pJ, .int bQ, .int dG, rdv jK jO jY, .int m_length, .int qG, .int uW, .int eY, .ref bM, .ref aY, .int aJ, .int aB, .ref jO, .int bU, .int dN, .int aR, .int aE, .int bJ, .int aW, .ref gR, .int bT, .ref gY, .ref mK, .int gJ, .ref jZ, .int dU, .ref iY, .ref bG, .int bL, .int bR, .int bO, .ref mJ, .ref jB, .ref mQ, .int mY, .int pW, .ref lY, .ref eJ, .ref bY])), (jK, .inl (cB, 80, .inl rG)), (jO, .inl (cB, 40, .inl rQ))]
noncomputable abbrev q_X10_passes (dC : Nat → ClassId) (dI : Nat → Nat → Nat) (cI cC cZ cB cJ : ClassId) (A : Nat → Prop) (a_m oJ uD dY iJ lJ jQ jR jW jK pJ bM aY jO gR gY mK jZ iY bG mJ jB mQ lY eJ bY : Nat) (bW aG jG bQ dG : Int32) (jY : Nat) (m_length qG eY aJ aB bU dN aR aE bJ aW bT gJ dU bL bR bO mY pW : Int32) (rG rQ : Nat → Int32) (post : Int32 → Int32 → Prop) : Array Value → State → Outcome → State → Prop := va_Qi (fun (r u : Int32) => post r u) (fun u t => gB (dC, dI) (tyl cI cC cZ cB cJ) A (wd_X10_passes cI cC cZ cB cJ a_m oJ uD dY iJ lJ jQ jR jW jK pJ bM aY jO gR gY mK jZ iY bG mJ jB mQ lY eJ bY bW aG jG bQ dG jY m_length qG u eY aJ aB bU dN aR aE bJ aW bT gJ dU bL bR bO mY pW rG rQ) t) A
noncomputable abbrev rm_X10_passes : Room := { frames := 1, cells := 0, slots := 0, locals := 20 }
noncomputable def wp_X10_passes (post : Int32 → Int32 → Prop) (p0 : Int32) (jY : Nat) (m_length qG uW eY : Int32) (rG rQ : Nat → Int32) : Prop := wp_X10_fine (fun r_1 => (r_1 = 0 → post 0 uW) ∧ (¬ r_1 = 0 → wp_X10_here (fun r_2 => (r_2 = p0 → ∀ v_3 : Int32, v_3 = uW + 1 → post 1 v_3) ∧ (¬ r_2 = p0 → post 0 uW)) jY m_length qG uW rG rQ)) eY
set_option maxHeartbeats 4000000 in
set_option maxRecDepth 100000 in
theorem c_X10_passes (l : Launch) (dC : Nat → ClassId) (dI : Nat → Nat → Nat) (cI cC cZ cB cJ : ClassId) (a_m oJ uD dY iJ lJ jQ jR jW jK pJ bM aY jO gR gY mK jZ iY bG mJ jB mQ lY eJ bY sz : Nat) (p0 bW aG jG bQ dG : Int32) (jY : Nat) (m_length qG uW eY aJ aB bU dN aR aE bJ aW bT gJ dU bL bR bO mY pW : Int32) (rG rQ : Nat → Int32) (post : Int32 → Int32 → Prop) (hw : wp_X10_passes post p0 jY m_length qG uW eY rG rQ) : Met l yX10_passes (gw yX10_passes cX10_passes 2 (some .boolean)) rm_X10_passes (va_Pc [.ref a_m, .int p0] (gPre (dC, dI) (tyl cI cC cZ cB cJ) (wd_X10_passes cI cC cZ cB cJ a_m oJ uD dY iJ lJ jQ jR jW jK pJ bM aY jO gR gY mK jZ iY bG mJ jB mQ lY eJ bY bW aG jG bQ dG jY m_length qG uW eY aJ aB bU dN aR aE bJ aW bT gJ dU bL bR bO mY pW rG rQ) sz)) (q_X10_passes dC dI cI cC cZ cB cJ (va_A (wd_X10_passes cI cC cZ cB cJ a_m oJ uD dY iJ lJ jQ jR jW jK pJ bM aY jO gR gY mK jZ iY bG mJ jB mQ lY eJ bY bW aG jG bQ dG jY m_length qG uW eY aJ aB bU dN aR aE bJ aW bT gJ dU bL bR bO mY pW rG rQ) sz) a_m oJ uD dY iJ lJ jQ jR jW jK pJ bM aY jO gR gY mK jZ iY bG mJ jB mQ lY eJ bY bW aG jG bQ dG jY m_length qG eY aJ aB bU dN aR aE bJ aW bT gJ dU bL bR bO mY pW rG rQ post) 0 0 (va_A (wd_X10_passes cI cC cZ cB cJ a_m oJ uD dY iJ lJ jQ jR jW jK pJ bM aY jO gR gY mK jZ iY bG mJ jB mQ lY eJ bY bW aG jG bQ dG jY m_length qG uW eY aJ aB bU dN aR aE bJ aW bT gJ dU bL bR bO mY pW rG rQ) sz) := by
  refine g_enter (own := RX10) (dC, dI) (tyl cI cC cZ cB cJ) (wd_X10_passes cI cC cZ cB cJ a_m oJ uD dY iJ lJ jQ jR jW jK pJ bM aY jO gR gY mK jZ iY bG mJ jB mQ lY eJ bY bW aG jG bQ dG jY m_length qG uW eY aJ aB bU dN aR aE bJ aW bT gJ dU bL bR bO mY pW rG rQ) sz [.ref a_m, .int p0] (fun A => q_X10_passes dC dI cI cC cZ cB cJ A a_m oJ uD dY iJ lJ jQ jR jW jK pJ bM aY jO gR gY mK jZ iY bG mJ jB mQ lY eJ bY bW aG jG bQ dG jY m_length qG eY aJ aB bU dN aR aE bJ aW bT gJ dU bL bR bO mY pW rG rQ post) pn_RX10 rfl (Nat.le_of_ble_eq_true rfl) ?_
  intro p e s m args below meth c A H locs ls C0 hP hD hS hl
  have hl : lv_has ls 2 [(0, .ref a_m), (1, .int p0)] := hl
  obtain ⟨hx, hb, hr, hml, hown, hts, hlocks, hA, hK, hN, tL, tM, hZL, hTL, hZM, hTM, hZX⟩ := id C0
  have hp := hw
  unfold wp_X10_passes at hp
  refine lv_aload_n hx hb eX10_passes_0.1 rfl (lv_at hl 0 rfl) ?_
  have hm := mgk (wc := (wd_X10_fine cI cC cZ cB cJ a_m oJ uD dY iJ lJ jQ jR jW jK pJ bM aY jO gR gY mK jZ iY bG mJ jB mQ lY eJ bY bW aG jG bQ dG jY m_length qG uW eY aJ aB bU dN aR aE bJ aW bT gJ dU bL bR bO mY pW)) hP aGm 3 rfl rfl rfl
  refine g_calli hP hD hS hA (mixT aGm) (mixF aGm) hm.1 hm.2 (nd_F _) (dis_g _) (g_runV (As := []) (rest := []) C0 hP hD hS (mixT aGm) hm.1 (nd_T _) 0 10 rfl rfl (c_X10_fine l dC dI cI cC cZ cB cJ a_m oJ uD dY iJ lJ jQ jR jW jK pJ bM aY jO gR gY mK jZ iY bG mJ jB mQ lY eJ bY H.size bW aG jG bQ dG jY m_length qG uW eY aJ aB bU dN aR aE bJ aW bT gJ dU bL bR bO mY pW _ hp) q_650 q_653 q_651 q_652 q_642 h_X10_fine rfl rfl ⟨Nat.le_of_ble_eq_true rfl, Nat.le_of_ble_eq_true rfl⟩ rfl rfl hl.1 rfl (lv_room (Nat.le_of_ble_eq_true rfl)) eX10_passes_0.2.1 ⟨Nat.zero_le _, Nat.zero_le _⟩) (fun r_1 u H locs hp hP hD hS => ?_)
  have hPD := PDm (ws' := (wd_X10_passes cI cC cZ cB cJ a_m oJ uD dY iJ lJ jQ jR jW jK pJ bM aY jO gR gY mK jZ iY bG mJ jB mQ lY eJ bY bW aG jG bQ dG jY m_length qG uW eY aJ aB bU dN aR aE bJ aW bT gJ dU bL bR bO mY pW rG rQ)) hP hD 3 rfl rfl rfl
  have hP := hPD.1
  have hD := hPD.2
  refine lv_if_eq (tgt := 15) hx hb eX10_passes_0.2.2.1 (by decide) (fun hc => ?_) (fun hc => ?_)
  · have hp := hp.1 hc
    refine lv_iconst (v := 0) hx hb eX10_passes_0.2.2.2.2.2.2.2.1 ic_0 ?_
    exact W.zret (v := 0) hx hb hr rfl (fun t ht hW => ⟨⟨0, uW, rfl, hp, by rw [ht]; exact hP, va_K.moved hW.alike hK, hD⟩, hS.F ht⟩) hS.2.2 eX10_passes_0.2.2.2.2.2.2.2.2.1
  · have hp := hp.2 hc
    refine lv_aload_n hx hb eX10_passes_0.2.2.2.1 rfl (lv_at hl 0 rfl) ?_
    have hm := mgk (wc := (wd_X10_here cI cC cZ cB cJ a_m oJ uD dY iJ lJ jQ jR jW jK pJ bM aY jO gR gY mK jZ iY bG mJ jB mQ lY eJ bY bW aG jG bQ dG jY m_length qG uW eY aJ aB bU dN aR aE bJ aW bT gJ dU bL bR bO mY pW rG rQ)) hP aBD 3 rfl rfl rfl
    refine g_calli hP hD hS hA (mixT aBD) (mixF aBD) hm.1 hm.2 (nd_F _) (dis_g _) (g_runV (As := []) (rest := []) C0 hP hD hS (mixT aBD) hm.1 (nd_T _) 0 10 rfl rfl (c_X10_here l dC dI cI cC cZ cB cJ a_m oJ uD dY iJ lJ jQ jR jW jK pJ bM aY jO gR gY mK jZ iY bG mJ jB mQ lY eJ bY H.size bW aG jG bQ dG jY m_length qG uW eY aJ aB bU dN aR aE bJ aW bT gJ dU bL bR bO mY pW rG rQ _ hp) q_658 q_661 q_659 q_660 q_642 h_X10_here rfl rfl ⟨Nat.le_of_ble_eq_true rfl, Nat.le_of_ble_eq_true rfl⟩ rfl rfl hl.1 rfl (lv_room (Nat.le_of_ble_eq_true rfl)) eX10_passes_0.2.2.2.2.1 ⟨Nat.zero_le _, Nat.zero_le _⟩) (fun r_2 u H locs hp hP hD hS => ?_)
    have hPD := PDm (ws' := (wd_X10_passes cI cC cZ cB cJ a_m oJ uD dY iJ lJ jQ jR jW jK pJ bM aY jO gR gY mK jZ iY bG mJ jB mQ lY eJ bY bW aG jG bQ dG jY m_length qG uW eY aJ aB bU dN aR aE bJ aW bT gJ dU bL bR bO mY pW rG rQ)) hP hD 3 rfl rfl rfl
    have hP := hPD.1
    have hD := hPD.2
    refine lv_iload_n hx hb eX10_passes_0.2.2.2.2.2.1 rfl (lv_at hl 1 rfl) ?_
    refine lv_icmp_eq (tgt := 17) hx hb eX10_passes_0.2.2.2.2.2.2.1 (by decide) (fun hc => ?_) (fun hc => ?_)
    · have hp := hp.1 hc
      refine lv_aload_n hx hb eX10_passes_0.2.2.2.2.2.2.2.2.2.1 rfl (lv_at hl 0 rfl) ?_
      refine lv_dup hx hb eX10_passes_0.2.2.2.2.2.2.2.2.2.2.1 rfl ?_
      refine va_get (D := (dC, dI)) (ci := 10) (v := .int uW) (C := RX10) (T := TX10) (N := 51) hx hb hts i_X10 hown hK hP 0 rfl rfl 18 (Nat.le_of_ble_eq_true rfl) (hts _ q_648) (fun _ h9 => h9) rfl eX10_passes_0.2.2.2.2.2.2.2.2.2.2.2.1 ?_
      refine lv_iconst (v := 1) hx hb eX10_passes_0.2.2.2.2.2.2.2.2.2.2.2.2.1 ic_1 ?_
      refine lv_iadd hx hb eX10_passes_0.2.2.2.2.2.2.2.2.2.2.2.2.2.1 ?_
      refine lv_topi (fun v_3 ev_3 => ?_)
      have hp := hp v_3 ev_3
      refine va_put (D := (dC, dI)) (ci := 10) (v := .int v_3) (ty := .int) (C := RX10) (T := TX10) (N := 51) hx hb hts i_X10 tyX10 tyX10_ok nmX10 hown hK hP hD hS 0 rfl rfl 18 (Nat.le_of_ble_eq_true rfl) (hts _ q_648) (fun _ h9 => h9) rfl (tyX10_ok 18 (Nat.le_of_ble_eq_true rfl)) rfl rfl (Nat.le_of_ble_eq_true rfl) eX10_passes_0.2.2.2.2.2.2.2.2.2.2.2.2.2.2.1 (fun H locs hP hD hS => ?_)
      have hP : va_P (dC, dI) classes (wd_X10_passes cI cC cZ cB cJ a_m oJ uD dY iJ lJ jQ jR jW jK pJ bM aY jO gR gY mK jZ iY bG mJ jB mQ lY eJ bY bW aG jG bQ dG jY m_length qG v_3 eY aJ aB bU dN aR aE bJ aW bT gJ dU bL bR bO mY pW rG rQ) H := hP
      have hD : va_D A (wd_X10_passes cI cC cZ cB cJ a_m oJ uD dY iJ lJ jQ jR jW jK pJ bM aY jO gR gY mK jZ iY bG mJ jB mQ lY eJ bY bW aG jG bQ dG jY m_length qG v_3 eY aJ aB bU dN aR aE bJ aW bT gJ dU bL bR bO mY pW rG rQ) := hD
      refine lv_iconst (v := 1) hx hb eX10_passes_0.2.2.2.2.2.2.2.2.2.2.2.2.2.2.2 ic_1 ?_
      exact W.zret (v := 1) hx hb hr rfl (fun t ht hW => ⟨⟨1, v_3, rfl, hp, by rw [ht]; exact hP, va_K.moved hW.alike hK, hD⟩, hS.F ht⟩) hS.2.2 dX10_passes_28
    · have hp := hp.2 hc
      refine lv_iconst (v := 0) hx hb eX10_passes_0.2.2.2.2.2.2.2.1 ic_0 ?_
      exact W.zret (v := 0) hx hb hr rfl (fun t ht hW => ⟨⟨0, uW, rfl, hp, by rw [ht]; exact hP, va_K.moved hW.alike hK, hD⟩, hS.F ht⟩) hS.2.2 eX10_passes_0.2.2.2.2.2.2.2.2.1
