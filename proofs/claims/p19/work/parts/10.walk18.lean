noncomputable abbrev wd_X5_duskWorth (cI cC cZ cB cJ : ClassId) (xD wY wJ uE qU uJ uL uI : Nat) (oX rJ pN rP : Int32) (vK : Nat → Int32) : va_W := [(xD, .inr (5, [.ref wY, .ref wJ, .ref uE, .ref qU, .ref uJ, .ref uL, .ref uI, .int oX, .int rJ, .int pN, .int rP])), (uI, .inl (cI, 301, .inl vK))]
noncomputable abbrev q_X5_duskWorth (dC : Nat → ClassId) (dI : Nat → Nat → Nat) (cI cC cZ cB cJ : ClassId) (A : Nat → Prop) (xD wY wJ uE qU uJ uL uI : Nat) (oX rJ pN rP : Int32) (vK : Nat → Int32) (post : Int32 → Prop) : Array Value → State → Outcome → State → Prop := va_Qi (fun (r : Int32) (u : Unit) => post r) (fun u t => gB (dC, dI) (tyl cI cC cZ cB cJ) A (wd_X5_duskWorth cI cC cZ cB cJ xD wY wJ uE qU uJ uL uI oX rJ pN rP vK) t) A
noncomputable abbrev rm_X5_duskWorth : Room := { frames := 0, cells := 0, slots := 0, locals := 0 }
noncomputable def wp_X5_duskWorth (post : Int32 → Prop) (p0 : Int32) (vK : Nat → Int32) : Prop := vp_in p0 301 ∧ (∀ v_1 : Int32, v_1 = vK p0.toNatClampNeg → (¬ v_1 = (-2147483648) → vp_in p0 301 ∧ (∀ v_2 : Int32, v_2 = vK p0.toNatClampNeg → ∀ v_3 : Int32, v_3 = v_2 + 65535 → post (v_3 >>> (16 &&& 31)))) ∧ (v_1 = (-2147483648) → post (-1)))
set_option maxHeartbeats 4000000 in
set_option maxRecDepth 100000 in
theorem c_X5_duskWorth (l : Launch) (dC : Nat → ClassId) (dI : Nat → Nat → Nat) (cI cC cZ cB cJ : ClassId) (xD wY wJ uE qU uJ uL uI sz : Nat) (p0 oX rJ pN rP : Int32) (vK : Nat → Int32) (post : Int32 → Prop) (hw : wp_X5_duskWorth post p0 vK) : Met l yX5_duskWorth (gw yX5_duskWorth cX5_duskWorth 2 (some .int)) rm_X5_duskWorth (va_Pc [.ref xD, .int p0] (gPre (dC, dI) (tyl cI cC cZ cB cJ) (wd_X5_duskWorth cI cC cZ cB cJ xD wY wJ uE qU uJ uL uI oX rJ pN rP vK) sz)) (q_X5_duskWorth dC dI cI cC cZ cB cJ (va_A (wd_X5_duskWorth cI cC cZ cB cJ xD wY wJ uE qU uJ uL uI oX rJ pN rP vK) sz) xD wY wJ uE qU uJ uL uI oX rJ pN rP vK post) 0 0 (va_A (wd_X5_duskWorth cI cC cZ cB cJ xD wY wJ uE qU uJ uL uI oX rJ pN rP vK) sz) := by
  refine g_enter (own := RX5) (dC, dI) (tyl cI cC cZ cB cJ) (wd_X5_duskWorth cI cC cZ cB cJ xD wY wJ uE qU uJ uL uI oX rJ pN rP vK) sz [.ref xD, .int p0] (fun A => q_X5_duskWorth dC dI cI cC cZ cB cJ A xD wY wJ uE qU uJ uL uI oX rJ pN rP vK post) pn_RX5 rfl (Nat.le_of_ble_eq_true rfl) ?_
  intro p e s m args below meth c A H locs ls C0 hP hD hS hl
  have hl : lv_has ls 2 [(0, .ref xD), (1, .int p0)] := hl
  obtain ⟨hx, hb, hr, hml, hown, hts, hlocks, hA, hK, hN, tL, tM, hZL, hTL, hZM, hTM, hZX⟩ := id C0
  have hp := hw
  unfold wp_X5_duskWorth at hp
  refine lv_aload_n hx hb eX5_duskWorth_0.1 rfl (lv_at hl 0 rfl) ?_
  refine va_get (D := (dC, dI)) (ci := 5) (v := .ref uI) (C := RX5) (T := TX5) (N := 11) hx hb hts i_X5 hown hK hP 0 rfl rfl 6 (Nat.le_of_ble_eq_true rfl) (hts _ q_545) (fun _ h9 => h9) rfl eX5_duskWorth_0.2.1 ?_
  refine lv_iload_n hx hb eX5_duskWorth_0.2.2.1 rfl (lv_at hl 1 rfl) ?_
  have hin := hp.1
  have hp := hp.2
  refine va_iald hx hb hK hP 1 0 rfl rfl hin eX5_duskWorth_0.2.2.2.1 ?_
  refine lv_topi (fun v_1 ev_1 => ?_)
  have hp := hp v_1 ev_1
  refine lv_ldc (v := (-2147483648)) hx hb hown (hts _ q_546) eX5_duskWorth_0.2.2.2.2.1 ?_
  refine lv_icmp_ne (tgt := 15) hx hb eX5_duskWorth_0.2.2.2.2.2.1 (by decide) (fun hc => ?_) (fun hc => ?_)
  · have hp := hp.1 hc
    refine lv_aload_n hx hb eX5_duskWorth_0.2.2.2.2.2.2.2.2.1 rfl (lv_at hl 0 rfl) ?_
    refine va_get (D := (dC, dI)) (ci := 5) (v := .ref uI) (C := RX5) (T := TX5) (N := 11) hx hb hts i_X5 hown hK hP 0 rfl rfl 6 (Nat.le_of_ble_eq_true rfl) (hts _ q_545) (fun _ h9 => h9) rfl eX5_duskWorth_0.2.2.2.2.2.2.2.2.2.1 ?_
    refine lv_iload_n hx hb eX5_duskWorth_0.2.2.2.2.2.2.2.2.2.2.1 rfl (lv_at hl 1 rfl) ?_
    have hin := hp.1
    have hp := hp.2
    refine va_iald hx hb hK hP 1 0 rfl rfl hin eX5_duskWorth_0.2.2.2.2.2.2.2.2.2.2.2.1 ?_
    refine lv_topi (fun v_2 ev_2 => ?_)
    have hp := hp v_2 ev_2
    refine lv_ldc (v := 65535) hx hb hown (hts _ q_554) eX5_duskWorth_0.2.2.2.2.2.2.2.2.2.2.2.2.1 ?_
    refine lv_iadd hx hb eX5_duskWorth_0.2.2.2.2.2.2.2.2.2.2.2.2.2.1 ?_
    refine lv_topi (fun v_3 ev_3 => ?_)
    have hp := hp v_3 ev_3
    refine lv_bipush (v := 16) hx hb eX5_duskWorth_0.2.2.2.2.2.2.2.2.2.2.2.2.2.2.1 bp_16 ?_
    refine lv_ishr hx hb eX5_duskWorth_0.2.2.2.2.2.2.2.2.2.2.2.2.2.2.2 ?_
    exact W.iret (v := v_3 >>> (16 &&& 31)) hx hb hr (fun t ht hW => ⟨⟨v_3 >>> (16 &&& 31), (), rfl, hp, by rw [ht]; exact hP, va_K.moved hW.alike hK, hD⟩, hS.F ht⟩) hS.2.2 dX5_duskWorth_27
  · have hp := hp.2 hc
    refine lv_iconst (v := (-1)) hx hb eX5_duskWorth_0.2.2.2.2.2.2.1 ic_m1 ?_
    refine lv_goto (tgt := 27) hx hb eX5_duskWorth_0.2.2.2.2.2.2.2.1 (by decide) ?_
    exact W.iret (v := (-1)) hx hb hr (fun t ht hW => ⟨⟨(-1), (), rfl, hp, by rw [ht]; exact hP, va_K.moved hW.alike hK, hD⟩, hS.F ht⟩) hS.2.2 dX5_duskWorth_27
noncomputable abbrev wd_X5_duskFruits (cI cC cZ cB cJ : ClassId) (xD wY wJ uE qU uJ uL uI : Nat) (oX rJ pN rP : Int32) (vK : Nat → Int32) : va_W := [(xD, .inr (5, [.ref wY, .ref wJ, .ref uE, .ref qU, .ref uJ, .ref uL, .ref uI, .int oX, .int rJ, .int pN, .int rP])), (uI, .inl (cI, 301, .inl vK))]
noncomputable abbrev q_X5_duskFruits (dC : Nat → ClassId) (dI : Nat → Nat → Nat) (cI cC cZ cB cJ : ClassId) (A : Nat → Prop) (xD wY wJ uE qU uJ uL uI : Nat) (oX rJ pN rP : Int32) (vK : Nat → Int32) (post : Int32 → Prop) : Array Value → State → Outcome → State → Prop := va_Qi (fun (r : Int32) (u : Unit) => post r) (fun u t => gB (dC, dI) (tyl cI cC cZ cB cJ) A (wd_X5_duskFruits cI cC cZ cB cJ xD wY wJ uE qU uJ uL uI oX rJ pN rP vK) t) A
noncomputable abbrev rm_X5_duskFruits : Room := { frames := 0, cells := 0, slots := 0, locals := 0 }
noncomputable def wp_X5_duskFruits (post : Int32 → Prop) (p0 : Int32) (vK : Nat → Int32) : Prop := vp_in p0 301 ∧ (∀ v_1 : Int32, v_1 = vK p0.toNatClampNeg → (¬ v_1 = (-2147483648) → vp_in p0 301 ∧ (∀ v_2 : Int32, v_2 = -(vK p0.toNatClampNeg) → post (v_2 &&& 65535))) ∧ (v_1 = (-2147483648) → post 0))
set_option maxHeartbeats 4000000 in
set_option maxRecDepth 100000 in
theorem c_X5_duskFruits (l : Launch) (dC : Nat → ClassId) (dI : Nat → Nat → Nat) (cI cC cZ cB cJ : ClassId) (xD wY wJ uE qU uJ uL uI sz : Nat) (p0 oX rJ pN rP : Int32) (vK : Nat → Int32) (post : Int32 → Prop) (hw : wp_X5_duskFruits post p0 vK) : Met l yX5_duskFruits (gw yX5_duskFruits cX5_duskFruits 2 (some .int)) rm_X5_duskFruits (va_Pc [.ref xD, .int p0] (gPre (dC, dI) (tyl cI cC cZ cB cJ) (wd_X5_duskFruits cI cC cZ cB cJ xD wY wJ uE qU uJ uL uI oX rJ pN rP vK) sz)) (q_X5_duskFruits dC dI cI cC cZ cB cJ (va_A (wd_X5_duskFruits cI cC cZ cB cJ xD wY wJ uE qU uJ uL uI oX rJ pN rP vK) sz) xD wY wJ uE qU uJ uL uI oX rJ pN rP vK post) 0 0 (va_A (wd_X5_duskFruits cI cC cZ cB cJ xD wY wJ uE qU uJ uL uI oX rJ pN rP vK) sz) := by
  refine g_enter (own := RX5) (dC, dI) (tyl cI cC cZ cB cJ) (wd_X5_duskFruits cI cC cZ cB cJ xD wY wJ uE qU uJ uL uI oX rJ pN rP vK) sz [.ref xD, .int p0] (fun A => q_X5_duskFruits dC dI cI cC cZ cB cJ A xD wY wJ uE qU uJ uL uI oX rJ pN rP vK post) pn_RX5 rfl (Nat.le_of_ble_eq_true rfl) ?_
  intro p e s m args below meth c A H locs ls C0 hP hD hS hl
  have hl : lv_has ls 2 [(0, .ref xD), (1, .int p0)] := hl
  obtain ⟨hx, hb, hr, hml, hown, hts, hlocks, hA, hK, hN, tL, tM, hZL, hTL, hZM, hTM, hZX⟩ := id C0
  have hp := hw
  unfold wp_X5_duskFruits at hp
  refine lv_aload_n hx hb eX5_duskFruits_0.1 rfl (lv_at hl 0 rfl) ?_
  refine va_get (D := (dC, dI)) (ci := 5) (v := .ref uI) (C := RX5) (T := TX5) (N := 11) hx hb hts i_X5 hown hK hP 0 rfl rfl 6 (Nat.le_of_ble_eq_true rfl) (hts _ q_545) (fun _ h9 => h9) rfl eX5_duskFruits_0.2.1 ?_
  refine lv_iload_n hx hb eX5_duskFruits_0.2.2.1 rfl (lv_at hl 1 rfl) ?_
  have hin := hp.1
  have hp := hp.2
  refine va_iald hx hb hK hP 1 0 rfl rfl hin eX5_duskFruits_0.2.2.2.1 ?_
  refine lv_topi (fun v_1 ev_1 => ?_)
  have hp := hp v_1 ev_1
  refine lv_ldc (v := (-2147483648)) hx hb hown (hts _ q_546) eX5_duskFruits_0.2.2.2.2.1 ?_
  refine lv_icmp_ne (tgt := 15) hx hb eX5_duskFruits_0.2.2.2.2.2.1 (by decide) (fun hc => ?_) (fun hc => ?_)
  · have hp := hp.1 hc
    refine lv_aload_n hx hb eX5_duskFruits_0.2.2.2.2.2.2.2.2.1 rfl (lv_at hl 0 rfl) ?_
    refine va_get (D := (dC, dI)) (ci := 5) (v := .ref uI) (C := RX5) (T := TX5) (N := 11) hx hb hts i_X5 hown hK hP 0 rfl rfl 6 (Nat.le_of_ble_eq_true rfl) (hts _ q_545) (fun _ h9 => h9) rfl eX5_duskFruits_0.2.2.2.2.2.2.2.2.2.1 ?_
    refine lv_iload_n hx hb eX5_duskFruits_0.2.2.2.2.2.2.2.2.2.2.1 rfl (lv_at hl 1 rfl) ?_
    have hin := hp.1
    have hp := hp.2
    refine va_iald hx hb hK hP 1 0 rfl rfl hin eX5_duskFruits_0.2.2.2.2.2.2.2.2.2.2.2.1 ?_
    refine lv_ineg hx hb eX5_duskFruits_0.2.2.2.2.2.2.2.2.2.2.2.2.1 ?_
    refine lv_topi (fun v_2 ev_2 => ?_)
    have hp := hp v_2 ev_2
    refine lv_ldc (v := 65535) hx hb hown (hts _ q_554) eX5_duskFruits_0.2.2.2.2.2.2.2.2.2.2.2.2.2.1 ?_
    refine lv_iand hx hb eX5_duskFruits_0.2.2.2.2.2.2.2.2.2.2.2.2.2.2.1 ?_
    exact W.iret (v := v_2 &&& 65535) hx hb hr (fun t ht hW => ⟨⟨v_2 &&& 65535, (), rfl, hp, by rw [ht]; exact hP, va_K.moved hW.alike hK, hD⟩, hS.F ht⟩) hS.2.2 eX5_duskFruits_0.2.2.2.2.2.2.2.2.2.2.2.2.2.2.2
  · have hp := hp.2 hc
    refine lv_iconst (v := 0) hx hb eX5_duskFruits_0.2.2.2.2.2.2.1 ic_0 ?_
    refine lv_goto (tgt := 25) hx hb eX5_duskFruits_0.2.2.2.2.2.2.2.1 (by decide) ?_
    exact W.iret (v := 0) hx hb hr (fun t ht hW => ⟨⟨0, (), rfl, hp, by rw [ht]; exact hP, va_K.moved hW.alike hK, hD⟩, hS.F ht⟩) hS.2.2 eX5_duskFruits_0.2.2.2.2.2.2.2.2.2.2.2.2.2.2.2
noncomputable abbrev wd_X9_dusk (cI cC cZ cB cJ : ClassId) (a_x xG xD wY wJ wQ xI xK xJ tW uE qU uJ uL uI xH tX jE mX pD oO oQ eG uS sW uR qY sY qT : Nat) (oX rJ pN rP : Int32) (vK : Nat → Int32) (bZ bD bI aI : Int32) (wD gF pE qA nJ nY dQ : Nat → Int32) (jC eO eW dO fJ fY jD nG pG qB sH uP pQ mW : Int32) (qO qQ oF : Nat → Int32) (qF : Int32) (jJ : Nat → Int32) : va_W := [(a_x, .inr (9, [.ref xG, .ref xD, .ref wY, .ref wJ, .ref wQ, .ref xI, .ref xK, .ref xJ, .ref tW])), (xD, .inr (5, [.ref wY, .ref wJ, .ref uE, .ref qU, .ref uJ, .ref uL, .ref uI, .int oX, .int rJ, .int pN, .int rP])), (uI, .inl (cI, 301, .inl vK)), (wY, .inr (0, [.ref wJ, .ref wQ, .ref xH])), (wJ, .inr (3, [.ref tX, .ref jE, .ref mX, .ref pD, .ref oO, .ref oQ, .ref eG, .int bZ, .int bD, .int bI, .int aI])), (tX, .inl (cI, 16, .inl wD)), (jE, .inl (cI, 16, .inl gF)), (mX, .inl (cI, 16, .inl pE)), (pD, .inl (cI, 16, .inl qA)), (oO, .inl (cI, 8, .inl nJ)), (oQ, .inl (cI, 8, .inl nY)), (eG, .inl (cI, 5, .inl dQ)), (wQ, .inr (2, [.int jC, .int eO, .int eW, .int dO, .int fJ, .int fY, .int jD, .int nG])), (xH, .inr (7, [.ref uS, .ref sW, .ref uR, .ref qY, .ref sY, .int pG, .int qB, .int sH, .int uP, .int pQ, .int mW])), (uS, .inl (cI, 7, .inl qO)), (uR, .inl (cI, 40, .inl qQ)), (qY, .inl (cI, 40, .inl oF)), (xK, .inr (6, [.ref qT, .int qF])), (qT, .inl (cI, 16, .inl jJ))]
noncomputable abbrev q_X9_dusk (dC : Nat → ClassId) (dI : Nat → Nat → Nat) (cI cC cZ cB cJ : ClassId) (A : Nat → Prop) (a_x xG xD wY wJ wQ xI xK xJ tW uE qU uJ uL uI xH tX jE mX pD oO oQ eG uS sW uR qY sY qT : Nat) (oX rJ pN rP bZ bD bI aI : Int32) (wD gF pE qA nJ nY dQ : Nat → Int32) (jC eO eW dO fJ fY jD nG pG qB sH uP pQ mW : Int32) (oF : Nat → Int32) (post : Int32 → (Nat → Int32) → (Nat → Int32) → (Nat → Int32) → Int32 → (Nat → Int32) → Prop) : Array Value → State → Outcome → State → Prop := va_Qi (fun (r : Int32) (u : (Nat → Int32) × (Nat → Int32) × (Nat → Int32) × Int32 × (Nat → Int32)) => post r u.1 u.2.1 u.2.2.1 u.2.2.2.1 u.2.2.2.2) (fun u t => gB (dC, dI) (tyl cI cC cZ cB cJ) A (wd_X9_dusk cI cC cZ cB cJ a_x xG xD wY wJ wQ xI xK xJ tW uE qU uJ uL uI xH tX jE mX pD oO oQ eG uS sW uR qY sY qT oX rJ pN rP u.1 bZ bD bI aI wD gF pE qA nJ nY dQ jC eO eW dO fJ fY jD nG pG qB sH uP pQ mW u.2.1 u.2.2.1 oF u.2.2.2.1 u.2.2.2.2) t) A
noncomputable abbrev rm_X9_dusk : Room := { frames := 5, cells := 0, slots := 0, locals := 118 }
section S_X9_dusk
variable {p : Program} {l : Launch} {e : Env} {s : State} {m : MethodId} {args : Array Value} {below : List Frame} {meth : Method} {c : Code} {dC : Nat → ClassId} {dI : Nat → Nat → Nat} {cI cC cZ cB cJ : ClassId} {A : Nat → Prop} {a_x xG xD wY wJ wQ xI xK xJ tW uE qU uJ uL uI xH tX jE mX pD oO oQ eG uS sW uR qY sY qT : Nat} {oX rJ pN rP bZ bD bI aI : Int32} {wD gF pE qA nJ nY dQ : Nat → Int32} {jC eO eW dO fJ fY jD nG pG qB sH uP pQ mW : Int32} {oF : Nat → Int32} {post : Int32 → (Nat → Int32) → (Nat → Int32) → (Nat → Int32) → Int32 → (Nat → Int32) → Prop}
noncomputable def ws_X9_dusk_85 (post : Int32 → (Nat → Int32) → (Nat → Int32) → (Nat → Int32) → Int32 → (Nat → Int32) → Prop) (K45 : Int32 → Int32 → Int32 → Int32 → Int32 → (Nat → Int32) → (Nat → Int32) → (Nat → Int32) → Int32 → (Nat → Int32) → Prop) (bZ : Int32) (wD gF pE qA nJ nY dQ : Nat → Int32) (jC eO eW dO fJ fY jD pG : Int32) (oF : Nat → Int32) (x1 x2 x3 x4 x5 : Int32) (vK qO qQ : Nat → Int32) (qF : Int32) (jJ : Nat → Int32) : Prop := ∀ v_7 : Int32, v_7 = x5 + 1 → K45 x1 x2 x3 x4 v_7 vK qO qQ qF jJ
set_option maxHeartbeats 4000000 in
set_option maxRecDepth 100000 in
theorem ks_X9_dusk_85 (C0 : gc cX9_dusk (some .int) 7 RX9 (dC, dI) (tyl cI cC cZ cB cJ) A p s m args meth c) {K45 : Int32 → Int32 → Int32 → Int32 → Int32 → (Nat → Int32) → (Nat → Int32) → (Nat → Int32) → Int32 → (Nat → Int32) → Prop} (hK45 : ∀ (x1 : Int32) (x2 : Int32) (x3 : Int32) (x4 : Int32) (x5 : Int32) (vK : Nat → Int32) (qO : Nat → Int32) (qQ : Nat → Int32) (qF : Int32) (jJ : Nat → Int32) (H : Heap) (locs : List Loc) (ls : Array Slot), K45 x1 x2 x3 x4 x5 vK qO qQ qF jJ → va_P (dC, dI) classes (wd_X9_dusk cI cC cZ cB cJ a_x xG xD wY wJ wQ xI xK xJ tW uE qU uJ uL uI xH tX jE mX pD oO oQ eG uS sW uR qY sY qT oX rJ pN rP vK bZ bD bI aI wD gF pE qA nJ nY dQ jC eO eW dO fJ fY jD nG pG qB sH uP pQ mW qO qQ oF qF jJ) H → va_D A (wd_X9_dusk cI cC cZ cB cJ a_x xG xD wY wJ wQ xI xK xJ tW uE qU uJ uL uI xH tX jE mX pD oO oQ eG uS sW uR qY sY qT oX rJ pN rP vK bZ bD bI aI wD gF pE qA nJ nY dQ jC eO eW dO fJ fY jD nG pG qB sH uP pQ mW qO qQ oF qF jJ) → va_S A s.heap H locs → lv_has ls 7 [(0, .ref a_x), (1, .int x1), (2, .int x2), (3, .int x3), (4, .int x4), (5, .int x5)] → W p l e rm_X9_dusk s m args below meth c H locs 0 0 (MQ below (q_X9_dusk dC dI cI cC cZ cB cJ A a_x xG xD wY wJ wQ xI xK xJ tW uE qU uJ uL uI xH tX jE mX pD oO oQ eG uS sW uR qY sY qT oX rJ pN rP bZ bD bI aI wD gF pE qA nJ nY dQ jC eO eW dO fJ fY jD nG pG qB sH uP pQ mW oF post) args s 0 0 A) (F0 m 45 ls [])) : ∀ (x1 x2 x3 x4 x5 : Int32) (vK qO qQ : Nat → Int32) (qF : Int32) (jJ : Nat → Int32) (H : Heap) (locs : List Loc) (ls : Array Slot), (ws_X9_dusk_85 post K45 bZ wD gF pE qA nJ nY dQ jC eO eW dO fJ fY jD pG oF) x1 x2 x3 x4 x5 vK qO qQ qF jJ → va_P (dC, dI) classes (wd_X9_dusk cI cC cZ cB cJ a_x xG xD wY wJ wQ xI xK xJ tW uE qU uJ uL uI xH tX jE mX pD oO oQ eG uS sW uR qY sY qT oX rJ pN rP vK bZ bD bI aI wD gF pE qA nJ nY dQ jC eO eW dO fJ fY jD nG pG qB sH uP pQ mW qO qQ oF qF jJ) H → va_D A (wd_X9_dusk cI cC cZ cB cJ a_x xG xD wY wJ wQ xI xK xJ tW uE qU uJ uL uI xH tX jE mX pD oO oQ eG uS sW uR qY sY qT oX rJ pN rP vK bZ bD bI aI wD gF pE qA nJ nY dQ jC eO eW dO fJ fY jD nG pG qB sH uP pQ mW qO qQ oF qF jJ) → va_S A s.heap H locs → lv_has ls 7 [(0, .ref a_x), (1, .int x1), (2, .int x2), (3, .int x3), (4, .int x4), (5, .int x5)] → W p l e rm_X9_dusk s m args below meth c H locs 0 0 (MQ below (q_X9_dusk dC dI cI cC cZ cB cJ A a_x xG xD wY wJ wQ xI xK xJ tW uE qU uJ uL uI xH tX jE mX pD oO oQ eG uS sW uR qY sY qT oX rJ pN rP bZ bD bI aI wD gF pE qA nJ nY dQ jC eO eW dO fJ fY jD nG pG qB sH uP pQ mW oF post) args s 0 0 A) (F0 m 85 ls []) := by
  obtain ⟨hx, hb, hr, hml, hown, hts, hlocks, hA, hK, hN, tL, tM, hZL, hTL, hZM, hTM, hZX⟩ := id C0
  intro x1 x2 x3 x4 x5 vK qO qQ qF jJ H locs ls hp hP hD hS hl
  unfold ws_X9_dusk_85 at hp
  obtain ⟨v_7, ev_7⟩ : ∃ y : Int32, y = x5 + 1 := ⟨_, rfl⟩
  refine lv_iinc (v := v_7) (lv' := [(5, .int v_7), (0, .ref a_x), (1, .int x1), (2, .int x2), (3, .int x3), (4, .int x4)]) hx hb eX9_dusk_57.2.2.2.2.2.2.2.2.2.2.2.2.2.2.1 hl (k := 5) rfl (by rw [ev_7]; rfl) (by decide) rfl (fun ls hl => ?_)
  have hp := hp v_7 ev_7
  refine lv_goto (tgt := 45) hx hb eX9_dusk_57.2.2.2.2.2.2.2.2.2.2.2.2.2.2.2 (by decide) ?_
  exact hK45 x1 x2 x3 x4 v_7 vK qO qQ qF jJ H locs ls hp hP hD hS (lv_sub hl [1, 2, 3, 4, 5, 0] rfl)
noncomputable def ws_X9_dusk_45 (post : Int32 → (Nat → Int32) → (Nat → Int32) → (Nat → Int32) → Int32 → (Nat → Int32) → Prop) (next : Int32 → Int32 → Int32 → Int32 → Int32 → (Nat → Int32) → (Nat → Int32) → (Nat → Int32) → Int32 → (Nat → Int32) → Prop) (bZ : Int32) (wD gF pE qA nJ nY dQ : Nat → Int32) (jC eO eW dO fJ fY jD pG : Int32) (oF : Nat → Int32) (x1 x2 x3 x4 x5 : Int32) (vK qO qQ : Nat → Int32) (qF : Int32) (jJ : Nat → Int32) : Prop := (x1 < x5 → wp_X9_tell_ (fun aLe aDm => post x2 vK qO qQ aLe aDm) x3 x4 qF jJ) ∧ (¬ x1 < x5 → wp_X5_duskWorth (fun r_6 => (r_6 ≤ x2 → ws_X9_dusk_85 post next bZ wD gF pE qA nJ nY dQ jC eO eW dO fJ fY jD pG oF x1 x2 x3 x4 x5 vK qO qQ qF jJ) ∧ (¬ r_6 ≤ x2 → wp_X5_duskFruits (fun r_8 => ws_X9_dusk_85 post next bZ wD gF pE qA nJ nY dQ jC eO eW dO fJ fY jD pG oF x1 r_6 r_8 x5 x5 vK qO qQ qF jJ) x5 vK)) x5 vK)
noncomputable def wb_X9_dusk_45 (post : Int32 → (Nat → Int32) → (Nat → Int32) → (Nat → Int32) → Int32 → (Nat → Int32) → Prop) (bZ : Int32) (wD gF pE qA nJ nY dQ : Nat → Int32) (jC eO eW dO fJ fY jD pG : Int32) (oF : Nat → Int32) : Nat → Int32 → Int32 → Int32 → Int32 → Int32 → (Nat → Int32) → (Nat → Int32) → (Nat → Int32) → Int32 → (Nat → Int32) → Prop := fun n => Nat.rec (motive := fun _ => Int32 → Int32 → Int32 → Int32 → Int32 → (Nat → Int32) → (Nat → Int32) → (Nat → Int32) → Int32 → (Nat → Int32) → Prop) (fun _ _ _ _ _ _ _ _ _ _ => False) (fun _ ih => ws_X9_dusk_45 post ih bZ wD gF pE qA nJ nY dQ jC eO eW dO fJ fY jD pG oF) n
set_option maxHeartbeats 4000000 in
set_option maxRecDepth 100000 in
theorem ks_X9_dusk_45 (C0 : gc cX9_dusk (some .int) 7 RX9 (dC, dI) (tyl cI cC cZ cB cJ) A p s m args meth c) {next : Int32 → Int32 → Int32 → Int32 → Int32 → (Nat → Int32) → (Nat → Int32) → (Nat → Int32) → Int32 → (Nat → Int32) → Prop} (hKn : ∀ (x1 : Int32) (x2 : Int32) (x3 : Int32) (x4 : Int32) (x5 : Int32) (vK : Nat → Int32) (qO : Nat → Int32) (qQ : Nat → Int32) (qF : Int32) (jJ : Nat → Int32) (H : Heap) (locs : List Loc) (ls : Array Slot), next x1 x2 x3 x4 x5 vK qO qQ qF jJ → va_P (dC, dI) classes (wd_X9_dusk cI cC cZ cB cJ a_x xG xD wY wJ wQ xI xK xJ tW uE qU uJ uL uI xH tX jE mX pD oO oQ eG uS sW uR qY sY qT oX rJ pN rP vK bZ bD bI aI wD gF pE qA nJ nY dQ jC eO eW dO fJ fY jD nG pG qB sH uP pQ mW qO qQ oF qF jJ) H → va_D A (wd_X9_dusk cI cC cZ cB cJ a_x xG xD wY wJ wQ xI xK xJ tW uE qU uJ uL uI xH tX jE mX pD oO oQ eG uS sW uR qY sY qT oX rJ pN rP vK bZ bD bI aI wD gF pE qA nJ nY dQ jC eO eW dO fJ fY jD nG pG qB sH uP pQ mW qO qQ oF qF jJ) → va_S A s.heap H locs → lv_has ls 7 [(0, .ref a_x), (1, .int x1), (2, .int x2), (3, .int x3), (4, .int x4), (5, .int x5)] → W p l e rm_X9_dusk s m args below meth c H locs 0 0 (MQ below (q_X9_dusk dC dI cI cC cZ cB cJ A a_x xG xD wY wJ wQ xI xK xJ tW uE qU uJ uL uI xH tX jE mX pD oO oQ eG uS sW uR qY sY qT oX rJ pN rP bZ bD bI aI wD gF pE qA nJ nY dQ jC eO eW dO fJ fY jD nG pG qB sH uP pQ mW oF post) args s 0 0 A) (F0 m 45 ls [])) : ∀ (x1 x2 x3 x4 x5 : Int32) (vK qO qQ : Nat → Int32) (qF : Int32) (jJ : Nat → Int32) (H : Heap) (locs : List Loc) (ls : Array Slot), (ws_X9_dusk_45 post next bZ wD gF pE qA nJ nY dQ jC eO eW dO fJ fY jD pG oF) x1 x2 x3 x4 x5 vK qO qQ qF jJ → va_P (dC, dI) classes (wd_X9_dusk cI cC cZ cB cJ a_x xG xD wY wJ wQ xI xK xJ tW uE qU uJ uL uI xH tX jE mX pD oO oQ eG uS sW uR qY sY qT oX rJ pN rP vK bZ bD bI aI wD gF pE qA nJ nY dQ jC eO eW dO fJ fY jD nG pG qB sH uP pQ mW qO qQ oF qF jJ) H → va_D A (wd_X9_dusk cI cC cZ cB cJ a_x xG xD wY wJ wQ xI xK xJ tW uE qU uJ uL uI xH tX jE mX pD oO oQ eG uS sW uR qY sY qT oX rJ pN rP vK bZ bD bI aI wD gF pE qA nJ nY dQ jC eO eW dO fJ fY jD nG pG qB sH uP pQ mW qO qQ oF qF jJ) → va_S A s.heap H locs → lv_has ls 7 [(0, .ref a_x), (1, .int x1), (2, .int x2), (3, .int x3), (4, .int x4), (5, .int x5)] → W p l e rm_X9_dusk s m args below meth c H locs 0 0 (MQ below (q_X9_dusk dC dI cI cC cZ cB cJ A a_x xG xD wY wJ wQ xI xK xJ tW uE qU uJ uL uI xH tX jE mX pD oO oQ eG uS sW uR qY sY qT oX rJ pN rP bZ bD bI aI wD gF pE qA nJ nY dQ jC eO eW dO fJ fY jD nG pG qB sH uP pQ mW oF post) args s 0 0 A) (F0 m 45 ls []) := by
  obtain ⟨hx, hb, hr, hml, hown, hts, hlocks, hA, hK, hN, tL, tM, hZL, hTL, hZM, hTM, hZX⟩ := id C0
  intro x1 x2 x3 x4 x5 vK qO qQ qF jJ H locs ls hp hP hD hS hl
  unfold ws_X9_dusk_45 at hp
  refine lv_iload hx hb eX9_dusk_31.2.2.2.2.2.2.2.2.2.2.1 (lv_at hl 5 rfl) ?_
  refine lv_iload_n hx hb eX9_dusk_31.2.2.2.2.2.2.2.2.2.2.2.1 rfl (lv_at hl 1 rfl) ?_
  refine lv_icmp_gt (tgt := 91) hx hb eX9_dusk_31.2.2.2.2.2.2.2.2.2.2.2.2.1 (by decide) (fun hc => ?_) (fun hc => ?_)
  · have hp := hp.1 hc
    refine lv_aload_n hx hb eX9_dusk_91.1 rfl (lv_at hl 0 rfl) ?_
    refine lv_iload_n hx hb eX9_dusk_91.2.1 rfl (lv_at hl 3 rfl) ?_
    refine lv_iload hx hb eX9_dusk_91.2.2.1 (lv_at hl 4 rfl) ?_
    have hm := mgk (wc := (wd_X9_tell_ cI cC cZ cB cJ a_x xG xD wY wJ wQ xI xK xJ tW qT qF jJ)) hP mk_151 19 rfl rfl rfl
    refine g_callv hP hD hS hA (mixT mk_151) (mixF mk_151) hm.1 hm.2 (nd_F _) (dis_g _) (g_runV (As := [.int x3, .int x4]) (rest := []) C0 hP hD hS (mixT mk_151) hm.1 (nd_T _) 0 9 rfl rfl (c_X9_tell_ l dC dI cI cC cZ cB cJ a_x xG xD wY wJ wQ xI xK xJ tW qT H.size x3 x4 qF jJ _ hp) q_377 q_380 q_378 q_379 q_256 h_X9_tell_ rfl rfl ⟨Nat.le_of_ble_eq_true rfl, Nat.le_of_ble_eq_true rfl⟩ rfl rfl hl.1 rfl (lv_room (Nat.le_of_ble_eq_true rfl)) eX9_dusk_91.2.2.2.1 ⟨Nat.zero_le _, Nat.zero_le _⟩) (fun u H locs hp hP hD hS => ?_)
    obtain ⟨aLe, aDm⟩ := u
    have hPD := PDm (ws' := (wd_X9_dusk cI cC cZ cB cJ a_x xG xD wY wJ wQ xI xK xJ tW uE qU uJ uL uI xH tX jE mX pD oO oQ eG uS sW uR qY sY qT oX rJ pN rP vK bZ bD bI aI wD gF pE qA nJ nY dQ jC eO eW dO fJ fY jD nG pG qB sH uP pQ mW qO qQ oF aLe aDm)) hP hD 19 rfl rfl rfl
    have hP := hPD.1
    have hD := hPD.2
    refine lv_iload_n hx hb eX9_dusk_91.2.2.2.2.1 rfl (lv_at hl 2 rfl) ?_
    exact W.iret (v := x2) hx hb hr (fun t ht hW => ⟨⟨x2, (vK, qO, qQ, aLe, aDm), rfl, hp, by rw [ht]; exact hP, va_K.moved hW.alike hK, hD⟩, hS.F ht⟩) hS.2.2 eX9_dusk_91.2.2.2.2.2
  · have hp := hp.2 hc
    refine lv_aload_n hx hb eX9_dusk_31.2.2.2.2.2.2.2.2.2.2.2.2.2.1 rfl (lv_at hl 0 rfl) ?_
    refine va_get (D := (dC, dI)) (ci := 9) (v := .ref xD) (C := RX9) (T := TX9) (N := 9) hx hb hts i_X9 hown hK hP 0 rfl rfl 1 (Nat.le_of_ble_eq_true rfl) (hts _ q_444) (fun _ h9 => h9) rfl eX9_dusk_31.2.2.2.2.2.2.2.2.2.2.2.2.2.2.1 ?_
    refine lv_iload hx hb eX9_dusk_31.2.2.2.2.2.2.2.2.2.2.2.2.2.2.2 (lv_at hl 5 rfl) ?_
    have hm := mgk (wc := (wd_X5_duskWorth cI cC cZ cB cJ xD wY wJ uE qU uJ uL uI oX rJ pN rP vK)) hP mk_156 19 rfl rfl rfl
    refine g_calli hP hD hS hA (mixT mk_156) (mixF mk_156) hm.1 hm.2 (nd_F _) (dis_g _) (g_runV (As := [.int x5]) (rest := []) C0 hP hD hS (mixT mk_156) hm.1 (nd_T _) 1 5 rfl rfl (c_X5_duskWorth l dC dI cI cC cZ cB cJ xD wY wJ uE qU uJ uL uI H.size x5 oX rJ pN rP vK _ hp) q_559 q_562 q_560 q_561 q_431 h_X5_duskWorth rfl rfl ⟨Nat.le_of_ble_eq_true rfl, Nat.le_of_ble_eq_true rfl⟩ rfl rfl hl.1 rfl (lv_room (Nat.le_of_ble_eq_true rfl)) eX9_dusk_57.1 ⟨Nat.zero_le _, Nat.zero_le _⟩) (fun r_6 u H locs hp hP hD hS => ?_)
    have hPD := PDm (ws' := (wd_X9_dusk cI cC cZ cB cJ a_x xG xD wY wJ wQ xI xK xJ tW uE qU uJ uL uI xH tX jE mX pD oO oQ eG uS sW uR qY sY qT oX rJ pN rP vK bZ bD bI aI wD gF pE qA nJ nY dQ jC eO eW dO fJ fY jD nG pG qB sH uP pQ mW qO qQ oF qF jJ)) hP hD 19 rfl rfl rfl
    have hP := hPD.1
    have hD := hPD.2
    refine lv_istore (lv' := [(6, .int r_6), (0, .ref a_x), (1, .int x1), (2, .int x2), (3, .int x3), (4, .int x4), (5, .int x5)]) hx hb eX9_dusk_57.2.1 hl (by decide) rfl (fun ls hl => ?_)
    refine lv_iload hx hb eX9_dusk_57.2.2.1 (lv_at hl 0 rfl) ?_
    refine lv_iload_n hx hb eX9_dusk_57.2.2.2.1 rfl (lv_at hl 3 rfl) ?_
    refine lv_icmp_le (tgt := 85) hx hb eX9_dusk_57.2.2.2.2.1 (by decide) (fun hc => ?_) (fun hc => ?_)
    · have hp := hp.1 hc
      exact ks_X9_dusk_85 C0 hKn x1 x2 x3 x4 x5 vK qO qQ qF jJ H locs ls hp hP hD hS (lv_sub hl [1, 2, 3, 4, 5, 6] rfl)
    · have hp := hp.2 hc
      refine lv_iload hx hb eX9_dusk_57.2.2.2.2.2.1 (lv_at hl 0 rfl) ?_
      refine lv_istore_n (lv' := [(2, .int r_6), (6, .int r_6), (0, .ref a_x), (1, .int x1), (3, .int x3), (4, .int x4), (5, .int x5)]) hx hb eX9_dusk_57.2.2.2.2.2.2.1 rfl hl (by decide) rfl (fun ls hl => ?_)
      refine lv_aload_n hx hb eX9_dusk_57.2.2.2.2.2.2.2.1 rfl (lv_at hl 2 rfl) ?_
      refine va_get (D := (dC, dI)) (ci := 9) (v := .ref xD) (C := RX9) (T := TX9) (N := 9) hx hb hts i_X9 hown hK hP 0 rfl rfl 1 (Nat.le_of_ble_eq_true rfl) (hts _ q_444) (fun _ h9 => h9) rfl eX9_dusk_57.2.2.2.2.2.2.2.2.1 ?_
      refine lv_iload hx hb eX9_dusk_57.2.2.2.2.2.2.2.2.2.1 (lv_at hl 6 rfl) ?_
      have hm := mgk (wc := (wd_X5_duskFruits cI cC cZ cB cJ xD wY wJ uE qU uJ uL uI oX rJ pN rP vK)) hP mk_156 19 rfl rfl rfl
      refine g_calli hP hD hS hA (mixT mk_156) (mixF mk_156) hm.1 hm.2 (nd_F _) (dis_g _) (g_runV (As := [.int x5]) (rest := []) C0 hP hD hS (mixT mk_156) hm.1 (nd_T _) 1 5 rfl rfl (c_X5_duskFruits l dC dI cI cC cZ cB cJ xD wY wJ uE qU uJ uL uI H.size x5 oX rJ pN rP vK _ hp) q_563 q_566 q_564 q_565 q_431 h_X5_duskFruits rfl rfl ⟨Nat.le_of_ble_eq_true rfl, Nat.le_of_ble_eq_true rfl⟩ rfl rfl hl.1 rfl (lv_room (Nat.le_of_ble_eq_true rfl)) eX9_dusk_57.2.2.2.2.2.2.2.2.2.2.1 ⟨Nat.zero_le _, Nat.zero_le _⟩) (fun r_8 u H locs hp hP hD hS => ?_)
      have hPD := PDm (ws' := (wd_X9_dusk cI cC cZ cB cJ a_x xG xD wY wJ wQ xI xK xJ tW uE qU uJ uL uI xH tX jE mX pD oO oQ eG uS sW uR qY sY qT oX rJ pN rP vK bZ bD bI aI wD gF pE qA nJ nY dQ jC eO eW dO fJ fY jD nG pG qB sH uP pQ mW qO qQ oF qF jJ)) hP hD 19 rfl rfl rfl
      have hP := hPD.1
      have hD := hPD.2
      refine lv_istore_n (lv' := [(3, .int r_8), (2, .int r_6), (6, .int r_6), (0, .ref a_x), (1, .int x1), (4, .int x4), (5, .int x5)]) hx hb eX9_dusk_57.2.2.2.2.2.2.2.2.2.2.2.1 rfl hl (by decide) rfl (fun ls hl => ?_)
      refine lv_iload hx hb eX9_dusk_57.2.2.2.2.2.2.2.2.2.2.2.2.1 (lv_at hl 6 rfl) ?_
      refine lv_istore (lv' := [(4, .int x5), (3, .int r_8), (2, .int r_6), (6, .int r_6), (0, .ref a_x), (1, .int x1), (5, .int x5)]) hx hb eX9_dusk_57.2.2.2.2.2.2.2.2.2.2.2.2.2.1 hl (by decide) rfl (fun ls hl => ?_)
      exact ks_X9_dusk_85 C0 hKn x1 r_6 r_8 x5 x5 vK qO qQ qF jJ H locs ls hp hP hD hS (lv_sub hl [4, 5, 2, 1, 0, 6] rfl)
set_option maxHeartbeats 4000000 in
set_option maxRecDepth 100000 in
theorem kb_X9_dusk_45 (C0 : gc cX9_dusk (some .int) 7 RX9 (dC, dI) (tyl cI cC cZ cB cJ) A p s m args meth c) : ∀ (n : Nat), ∀ (x1 x2 x3 x4 x5 : Int32) (vK qO qQ : Nat → Int32) (qF : Int32) (jJ : Nat → Int32) (H : Heap) (locs : List Loc) (ls : Array Slot), (wb_X9_dusk_45 post bZ wD gF pE qA nJ nY dQ jC eO eW dO fJ fY jD pG oF n) x1 x2 x3 x4 x5 vK qO qQ qF jJ → va_P (dC, dI) classes (wd_X9_dusk cI cC cZ cB cJ a_x xG xD wY wJ wQ xI xK xJ tW uE qU uJ uL uI xH tX jE mX pD oO oQ eG uS sW uR qY sY qT oX rJ pN rP vK bZ bD bI aI wD gF pE qA nJ nY dQ jC eO eW dO fJ fY jD nG pG qB sH uP pQ mW qO qQ oF qF jJ) H → va_D A (wd_X9_dusk cI cC cZ cB cJ a_x xG xD wY wJ wQ xI xK xJ tW uE qU uJ uL uI xH tX jE mX pD oO oQ eG uS sW uR qY sY qT oX rJ pN rP vK bZ bD bI aI wD gF pE qA nJ nY dQ jC eO eW dO fJ fY jD nG pG qB sH uP pQ mW qO qQ oF qF jJ) → va_S A s.heap H locs → lv_has ls 7 [(0, .ref a_x), (1, .int x1), (2, .int x2), (3, .int x3), (4, .int x4), (5, .int x5)] → W p l e rm_X9_dusk s m args below meth c H locs 0 0 (MQ below (q_X9_dusk dC dI cI cC cZ cB cJ A a_x xG xD wY wJ wQ xI xK xJ tW uE qU uJ uL uI xH tX jE mX pD oO oQ eG uS sW uR qY sY qT oX rJ pN rP bZ bD bI aI wD gF pE qA nJ nY dQ jC eO eW dO fJ fY jD nG pG qB sH uP pQ mW oF post) args s 0 0 A) (F0 m 45 ls []) := by
  intro n
  induction n with
  | zero =>
    intro x1 x2 x3 x4 x5 vK qO qQ qF jJ H locs ls hp
    exact False.elim hp
  | succ n ih =>
    intro x1 x2 x3 x4 x5 vK qO qQ qF jJ H locs ls hp
    exact ks_X9_dusk_45 C0 ih x1 x2 x3 x4 x5 vK qO qQ qF jJ H locs ls hp
end S_X9_dusk
noncomputable def wp_X9_dusk (post : Int32 → (Nat → Int32) → (Nat → Int32) → (Nat → Int32) → Int32 → (Nat → Int32) → Prop) (p0 : Int32) (vK : Nat → Int32) (bZ : Int32) (wD gF pE qA nJ nY dQ : Nat → Int32) (jC eO eW dO fJ fY jD pG : Int32) (qO qQ oF : Nat → Int32) (qF : Int32) (jJ : Nat → Int32) : Prop := (p0 < 0 → post (-1) vK qO qQ qF jJ) ∧ (¬ p0 < 0 → (p0 ≤ 300 → (¬ fJ = (-1) → wp_X5_fillDusk (fun pl_best_1 ru_given_2 ru_stack_3 => ∃ n : Nat, wb_X9_dusk_45 post bZ wD gF pE qA nJ nY dQ jC eO eW dO fJ fY jD pG oF n p0 0 0 0 1 pl_best_1 ru_given_2 ru_stack_3 qF jJ) p0 vK bZ wD gF pE qA nJ nY dQ jC eO eW dO fJ fY jD pG qO qQ oF) ∧ (fJ = (-1) → post (-2) vK qO qQ qF jJ)) ∧ (¬ p0 ≤ 300 → post (-1) vK qO qQ qF jJ))
set_option maxHeartbeats 4000000 in
set_option maxRecDepth 100000 in
theorem c_X9_dusk (l : Launch) (dC : Nat → ClassId) (dI : Nat → Nat → Nat) (cI cC cZ cB cJ : ClassId) (a_x xG xD wY wJ wQ xI xK xJ tW uE qU uJ uL uI xH tX jE mX pD oO oQ eG uS sW uR qY sY qT sz : Nat) (p0 oX rJ pN rP : Int32) (vK : Nat → Int32) (bZ bD bI aI : Int32) (wD gF pE qA nJ nY dQ : Nat → Int32) (jC eO eW dO fJ fY jD nG pG qB sH uP pQ mW : Int32) (qO qQ oF : Nat → Int32) (qF : Int32) (jJ : Nat → Int32) (post : Int32 → (Nat → Int32) → (Nat → Int32) → (Nat → Int32) → Int32 → (Nat → Int32) → Prop) (hw : wp_X9_dusk post p0 vK bZ wD gF pE qA nJ nY dQ jC eO eW dO fJ fY jD pG qO qQ oF qF jJ) : Met l yX9_dusk (gw yX9_dusk cX9_dusk 7 (some .int)) rm_X9_dusk (va_Pc [.ref a_x, .int p0] (gPre (dC, dI) (tyl cI cC cZ cB cJ) (wd_X9_dusk cI cC cZ cB cJ a_x xG xD wY wJ wQ xI xK xJ tW uE qU uJ uL uI xH tX jE mX pD oO oQ eG uS sW uR qY sY qT oX rJ pN rP vK bZ bD bI aI wD gF pE qA nJ nY dQ jC eO eW dO fJ fY jD nG pG qB sH uP pQ mW qO qQ oF qF jJ) sz)) (q_X9_dusk dC dI cI cC cZ cB cJ (va_A (wd_X9_dusk cI cC cZ cB cJ a_x xG xD wY wJ wQ xI xK xJ tW uE qU uJ uL uI xH tX jE mX pD oO oQ eG uS sW uR qY sY qT oX rJ pN rP vK bZ bD bI aI wD gF pE qA nJ nY dQ jC eO eW dO fJ fY jD nG pG qB sH uP pQ mW qO qQ oF qF jJ) sz) a_x xG xD wY wJ wQ xI xK xJ tW uE qU uJ uL uI xH tX jE mX pD oO oQ eG uS sW uR qY sY qT oX rJ pN rP bZ bD bI aI wD gF pE qA nJ nY dQ jC eO eW dO fJ fY jD nG pG qB sH uP pQ mW oF post) 0 0 (va_A (wd_X9_dusk cI cC cZ cB cJ a_x xG xD wY wJ wQ xI xK xJ tW uE qU uJ uL uI xH tX jE mX pD oO oQ eG uS sW uR qY sY qT oX rJ pN rP vK bZ bD bI aI wD gF pE qA nJ nY dQ jC eO eW dO fJ fY jD nG pG qB sH uP pQ mW qO qQ oF qF jJ) sz) := by
  refine g_enter (own := RX9) (dC, dI) (tyl cI cC cZ cB cJ) (wd_X9_dusk cI cC cZ cB cJ a_x xG xD wY wJ wQ xI xK xJ tW uE qU uJ uL uI xH tX jE mX pD oO oQ eG uS sW uR qY sY qT oX rJ pN rP vK bZ bD bI aI wD gF pE qA nJ nY dQ jC eO eW dO fJ fY jD nG pG qB sH uP pQ mW qO qQ oF qF jJ) sz [.ref a_x, .int p0] (fun A => q_X9_dusk dC dI cI cC cZ cB cJ A a_x xG xD wY wJ wQ xI xK xJ tW uE qU uJ uL uI xH tX jE mX pD oO oQ eG uS sW uR qY sY qT oX rJ pN rP bZ bD bI aI wD gF pE qA nJ nY dQ jC eO eW dO fJ fY jD nG pG qB sH uP pQ mW oF post) pn_RX9 rfl (Nat.le_of_ble_eq_true rfl) ?_
  intro p e s m args below meth c A H locs ls C0 hP hD hS hl
  have hl : lv_has ls 7 [(0, .ref a_x), (1, .int p0)] := hl
  obtain ⟨hx, hb, hr, hml, hown, hts, hlocks, hA, hK, hN, tL, tM, hZL, hTL, hZM, hTM, hZX⟩ := id C0
  have hp := hw
  unfold wp_X9_dusk at hp
  refine lv_iload_n hx hb eX9_dusk_0.1 rfl (lv_at hl 1 rfl) ?_
  refine lv_if_lt (tgt := 11) hx hb eX9_dusk_0.2.1 (by decide) (fun hc => ?_) (fun hc => ?_)
  · have hp := hp.1 hc
    refine lv_iconst (v := (-1)) hx hb eX9_dusk_0.2.2.2.2.2.1 ic_m1 ?_
    exact W.iret (v := (-1)) hx hb hr (fun t ht hW => ⟨⟨(-1), (vK, qO, qQ, qF, jJ), rfl, hp, by rw [ht]; exact hP, va_K.moved hW.alike hK, hD⟩, hS.F ht⟩) hS.2.2 eX9_dusk_0.2.2.2.2.2.2.1
  · have hp := hp.2 hc
    refine lv_iload_n hx hb eX9_dusk_0.2.2.1 rfl (lv_at hl 1 rfl) ?_
    refine lv_sipush (v := 300) hx hb eX9_dusk_0.2.2.2.1 sp_300 ?_
    refine lv_icmp_le (tgt := 13) hx hb eX9_dusk_0.2.2.2.2.1 (by decide) (fun hc => ?_) (fun hc => ?_)
    · have hp := hp.1 hc
      refine lv_aload_n hx hb eX9_dusk_0.2.2.2.2.2.2.2.1 rfl (lv_at hl 0 rfl) ?_
      refine va_get (D := (dC, dI)) (ci := 9) (v := .ref wQ) (C := RX9) (T := TX9) (N := 9) hx hb hts i_X9 hown hK hP 0 rfl rfl 4 (Nat.le_of_ble_eq_true rfl) (hts _ q_179) (fun _ h9 => h9) rfl eX9_dusk_0.2.2.2.2.2.2.2.2.1 ?_
      refine va_get (D := (dC, dI)) (ci := 2) (v := .int fJ) (C := RX2) (T := TX2) (N := 8) hx hb hts i_X2 hown hK hP 12 rfl rfl 4 (Nat.le_of_ble_eq_true rfl) (hts _ q_497) (fun _ h9 => h9) rfl eX9_dusk_0.2.2.2.2.2.2.2.2.2.1 ?_
      refine lv_iconst (v := (-1)) hx hb eX9_dusk_0.2.2.2.2.2.2.2.2.2.2.1 ic_m1 ?_
      refine lv_icmp_ne (tgt := 27) hx hb eX9_dusk_0.2.2.2.2.2.2.2.2.2.2.2.1 (by decide) (fun hc => ?_) (fun hc => ?_)
      · have hp := hp.1 hc
        refine lv_aload_n hx hb eX9_dusk_0.2.2.2.2.2.2.2.2.2.2.2.2.2.2.1 rfl (lv_at hl 0 rfl) ?_
        refine va_get (D := (dC, dI)) (ci := 9) (v := .ref xD) (C := RX9) (T := TX9) (N := 9) hx hb hts i_X9 hown hK hP 0 rfl rfl 1 (Nat.le_of_ble_eq_true rfl) (hts _ q_444) (fun _ h9 => h9) rfl eX9_dusk_0.2.2.2.2.2.2.2.2.2.2.2.2.2.2.2 ?_
        refine lv_iload_n hx hb eX9_dusk_31.1 rfl (lv_at hl 1 rfl) ?_
        have hm := mgk (wc := (wd_X5_fillDusk cI cC cZ cB cJ xD wY wJ uE qU uJ uL uI wQ xH tX jE mX pD oO oQ eG uS sW uR qY sY oX rJ pN rP vK bZ bD bI aI wD gF pE qA nJ nY dQ jC eO eW dO fJ fY jD nG pG qB sH uP pQ mW qO qQ oF)) hP mk_167 19 rfl rfl rfl
        refine g_callv hP hD hS hA (mixT mk_167) (mixF mk_167) hm.1 hm.2 (nd_F _) (dis_g _) (g_runV (As := [.int p0]) (rest := []) C0 hP hD hS (mixT mk_167) hm.1 (nd_T _) 1 5 rfl rfl (c_X5_fillDusk l dC dI cI cC cZ cB cJ xD wY wJ uE qU uJ uL uI wQ xH tX jE mX pD oO oQ eG uS sW uR qY sY H.size p0 oX rJ pN rP vK bZ bD bI aI wD gF pE qA nJ nY dQ jC eO eW dO fJ fY jD nG pG qB sH uP pQ mW qO qQ oF _ hp) q_555 q_558 q_556 q_557 q_431 h_X5_fillDusk rfl rfl ⟨Nat.le_of_ble_eq_true rfl, Nat.le_of_ble_eq_true rfl⟩ rfl rfl hl.1 rfl (lv_room (Nat.le_of_ble_eq_true rfl)) eX9_dusk_31.2.1 ⟨Nat.zero_le _, Nat.zero_le _⟩) (fun u H locs hp hP hD hS => ?_)
        obtain ⟨pl_best_1, ru_given_2, ru_stack_3⟩ := u
        have hPD := PDm (ws' := (wd_X9_dusk cI cC cZ cB cJ a_x xG xD wY wJ wQ xI xK xJ tW uE qU uJ uL uI xH tX jE mX pD oO oQ eG uS sW uR qY sY qT oX rJ pN rP pl_best_1 bZ bD bI aI wD gF pE qA nJ nY dQ jC eO eW dO fJ fY jD nG pG qB sH uP pQ mW ru_given_2 ru_stack_3 oF qF jJ)) hP hD 19 rfl rfl rfl
        have hP := hPD.1
        have hD := hPD.2
        refine lv_iconst (v := 0) hx hb eX9_dusk_31.2.2.1 ic_0 ?_
        refine lv_istore_n (lv' := [(2, .int 0), (0, .ref a_x), (1, .int p0)]) hx hb eX9_dusk_31.2.2.2.1 rfl hl (by decide) rfl (fun ls hl => ?_)
        refine lv_iconst (v := 0) hx hb eX9_dusk_31.2.2.2.2.1 ic_0 ?_
        refine lv_istore_n (lv' := [(3, .int 0), (2, .int 0), (0, .ref a_x), (1, .int p0)]) hx hb eX9_dusk_31.2.2.2.2.2.1 rfl hl (by decide) rfl (fun ls hl => ?_)
        refine lv_iconst (v := 0) hx hb eX9_dusk_31.2.2.2.2.2.2.1 ic_0 ?_
        refine lv_istore (lv' := [(4, .int 0), (3, .int 0), (2, .int 0), (0, .ref a_x), (1, .int p0)]) hx hb eX9_dusk_31.2.2.2.2.2.2.2.1 hl (by decide) rfl (fun ls hl => ?_)
        refine lv_iconst (v := 1) hx hb eX9_dusk_31.2.2.2.2.2.2.2.2.1 ic_1 ?_
        refine lv_istore (lv' := [(5, .int 1), (4, .int 0), (3, .int 0), (2, .int 0), (0, .ref a_x), (1, .int p0)]) hx hb eX9_dusk_31.2.2.2.2.2.2.2.2.2.1 hl (by decide) rfl (fun ls hl => ?_)
        obtain ⟨n9, hp⟩ := hp
        exact kb_X9_dusk_45 C0 n9 p0 0 0 0 1 pl_best_1 ru_given_2 ru_stack_3 qF jJ H locs ls hp hP hD hS (lv_sub hl [4, 5, 3, 2, 1, 0] rfl)
      · have hp := hp.2 hc
        refine lv_bipush (v := (-2)) hx hb eX9_dusk_0.2.2.2.2.2.2.2.2.2.2.2.2.1 bp_m2 ?_
        exact W.iret (v := (-2)) hx hb hr (fun t ht hW => ⟨⟨(-2), (vK, qO, qQ, qF, jJ), rfl, hp, by rw [ht]; exact hP, va_K.moved hW.alike hK, hD⟩, hS.F ht⟩) hS.2.2 eX9_dusk_0.2.2.2.2.2.2.2.2.2.2.2.2.2.1
    · have hp := hp.2 hc
      refine lv_iconst (v := (-1)) hx hb eX9_dusk_0.2.2.2.2.2.1 ic_m1 ?_
      exact W.iret (v := (-1)) hx hb hr (fun t ht hW => ⟨⟨(-1), (vK, qO, qQ, qF, jJ), rfl, hp, by rw [ht]; exact hP, va_K.moved hW.alike hK, hD⟩, hS.F ht⟩) hS.2.2 eX9_dusk_0.2.2.2.2.2.2.1
noncomputable abbrev wd_X3_firstUncovering (cI cC cZ cB cJ : ClassId) (wJ tX jE mX pD oO oQ eG : Nat) (bZ bD bI aI : Int32) (wD gF : Nat → Int32) : va_W := [(wJ, .inr (3, [.ref tX, .ref jE, .ref mX, .ref pD, .ref oO, .ref oQ, .ref eG, .int bZ, .int bD, .int bI, .int aI])), (tX, .inl (cI, 16, .inl wD)), (jE, .inl (cI, 16, .inl gF))]
noncomputable abbrev q_X3_firstUncovering (dC : Nat → ClassId) (dI : Nat → Nat → Nat) (cI cC cZ cB cJ : ClassId) (A : Nat → Prop) (wJ tX jE mX pD oO oQ eG : Nat) (bZ bD bI aI : Int32) (wD gF : Nat → Int32) (post : Int32 → Prop) : Array Value → State → Outcome → State → Prop := va_Qi (fun (r : Int32) (u : Unit) => post r) (fun u t => gB (dC, dI) (tyl cI cC cZ cB cJ) A (wd_X3_firstUncovering cI cC cZ cB cJ wJ tX jE mX pD oO oQ eG bZ bD bI aI wD gF) t) A
noncomputable abbrev rm_X3_firstUncovering : Room := { frames := 2, cells := 0, slots := 0, locals := 46 }
section S_X3_firstUncovering
variable {p : Program} {l : Launch} {e : Env} {s : State} {m : MethodId} {args : Array Value} {below : List Frame} {meth : Method} {c : Code} {dC : Nat → ClassId} {dI : Nat → Nat → Nat} {cI cC cZ cB cJ : ClassId} {A : Nat → Prop} {wJ tX jE mX pD oO oQ eG : Nat} {bZ bD bI aI : Int32} {wD gF : Nat → Int32} {post : Int32 → Prop}
noncomputable def ws_X3_firstUncovering_29 (post : Int32 → Prop) (K2 : Int32 → Int32 → Int32 → Prop) (bZ : Int32) (wD gF : Nat → Int32) (x1 x2 x3 : Int32) : Prop := ∀ v_2 : Int32, v_2 = x3 + 1 → K2 x1 x2 v_2
set_option maxHeartbeats 4000000 in
set_option maxRecDepth 100000 in
theorem ks_X3_firstUncovering_29 (C0 : gc cX3_firstUncovering (some .int) 4 RX3 (dC, dI) (tyl cI cC cZ cB cJ) A p s m args meth c) {K2 : Int32 → Int32 → Int32 → Prop} (hK2 : ∀ (x1 : Int32) (x2 : Int32) (x3 : Int32) (H : Heap) (locs : List Loc) (ls : Array Slot), K2 x1 x2 x3 → va_P (dC, dI) classes (wd_X3_firstUncovering cI cC cZ cB cJ wJ tX jE mX pD oO oQ eG bZ bD bI aI wD gF) H → va_D A (wd_X3_firstUncovering cI cC cZ cB cJ wJ tX jE mX pD oO oQ eG bZ bD bI aI wD gF) → va_S A s.heap H locs → lv_has ls 4 [(0, .ref wJ), (1, .int x1), (2, .int x2), (3, .int x3)] → W p l e rm_X3_firstUncovering s m args below meth c H locs 0 0 (MQ below (q_X3_firstUncovering dC dI cI cC cZ cB cJ A wJ tX jE mX pD oO oQ eG bZ bD bI aI wD gF post) args s 0 0 A) (F0 m 2 ls [])) : ∀ (x1 x2 x3 : Int32) (H : Heap) (locs : List Loc) (ls : Array Slot), (ws_X3_firstUncovering_29 post K2 bZ wD gF) x1 x2 x3 → va_P (dC, dI) classes (wd_X3_firstUncovering cI cC cZ cB cJ wJ tX jE mX pD oO oQ eG bZ bD bI aI wD gF) H → va_D A (wd_X3_firstUncovering cI cC cZ cB cJ wJ tX jE mX pD oO oQ eG bZ bD bI aI wD gF) → va_S A s.heap H locs → lv_has ls 4 [(0, .ref wJ), (1, .int x1), (2, .int x2), (3, .int x3)] → W p l e rm_X3_firstUncovering s m args below meth c H locs 0 0 (MQ below (q_X3_firstUncovering dC dI cI cC cZ cB cJ A wJ tX jE mX pD oO oQ eG bZ bD bI aI wD gF post) args s 0 0 A) (F0 m 29 ls []) := by
  obtain ⟨hx, hb, hr, hml, hown, hts, hlocks, hA, hK, hN, tL, tM, hZL, hTL, hZM, hTM, hZX⟩ := id C0
  intro x1 x2 x3 H locs ls hp hP hD hS hl
  unfold ws_X3_firstUncovering_29 at hp
  obtain ⟨v_2, ev_2⟩ : ∃ y : Int32, y = x3 + 1 := ⟨_, rfl⟩
  refine lv_iinc (v := v_2) (lv' := [(3, .int v_2), (0, .ref wJ), (1, .int x1), (2, .int x2)]) hx hb eX3_firstUncovering_24.2.2.2.1 hl (k := 3) rfl (by rw [ev_2]; rfl) (by decide) rfl (fun ls hl => ?_)
  have hp := hp v_2 ev_2
  refine lv_goto (tgt := 2) hx hb eX3_firstUncovering_24.2.2.2.2.1 (by decide) ?_
  exact hK2 x1 x2 v_2 H locs ls hp hP hD hS (lv_sub hl [1, 2, 3, 0] rfl)
noncomputable def ws_X3_firstUncovering_2 (post : Int32 → Prop) (next : Int32 → Int32 → Int32 → Prop) (bZ : Int32) (wD gF : Nat → Int32) (x1 x2 x3 : Int32) : Prop := (bZ ≤ x3 → post (-1)) ∧ (¬ bZ ≤ x3 → ∀ v_1 : Int32, v_1 = x1 >>> (x3 &&& 31) → ((v_1 &&& 1) = 0 → ws_X3_firstUncovering_29 post next bZ wD gF x1 x2 x3) ∧ (¬ (v_1 &&& 1) = 0 → wp_X3_lowerThan (fun r_3 => (¬ r_3 = 0 → ws_X3_firstUncovering_29 post next bZ wD gF x1 x2 x3) ∧ (r_3 = 0 → post x3)) x3 x2 bZ wD gF))
noncomputable def wb_X3_firstUncovering_2 (post : Int32 → Prop) (bZ : Int32) (wD gF : Nat → Int32) : Nat → Int32 → Int32 → Int32 → Prop := fun n => Nat.rec (motive := fun _ => Int32 → Int32 → Int32 → Prop) (fun _ _ _ => False) (fun _ ih => ws_X3_firstUncovering_2 post ih bZ wD gF) n
set_option maxHeartbeats 4000000 in
set_option maxRecDepth 100000 in
theorem ks_X3_firstUncovering_2 (C0 : gc cX3_firstUncovering (some .int) 4 RX3 (dC, dI) (tyl cI cC cZ cB cJ) A p s m args meth c) {next : Int32 → Int32 → Int32 → Prop} (hKn : ∀ (x1 : Int32) (x2 : Int32) (x3 : Int32) (H : Heap) (locs : List Loc) (ls : Array Slot), next x1 x2 x3 → va_P (dC, dI) classes (wd_X3_firstUncovering cI cC cZ cB cJ wJ tX jE mX pD oO oQ eG bZ bD bI aI wD gF) H → va_D A (wd_X3_firstUncovering cI cC cZ cB cJ wJ tX jE mX pD oO oQ eG bZ bD bI aI wD gF) → va_S A s.heap H locs → lv_has ls 4 [(0, .ref wJ), (1, .int x1), (2, .int x2), (3, .int x3)] → W p l e rm_X3_firstUncovering s m args below meth c H locs 0 0 (MQ below (q_X3_firstUncovering dC dI cI cC cZ cB cJ A wJ tX jE mX pD oO oQ eG bZ bD bI aI wD gF post) args s 0 0 A) (F0 m 2 ls [])) : ∀ (x1 x2 x3 : Int32) (H : Heap) (locs : List Loc) (ls : Array Slot), (ws_X3_firstUncovering_2 post next bZ wD gF) x1 x2 x3 → va_P (dC, dI) classes (wd_X3_firstUncovering cI cC cZ cB cJ wJ tX jE mX pD oO oQ eG bZ bD bI aI wD gF) H → va_D A (wd_X3_firstUncovering cI cC cZ cB cJ wJ tX jE mX pD oO oQ eG bZ bD bI aI wD gF) → va_S A s.heap H locs → lv_has ls 4 [(0, .ref wJ), (1, .int x1), (2, .int x2), (3, .int x3)] → W p l e rm_X3_firstUncovering s m args below meth c H locs 0 0 (MQ below (q_X3_firstUncovering dC dI cI cC cZ cB cJ A wJ tX jE mX pD oO oQ eG bZ bD bI aI wD gF post) args s 0 0 A) (F0 m 2 ls []) := by
  obtain ⟨hx, hb, hr, hml, hown, hts, hlocks, hA, hK, hN, tL, tM, hZL, hTL, hZM, hTM, hZX⟩ := id C0
  intro x1 x2 x3 H locs ls hp hP hD hS hl
  unfold ws_X3_firstUncovering_2 at hp
  refine lv_iload_n hx hb eX3_firstUncovering_0.2.2.1 rfl (lv_at hl 3 rfl) ?_
  refine lv_aload_n hx hb eX3_firstUncovering_0.2.2.2.1 rfl (lv_at hl 0 rfl) ?_
  refine va_get (D := (dC, dI)) (ci := 3) (v := .int bZ) (C := RX3) (T := TX3) (N := 11) hx hb hts i_X3 hown hK hP 0 rfl rfl 7 (Nat.le_of_ble_eq_true rfl) (hts _ q_20) (fun _ h9 => h9) rfl eX3_firstUncovering_0.2.2.2.2.1 ?_
  refine lv_icmp_ge (tgt := 35) hx hb eX3_firstUncovering_0.2.2.2.2.2.1 (by decide) (fun hc => ?_) (fun hc => ?_)
  · have hp := hp.1 hc
    refine lv_iconst (v := (-1)) hx hb eX3_firstUncovering_24.2.2.2.2.2.1 ic_m1 ?_
    exact W.iret (v := (-1)) hx hb hr (fun t ht hW => ⟨⟨(-1), (), rfl, hp, by rw [ht]; exact hP, va_K.moved hW.alike hK, hD⟩, hS.F ht⟩) hS.2.2 eX3_firstUncovering_24.2.2.2.2.2.2
  · have hp := hp.2 hc
    refine lv_iload_n hx hb eX3_firstUncovering_0.2.2.2.2.2.2.1 rfl (lv_at hl 1 rfl) ?_
    refine lv_iload_n hx hb eX3_firstUncovering_0.2.2.2.2.2.2.2.1 rfl (lv_at hl 3 rfl) ?_
    refine lv_ishr hx hb eX3_firstUncovering_0.2.2.2.2.2.2.2.2.1 ?_
    refine lv_topi (fun v_1 ev_1 => ?_)
    have hp := hp v_1 ev_1
    refine lv_iconst (v := 1) hx hb eX3_firstUncovering_0.2.2.2.2.2.2.2.2.2.1 ic_1 ?_
    refine lv_iand hx hb eX3_firstUncovering_0.2.2.2.2.2.2.2.2.2.2.1 ?_
    refine lv_if_eq (tgt := 29) hx hb eX3_firstUncovering_0.2.2.2.2.2.2.2.2.2.2.2.1 (by decide) (fun hc => ?_) (fun hc => ?_)
    · have hp := hp.1 hc
      exact ks_X3_firstUncovering_29 C0 hKn x1 x2 x3 H locs ls hp hP hD hS (lv_sub hl [0, 1, 2, 3] rfl)
    · have hp := hp.2 hc
      refine lv_aload_n hx hb eX3_firstUncovering_0.2.2.2.2.2.2.2.2.2.2.2.2.1 rfl (lv_at hl 0 rfl) ?_
      refine lv_iload_n hx hb eX3_firstUncovering_0.2.2.2.2.2.2.2.2.2.2.2.2.2.1 rfl (lv_at hl 3 rfl) ?_
      refine lv_iload_n hx hb eX3_firstUncovering_0.2.2.2.2.2.2.2.2.2.2.2.2.2.2.1 rfl (lv_at hl 2 rfl) ?_
      have hm := mgk (wc := (wd_X3_lowerThan cI cC cZ cB cJ wJ tX jE mX pD oO oQ eG bZ bD bI aI wD gF)) hP aBD 3 rfl rfl rfl
      refine g_calli hP hD hS hA (mixT aBD) (mixF aBD) hm.1 hm.2 (nd_F _) (dis_g _) (g_runV (As := [.int x3, .int x2]) (rest := []) C0 hP hD hS (mixT aBD) hm.1 (nd_T _) 0 3 rfl rfl (c_X3_lowerThan l dC dI cI cC cZ cB cJ wJ tX jE mX pD oO oQ eG H.size x3 x2 bZ bD bI aI wD gF _ hp) q_191 q_567 q_192 q_193 q_48 h_X3_lowerThan rfl rfl ⟨Nat.le_of_ble_eq_true rfl, Nat.le_of_ble_eq_true rfl⟩ rfl rfl hl.1 rfl (lv_room (Nat.le_of_ble_eq_true rfl)) eX3_firstUncovering_0.2.2.2.2.2.2.2.2.2.2.2.2.2.2.2 ⟨Nat.zero_le _, Nat.zero_le _⟩) (fun r_3 u H locs hp hP hD hS => ?_)
      have hPD := PDm (ws' := (wd_X3_firstUncovering cI cC cZ cB cJ wJ tX jE mX pD oO oQ eG bZ bD bI aI wD gF)) hP hD 3 rfl rfl rfl
      have hP := hPD.1
      have hD := hPD.2
      refine lv_if_ne (tgt := 29) hx hb eX3_firstUncovering_24.1 (by decide) (fun hc => ?_) (fun hc => ?_)
      · have hp := hp.1 hc
        exact ks_X3_firstUncovering_29 C0 hKn x1 x2 x3 H locs ls hp hP hD hS (lv_sub hl [0, 1, 2, 3] rfl)
      · have hp := hp.2 hc
        refine lv_iload_n hx hb eX3_firstUncovering_24.2.1 rfl (lv_at hl 3 rfl) ?_
        exact W.iret (v := x3) hx hb hr (fun t ht hW => ⟨⟨x3, (), rfl, hp, by rw [ht]; exact hP, va_K.moved hW.alike hK, hD⟩, hS.F ht⟩) hS.2.2 eX3_firstUncovering_24.2.2.1
set_option maxHeartbeats 4000000 in
set_option maxRecDepth 100000 in
theorem kb_X3_firstUncovering_2 (C0 : gc cX3_firstUncovering (some .int) 4 RX3 (dC, dI) (tyl cI cC cZ cB cJ) A p s m args meth c) : ∀ (n : Nat), ∀ (x1 x2 x3 : Int32) (H : Heap) (locs : List Loc) (ls : Array Slot), (wb_X3_firstUncovering_2 post bZ wD gF n) x1 x2 x3 → va_P (dC, dI) classes (wd_X3_firstUncovering cI cC cZ cB cJ wJ tX jE mX pD oO oQ eG bZ bD bI aI wD gF) H → va_D A (wd_X3_firstUncovering cI cC cZ cB cJ wJ tX jE mX pD oO oQ eG bZ bD bI aI wD gF) → va_S A s.heap H locs → lv_has ls 4 [(0, .ref wJ), (1, .int x1), (2, .int x2), (3, .int x3)] → W p l e rm_X3_firstUncovering s m args below meth c H locs 0 0 (MQ below (q_X3_firstUncovering dC dI cI cC cZ cB cJ A wJ tX jE mX pD oO oQ eG bZ bD bI aI wD gF post) args s 0 0 A) (F0 m 2 ls []) := by
  intro n
  induction n with
  | zero =>
    intro x1 x2 x3 H locs ls hp
    exact False.elim hp
  | succ n ih =>
    intro x1 x2 x3 H locs ls hp
    exact ks_X3_firstUncovering_2 C0 ih x1 x2 x3 H locs ls hp
end S_X3_firstUncovering
noncomputable def wp_X3_firstUncovering (post : Int32 → Prop) (p0 p1 bZ : Int32) (wD gF : Nat → Int32) : Prop := ∃ n : Nat, wb_X3_firstUncovering_2 post bZ wD gF n p0 p1 0
set_option maxHeartbeats 4000000 in
set_option maxRecDepth 100000 in
theorem c_X3_firstUncovering (l : Launch) (dC : Nat → ClassId) (dI : Nat → Nat → Nat) (cI cC cZ cB cJ : ClassId) (wJ tX jE mX pD oO oQ eG sz : Nat) (p0 p1 bZ bD bI aI : Int32) (wD gF : Nat → Int32) (post : Int32 → Prop) (hw : wp_X3_firstUncovering post p0 p1 bZ wD gF) : Met l yX3_firstUncovering (gw yX3_firstUncovering cX3_firstUncovering 4 (some .int)) rm_X3_firstUncovering (va_Pc [.ref wJ, .int p0, .int p1] (gPre (dC, dI) (tyl cI cC cZ cB cJ) (wd_X3_firstUncovering cI cC cZ cB cJ wJ tX jE mX pD oO oQ eG bZ bD bI aI wD gF) sz)) (q_X3_firstUncovering dC dI cI cC cZ cB cJ (va_A (wd_X3_firstUncovering cI cC cZ cB cJ wJ tX jE mX pD oO oQ eG bZ bD bI aI wD gF) sz) wJ tX jE mX pD oO oQ eG bZ bD bI aI wD gF post) 0 0 (va_A (wd_X3_firstUncovering cI cC cZ cB cJ wJ tX jE mX pD oO oQ eG bZ bD bI aI wD gF) sz) := by
  refine g_enter (own := RX3) (dC, dI) (tyl cI cC cZ cB cJ) (wd_X3_firstUncovering cI cC cZ cB cJ wJ tX jE mX pD oO oQ eG bZ bD bI aI wD gF) sz [.ref wJ, .int p0, .int p1] (fun A => q_X3_firstUncovering dC dI cI cC cZ cB cJ A wJ tX jE mX pD oO oQ eG bZ bD bI aI wD gF post) pn_RX3 rfl (Nat.le_of_ble_eq_true rfl) ?_
  intro p e s m args below meth c A H locs ls C0 hP hD hS hl
  have hl : lv_has ls 4 [(0, .ref wJ), (1, .int p0), (2, .int p1)] := hl
  obtain ⟨hx, hb, hr, hml, hown, hts, hlocks, hA, hK, hN, tL, tM, hZL, hTL, hZM, hTM, hZX⟩ := id C0
  have hp := hw
  unfold wp_X3_firstUncovering at hp
  refine lv_iconst (v := 0) hx hb eX3_firstUncovering_0.1 ic_0 ?_
  refine lv_istore_n (lv' := [(3, .int 0), (0, .ref wJ), (1, .int p0), (2, .int p1)]) hx hb eX3_firstUncovering_0.2.1 rfl hl (by decide) rfl (fun ls hl => ?_)
  obtain ⟨n9, hp⟩ := hp
  exact kb_X3_firstUncovering_2 C0 n9 p0 p1 0 H locs ls hp hP hD hS (lv_sub hl [1, 2, 3, 0] rfl)
noncomputable abbrev wd_X9_gentle (cI cC cZ cB cJ : ClassId) (a_x xG xD wY wJ wQ xI xK xJ tW xH tX jE mX pD oO oQ eG qT : Nat) (bZ bD bI aI : Int32) (wD gF qA nJ nY dQ : Nat → Int32) (jC eO eW dO fJ fY jD nG qF : Int32) (jJ : Nat → Int32) : va_W := [(a_x, .inr (9, [.ref xG, .ref xD, .ref wY, .ref wJ, .ref wQ, .ref xI, .ref xK, .ref xJ, .ref tW])), (wY, .inr (0, [.ref wJ, .ref wQ, .ref xH])), (wJ, .inr (3, [.ref tX, .ref jE, .ref mX, .ref pD, .ref oO, .ref oQ, .ref eG, .int bZ, .int bD, .int bI, .int aI])), (tX, .inl (cI, 16, .inl wD)), (jE, .inl (cI, 16, .inl gF)), (pD, .inl (cI, 16, .inl qA)), (oO, .inl (cI, 8, .inl nJ)), (oQ, .inl (cI, 8, .inl nY)), (eG, .inl (cI, 5, .inl dQ)), (wQ, .inr (2, [.int jC, .int eO, .int eW, .int dO, .int fJ, .int fY, .int jD, .int nG])), (xK, .inr (6, [.ref qT, .int qF])), (qT, .inl (cI, 16, .inl jJ))]
noncomputable abbrev q_X9_gentle (dC : Nat → ClassId) (dI : Nat → Nat → Nat) (cI cC cZ cB cJ : ClassId) (A : Nat → Prop) (a_x xG xD wY wJ wQ xI xK xJ tW xH tX jE mX pD oO oQ eG qT : Nat) (bZ bD bI aI : Int32) (wD gF qA nJ nY dQ : Nat → Int32) (jC eO eW dO fJ fY jD nG : Int32) (post : Int32 → Int32 → (Nat → Int32) → Prop) : Array Value → State → Outcome → State → Prop := va_Qi (fun (r : Int32) (u : Int32 × (Nat → Int32)) => post r u.1 u.2) (fun u t => gB (dC, dI) (tyl cI cC cZ cB cJ) A (wd_X9_gentle cI cC cZ cB cJ a_x xG xD wY wJ wQ xI xK xJ tW xH tX jE mX pD oO oQ eG qT bZ bD bI aI wD gF qA nJ nY dQ jC eO eW dO fJ fY jD nG u.1 u.2) t) A
noncomputable abbrev rm_X9_gentle : Room := { frames := 4, cells := 0, slots := 0, locals := 92 }
section S_X9_gentle
variable {p : Program} {l : Launch} {e : Env} {s : State} {m : MethodId} {args : Array Value} {below : List Frame} {meth : Method} {c : Code} {dC : Nat → ClassId} {dI : Nat → Nat → Nat} {cI cC cZ cB cJ : ClassId} {A : Nat → Prop} {a_x xG xD wY wJ wQ xI xK xJ tW xH tX jE mX pD oO oQ eG qT : Nat} {bZ bD bI aI : Int32} {wD gF qA nJ nY dQ : Nat → Int32} {jC eO eW dO fJ fY jD nG : Int32} {post : Int32 → Int32 → (Nat → Int32) → Prop}
noncomputable def ws_X9_gentle_91 (post : Int32 → Int32 → (Nat → Int32) → Prop) (bZ : Int32) (wD gF qA nJ nY dQ : Nat → Int32) (jC eO eW fJ fY jD qF : Int32) (jJ : Nat → Int32) : Prop := post qF qF jJ
set_option maxHeartbeats 4000000 in
set_option maxRecDepth 100000 in
theorem ks_X9_gentle_91 (C0 : gc cX9_gentle (some .int) 5 RX9 (dC, dI) (tyl cI cC cZ cB cJ) A p s m args meth c) : ∀ (qF : Int32) (jJ : Nat → Int32) (H : Heap) (locs : List Loc) (ls : Array Slot), (ws_X9_gentle_91 post bZ wD gF qA nJ nY dQ jC eO eW fJ fY jD) qF jJ → va_P (dC, dI) classes (wd_X9_gentle cI cC cZ cB cJ a_x xG xD wY wJ wQ xI xK xJ tW xH tX jE mX pD oO oQ eG qT bZ bD bI aI wD gF qA nJ nY dQ jC eO eW dO fJ fY jD nG qF jJ) H → va_D A (wd_X9_gentle cI cC cZ cB cJ a_x xG xD wY wJ wQ xI xK xJ tW xH tX jE mX pD oO oQ eG qT bZ bD bI aI wD gF qA nJ nY dQ jC eO eW dO fJ fY jD nG qF jJ) → va_S A s.heap H locs → lv_has ls 5 [(0, .ref a_x)] → W p l e rm_X9_gentle s m args below meth c H locs 0 0 (MQ below (q_X9_gentle dC dI cI cC cZ cB cJ A a_x xG xD wY wJ wQ xI xK xJ tW xH tX jE mX pD oO oQ eG qT bZ bD bI aI wD gF qA nJ nY dQ jC eO eW dO fJ fY jD nG post) args s 0 0 A) (F0 m 91 ls []) := by
  obtain ⟨hx, hb, hr, hml, hown, hts, hlocks, hA, hK, hN, tL, tM, hZL, hTL, hZM, hTM, hZX⟩ := id C0
  intro qF jJ H locs ls hp hP hD hS hl
  unfold ws_X9_gentle_91 at hp
  refine lv_aload_n hx hb eX9_gentle_88.2.1 rfl (lv_at hl 0 rfl) ?_
  refine va_get (D := (dC, dI)) (ci := 9) (v := .ref xK) (C := RX9) (T := TX9) (N := 9) hx hb hts i_X9 hown hK hP 0 rfl rfl 6 (Nat.le_of_ble_eq_true rfl) (hts _ q_363) (fun _ h9 => h9) rfl eX9_gentle_88.2.2.1 ?_
  refine va_get (D := (dC, dI)) (ci := 6) (v := .int qF) (C := RX6) (T := TX6) (N := 2) hx hb hts i_X6 hown hK hP 10 rfl rfl 1 (Nat.le_of_ble_eq_true rfl) (hts _ q_461) (fun _ h9 => h9) rfl eX9_gentle_88.2.2.2.1 ?_
  exact W.iret (v := qF) hx hb hr (fun t ht hW => ⟨⟨qF, (qF, jJ), rfl, hp, by rw [ht]; exact hP, va_K.moved hW.alike hK, hD⟩, hS.F ht⟩) hS.2.2 eX9_gentle_88.2.2.2.2
noncomputable def ws_X9_gentle_39 (post : Int32 → Int32 → (Nat → Int32) → Prop) (next : Int32 → Int32 → Int32 → Int32 → (Nat → Int32) → Prop) (bZ : Int32) (wD gF qA nJ nY dQ : Nat → Int32) (jC eO eW fJ fY jD x1 x2 x3 qF : Int32) (jJ : Nat → Int32) : Prop := (16 ≤ x3 → ws_X9_gentle_91 post bZ wD gF qA nJ nY dQ jC eO eW fJ fY jD qF jJ) ∧ (¬ 16 ≤ x3 → ∀ v_4 : Int32, v_4 = x2 &&& x1 → wp_X3_firstUncovering (fun r_5 => (¬ r_5 = (-1) → wp_X6_add (fun zW yO => ∀ v_8 : Int32, v_8 = 1 <<< (r_5 &&& 31) → ∀ v_9 : Int32, v_9 = x1 &&& (v_8 ^^^ (-1)) → ∀ v_10 : Int32, v_10 = x3 + 1 → next v_9 x2 v_10 zW yO) r_5 qF jJ) ∧ (r_5 = (-1) → ws_X9_gentle_91 post bZ wD gF qA nJ nY dQ jC eO eW fJ fY jD qF jJ)) v_4 x1 bZ wD gF)
noncomputable def wb_X9_gentle_39 (post : Int32 → Int32 → (Nat → Int32) → Prop) (bZ : Int32) (wD gF qA nJ nY dQ : Nat → Int32) (jC eO eW fJ fY jD : Int32) : Nat → Int32 → Int32 → Int32 → Int32 → (Nat → Int32) → Prop := fun n => Nat.rec (motive := fun _ => Int32 → Int32 → Int32 → Int32 → (Nat → Int32) → Prop) (fun _ _ _ _ _ => False) (fun _ ih => ws_X9_gentle_39 post ih bZ wD gF qA nJ nY dQ jC eO eW fJ fY jD) n
set_option maxHeartbeats 4000000 in
set_option maxRecDepth 100000 in
theorem ks_X9_gentle_39 (C0 : gc cX9_gentle (some .int) 5 RX9 (dC, dI) (tyl cI cC cZ cB cJ) A p s m args meth c) {next : Int32 → Int32 → Int32 → Int32 → (Nat → Int32) → Prop} (hKn : ∀ (x1 : Int32) (x2 : Int32) (x3 : Int32) (qF : Int32) (jJ : Nat → Int32) (H : Heap) (locs : List Loc) (ls : Array Slot), next x1 x2 x3 qF jJ → va_P (dC, dI) classes (wd_X9_gentle cI cC cZ cB cJ a_x xG xD wY wJ wQ xI xK xJ tW xH tX jE mX pD oO oQ eG qT bZ bD bI aI wD gF qA nJ nY dQ jC eO eW dO fJ fY jD nG qF jJ) H → va_D A (wd_X9_gentle cI cC cZ cB cJ a_x xG xD wY wJ wQ xI xK xJ tW xH tX jE mX pD oO oQ eG qT bZ bD bI aI wD gF qA nJ nY dQ jC eO eW dO fJ fY jD nG qF jJ) → va_S A s.heap H locs → lv_has ls 5 [(0, .ref a_x), (1, .int x1), (2, .int x2), (3, .int x3)] → W p l e rm_X9_gentle s m args below meth c H locs 0 0 (MQ below (q_X9_gentle dC dI cI cC cZ cB cJ A a_x xG xD wY wJ wQ xI xK xJ tW xH tX jE mX pD oO oQ eG qT bZ bD bI aI wD gF qA nJ nY dQ jC eO eW dO fJ fY jD nG post) args s 0 0 A) (F0 m 39 ls [])) : ∀ (x1 x2 x3 qF : Int32) (jJ : Nat → Int32) (H : Heap) (locs : List Loc) (ls : Array Slot), (ws_X9_gentle_39 post next bZ wD gF qA nJ nY dQ jC eO eW fJ fY jD) x1 x2 x3 qF jJ → va_P (dC, dI) classes (wd_X9_gentle cI cC cZ cB cJ a_x xG xD wY wJ wQ xI xK xJ tW xH tX jE mX pD oO oQ eG qT bZ bD bI aI wD gF qA nJ nY dQ jC eO eW dO fJ fY jD nG qF jJ) H → va_D A (wd_X9_gentle cI cC cZ cB cJ a_x xG xD wY wJ wQ xI xK xJ tW xH tX jE mX pD oO oQ eG qT bZ bD bI aI wD gF qA nJ nY dQ jC eO eW dO fJ fY jD nG qF jJ) → va_S A s.heap H locs → lv_has ls 5 [(0, .ref a_x), (1, .int x1), (2, .int x2), (3, .int x3)] → W p l e rm_X9_gentle s m args below meth c H locs 0 0 (MQ below (q_X9_gentle dC dI cI cC cZ cB cJ A a_x xG xD wY wJ wQ xI xK xJ tW xH tX jE mX pD oO oQ eG qT bZ bD bI aI wD gF qA nJ nY dQ jC eO eW dO fJ fY jD nG post) args s 0 0 A) (F0 m 39 ls []) := by
  obtain ⟨hx, hb, hr, hml, hown, hts, hlocks, hA, hK, hN, tL, tM, hZL, hTL, hZM, hTM, hZX⟩ := id C0
  intro x1 x2 x3 qF jJ H locs ls hp hP hD hS hl
  unfold ws_X9_gentle_39 at hp
  refine lv_iload_n hx hb eX9_gentle_33.2.2.2.2.1 rfl (lv_at hl 3 rfl) ?_
  refine lv_bipush (v := 16) hx hb eX9_gentle_33.2.2.2.2.2.1 bp_16 ?_
  refine lv_icmp_ge (tgt := 91) hx hb eX9_gentle_33.2.2.2.2.2.2.1 (by decide) (fun hc => ?_) (fun hc => ?_)
  · have hp := hp.1 hc
    exact ks_X9_gentle_91 C0 qF jJ H locs ls hp hP hD hS (lv_sub hl [0] rfl)
  · have hp := hp.2 hc
    refine lv_aload_n hx hb eX9_gentle_33.2.2.2.2.2.2.2.1 rfl (lv_at hl 0 rfl) ?_
    refine va_get (D := (dC, dI)) (ci := 9) (v := .ref wJ) (C := RX9) (T := TX9) (N := 9) hx hb hts i_X9 hown hK hP 0 rfl rfl 3 (Nat.le_of_ble_eq_true rfl) (hts _ q_74) (fun _ h9 => h9) rfl eX9_gentle_33.2.2.2.2.2.2.2.2.1 ?_
    refine lv_iload_n hx hb eX9_gentle_33.2.2.2.2.2.2.2.2.2.1 rfl (lv_at hl 2 rfl) ?_
    refine lv_iload_n hx hb eX9_gentle_33.2.2.2.2.2.2.2.2.2.2.1 rfl (lv_at hl 1 rfl) ?_
    refine lv_iand hx hb eX9_gentle_33.2.2.2.2.2.2.2.2.2.2.2.1 ?_
    refine lv_topi (fun v_4 ev_4 => ?_)
    have hp := hp v_4 ev_4
    refine lv_iload_n hx hb eX9_gentle_33.2.2.2.2.2.2.2.2.2.2.2.2.1 rfl (lv_at hl 1 rfl) ?_
    have hm := mgk (wc := (wd_X3_firstUncovering cI cC cZ cB cJ wJ tX jE mX pD oO oQ eG bZ bD bI aI wD gF)) hP mk_168 12 rfl rfl rfl
    refine g_calli hP hD hS hA (mixT mk_168) (mixF mk_168) hm.1 hm.2 (nd_F _) (dis_g _) (g_runV (As := [.int v_4, .int x1]) (rest := []) C0 hP hD hS (mixT mk_168) hm.1 (nd_T _) 2 3 rfl rfl (c_X3_firstUncovering l dC dI cI cC cZ cB cJ wJ tX jE mX pD oO oQ eG H.size v_4 x1 bZ bD bI aI wD gF _ hp) q_569 q_572 q_570 q_571 q_48 h_X3_firstUncovering rfl rfl ⟨Nat.le_of_ble_eq_true rfl, Nat.le_of_ble_eq_true rfl⟩ rfl rfl hl.1 rfl (lv_room (Nat.le_of_ble_eq_true rfl)) eX9_gentle_33.2.2.2.2.2.2.2.2.2.2.2.2.2.1 ⟨Nat.zero_le _, Nat.zero_le _⟩) (fun r_5 u H locs hp hP hD hS => ?_)
    have hPD := PDm (ws' := (wd_X9_gentle cI cC cZ cB cJ a_x xG xD wY wJ wQ xI xK xJ tW xH tX jE mX pD oO oQ eG qT bZ bD bI aI wD gF qA nJ nY dQ jC eO eW dO fJ fY jD nG qF jJ)) hP hD 12 rfl rfl rfl
    have hP := hPD.1
    have hD := hPD.2
    refine lv_istore (lv' := [(4, .int r_5), (0, .ref a_x), (1, .int x1), (2, .int x2), (3, .int x3)]) hx hb eX9_gentle_33.2.2.2.2.2.2.2.2.2.2.2.2.2.2.1 hl (by decide) rfl (fun ls hl => ?_)
    refine lv_iload hx hb eX9_gentle_33.2.2.2.2.2.2.2.2.2.2.2.2.2.2.2 (lv_at hl 0 rfl) ?_
    refine lv_iconst (v := (-1)) hx hb eX9_gentle_60.1 ic_m1 ?_
    refine lv_icmp_ne (tgt := 67) hx hb eX9_gentle_60.2.1 (by decide) (fun hc => ?_) (fun hc => ?_)
    · have hp := hp.1 hc
      refine lv_aload_n hx hb eX9_gentle_60.2.2.2.1 rfl (lv_at hl 1 rfl) ?_
      refine va_get (D := (dC, dI)) (ci := 9) (v := .ref xK) (C := RX9) (T := TX9) (N := 9) hx hb hts i_X9 hown hK hP 0 rfl rfl 6 (Nat.le_of_ble_eq_true rfl) (hts _ q_363) (fun _ h9 => h9) rfl eX9_gentle_60.2.2.2.2.1 ?_
      refine lv_iload hx hb eX9_gentle_60.2.2.2.2.2.1 (lv_at hl 0 rfl) ?_
      have hm := mgk (wc := (wd_X6_add cI cC cZ cB cJ xK qT qF jJ)) hP mk_12 12 rfl rfl rfl
      refine g_callv hP hD hS hA (mixT mk_12) (mixF mk_12) hm.1 hm.2 (nd_F _) (dis_g _) (g_runV (As := [.int r_5]) (rest := []) C0 hP hD hS (mixT mk_12) hm.1 (nd_T _) 10 6 rfl rfl (c_X6_add l dC dI cI cC cZ cB cJ xK qT H.size r_5 qF jJ _ hp) q_369 q_372 q_370 q_371 q_365 h_X6_add rfl rfl ⟨Nat.le_of_ble_eq_true rfl, Nat.le_of_ble_eq_true rfl⟩ rfl rfl hl.1 rfl (lv_room (Nat.le_of_ble_eq_true rfl)) eX9_gentle_60.2.2.2.2.2.2.1 ⟨Nat.zero_le _, Nat.zero_le _⟩) (fun u H locs hp hP hD hS => ?_)
      obtain ⟨zW, yO⟩ := u
      have hPD := PDm (ws' := (wd_X9_gentle cI cC cZ cB cJ a_x xG xD wY wJ wQ xI xK xJ tW xH tX jE mX pD oO oQ eG qT bZ bD bI aI wD gF qA nJ nY dQ jC eO eW dO fJ fY jD nG zW yO)) hP hD 12 rfl rfl rfl
      have hP := hPD.1
      have hD := hPD.2
      refine lv_iload_n hx hb eX9_gentle_60.2.2.2.2.2.2.2.1 rfl (lv_at hl 2 rfl) ?_
      refine lv_iconst (v := 1) hx hb eX9_gentle_60.2.2.2.2.2.2.2.2.1 ic_1 ?_
      refine lv_iload hx hb eX9_gentle_60.2.2.2.2.2.2.2.2.2.1 (lv_at hl 0 rfl) ?_
      refine lv_ishl hx hb eX9_gentle_60.2.2.2.2.2.2.2.2.2.2.1 ?_
      refine lv_topi (fun v_8 ev_8 => ?_)
      have hp := hp v_8 ev_8
      refine lv_iconst (v := (-1)) hx hb eX9_gentle_60.2.2.2.2.2.2.2.2.2.2.2.1 ic_m1 ?_
      refine lv_ixor hx hb eX9_gentle_60.2.2.2.2.2.2.2.2.2.2.2.2.1 ?_
      refine lv_iand hx hb eX9_gentle_60.2.2.2.2.2.2.2.2.2.2.2.2.2.1 ?_
      refine lv_topi (fun v_9 ev_9 => ?_)
      have hp := hp v_9 ev_9
      refine lv_istore_n (lv' := [(1, .int v_9), (4, .int r_5), (0, .ref a_x), (2, .int x2), (3, .int x3)]) hx hb eX9_gentle_60.2.2.2.2.2.2.2.2.2.2.2.2.2.2.1 rfl hl (by decide) rfl (fun ls hl => ?_)
      obtain ⟨v_10, ev_10⟩ : ∃ y : Int32, y = x3 + 1 := ⟨_, rfl⟩
      refine lv_iinc (v := v_10) (lv' := [(3, .int v_10), (1, .int v_9), (4, .int r_5), (0, .ref a_x), (2, .int x2)]) hx hb eX9_gentle_60.2.2.2.2.2.2.2.2.2.2.2.2.2.2.2 hl (k := 4) rfl (by rw [ev_10]; rfl) (by decide) rfl (fun ls hl => ?_)
      have hp := hp v_10 ev_10
      refine lv_goto (tgt := 39) hx hb eX9_gentle_88.1 (by decide) ?_
      exact hKn v_9 x2 v_10 zW yO H locs ls hp hP hD hS (lv_sub hl [3, 1, 4, 0] rfl)
    · have hp := hp.2 hc
      refine lv_goto (tgt := 91) hx hb eX9_gentle_60.2.2.1 (by decide) ?_
      exact ks_X9_gentle_91 C0 qF jJ H locs ls hp hP hD hS (lv_sub hl [1] rfl)
set_option maxHeartbeats 4000000 in
set_option maxRecDepth 100000 in
theorem kb_X9_gentle_39 (C0 : gc cX9_gentle (some .int) 5 RX9 (dC, dI) (tyl cI cC cZ cB cJ) A p s m args meth c) : ∀ (n : Nat), ∀ (x1 x2 x3 qF : Int32) (jJ : Nat → Int32) (H : Heap) (locs : List Loc) (ls : Array Slot), (wb_X9_gentle_39 post bZ wD gF qA nJ nY dQ jC eO eW fJ fY jD n) x1 x2 x3 qF jJ → va_P (dC, dI) classes (wd_X9_gentle cI cC cZ cB cJ a_x xG xD wY wJ wQ xI xK xJ tW xH tX jE mX pD oO oQ eG qT bZ bD bI aI wD gF qA nJ nY dQ jC eO eW dO fJ fY jD nG qF jJ) H → va_D A (wd_X9_gentle cI cC cZ cB cJ a_x xG xD wY wJ wQ xI xK xJ tW xH tX jE mX pD oO oQ eG qT bZ bD bI aI wD gF qA nJ nY dQ jC eO eW dO fJ fY jD nG qF jJ) → va_S A s.heap H locs → lv_has ls 5 [(0, .ref a_x), (1, .int x1), (2, .int x2), (3, .int x3)] → W p l e rm_X9_gentle s m args below meth c H locs 0 0 (MQ below (q_X9_gentle dC dI cI cC cZ cB cJ A a_x xG xD wY wJ wQ xI xK xJ tW xH tX jE mX pD oO oQ eG qT bZ bD bI aI wD gF qA nJ nY dQ jC eO eW dO fJ fY jD nG post) args s 0 0 A) (F0 m 39 ls []) := by
  intro n
  induction n with
  | zero =>
    intro x1 x2 x3 qF jJ H locs ls hp
    exact False.elim hp
  | succ n ih =>
    intro x1 x2 x3 qF jJ H locs ls hp
    exact ks_X9_gentle_39 C0 ih x1 x2 x3 qF jJ H locs ls hp
end S_X9_gentle
noncomputable def wp_X9_gentle (post : Int32 → Int32 → (Nat → Int32) → Prop) (bZ : Int32) (wD gF qA nJ nY dQ : Nat → Int32) (jC eO eW fJ fY jD qF : Int32) (jJ : Nat → Int32) : Prop := (¬ fJ = (-1) → wp_X6_clear (fun aAa => wp_X0_hanging (fun r_2 => wp_X0_readyHere (fun r_3 => ∃ n : Nat, wb_X9_gentle_39 post bZ wD gF qA nJ nY dQ jC eO eW fJ fY jD n r_2 r_3 0 aAa jJ) bZ wD gF qA nJ nY dQ jC eO eW fJ fY jD) bZ jC eO eW) qF) ∧ (fJ = (-1) → post (-2) qF jJ)
set_option maxHeartbeats 4000000 in
set_option maxRecDepth 100000 in
theorem c_X9_gentle (l : Launch) (dC : Nat → ClassId) (dI : Nat → Nat → Nat) (cI cC cZ cB cJ : ClassId) (a_x xG xD wY wJ wQ xI xK xJ tW xH tX jE mX pD oO oQ eG qT sz : Nat) (bZ bD bI aI : Int32) (wD gF qA nJ nY dQ : Nat → Int32) (jC eO eW dO fJ fY jD nG qF : Int32) (jJ : Nat → Int32) (post : Int32 → Int32 → (Nat → Int32) → Prop) (hw : wp_X9_gentle post bZ wD gF qA nJ nY dQ jC eO eW fJ fY jD qF jJ) : Met l yX9_gentle (gw yX9_gentle cX9_gentle 5 (some .int)) rm_X9_gentle (va_Pc [.ref a_x] (gPre (dC, dI) (tyl cI cC cZ cB cJ) (wd_X9_gentle cI cC cZ cB cJ a_x xG xD wY wJ wQ xI xK xJ tW xH tX jE mX pD oO oQ eG qT bZ bD bI aI wD gF qA nJ nY dQ jC eO eW dO fJ fY jD nG qF jJ) sz)) (q_X9_gentle dC dI cI cC cZ cB cJ (va_A (wd_X9_gentle cI cC cZ cB cJ a_x xG xD wY wJ wQ xI xK xJ tW xH tX jE mX pD oO oQ eG qT bZ bD bI aI wD gF qA nJ nY dQ jC eO eW dO fJ fY jD nG qF jJ) sz) a_x xG xD wY wJ wQ xI xK xJ tW xH tX jE mX pD oO oQ eG qT bZ bD bI aI wD gF qA nJ nY dQ jC eO eW dO fJ fY jD nG post) 0 0 (va_A (wd_X9_gentle cI cC cZ cB cJ a_x xG xD wY wJ wQ xI xK xJ tW xH tX jE mX pD oO oQ eG qT bZ bD bI aI wD gF qA nJ nY dQ jC eO eW dO fJ fY jD nG qF jJ) sz) := by
  refine g_enter (own := RX9) (dC, dI) (tyl cI cC cZ cB cJ) (wd_X9_gentle cI cC cZ cB cJ a_x xG xD wY wJ wQ xI xK xJ tW xH tX jE mX pD oO oQ eG qT bZ bD bI aI wD gF qA nJ nY dQ jC eO eW dO fJ fY jD nG qF jJ) sz [.ref a_x] (fun A => q_X9_gentle dC dI cI cC cZ cB cJ A a_x xG xD wY wJ wQ xI xK xJ tW xH tX jE mX pD oO oQ eG qT bZ bD bI aI wD gF qA nJ nY dQ jC eO eW dO fJ fY jD nG post) pn_RX9 rfl (Nat.le_of_ble_eq_true rfl) ?_
  intro p e s m args below meth c A H locs ls C0 hP hD hS hl
  have hl : lv_has ls 5 [(0, .ref a_x)] := hl
  obtain ⟨hx, hb, hr, hml, hown, hts, hlocks, hA, hK, hN, tL, tM, hZL, hTL, hZM, hTM, hZX⟩ := id C0
  have hp := hw
  unfold wp_X9_gentle at hp
  refine lv_aload_n hx hb eX9_gentle_0.1 rfl (lv_at hl 0 rfl) ?_
  refine va_get (D := (dC, dI)) (ci := 9) (v := .ref wQ) (C := RX9) (T := TX9) (N := 9) hx hb hts i_X9 hown hK hP 0 rfl rfl 4 (Nat.le_of_ble_eq_true rfl) (hts _ q_179) (fun _ h9 => h9) rfl eX9_gentle_0.2.1 ?_
  refine va_get (D := (dC, dI)) (ci := 2) (v := .int fJ) (C := RX2) (T := TX2) (N := 8) hx hb hts i_X2 hown hK hP 9 rfl rfl 4 (Nat.le_of_ble_eq_true rfl) (hts _ q_497) (fun _ h9 => h9) rfl eX9_gentle_0.2.2.1 ?_
  refine lv_iconst (v := (-1)) hx hb eX9_gentle_0.2.2.2.1 ic_m1 ?_
  refine lv_icmp_ne (tgt := 14) hx hb eX9_gentle_0.2.2.2.2.1 (by decide) (fun hc => ?_) (fun hc => ?_)
  · have hp := hp.1 hc
    refine lv_aload_n hx hb eX9_gentle_0.2.2.2.2.2.2.2.1 rfl (lv_at hl 0 rfl) ?_
    refine va_get (D := (dC, dI)) (ci := 9) (v := .ref xK) (C := RX9) (T := TX9) (N := 9) hx hb hts i_X9 hown hK hP 0 rfl rfl 6 (Nat.le_of_ble_eq_true rfl) (hts _ q_363) (fun _ h9 => h9) rfl eX9_gentle_0.2.2.2.2.2.2.2.2.1 ?_
    have hm := mgk (wc := (wd_X6_clear cI cC cZ cB cJ xK qT qF)) hP mk_169 12 rfl rfl rfl
    refine g_callv hP hD hS hA (mixT mk_169) (mixF mk_169) hm.1 hm.2 (nd_F _) (dis_g _) (g_runV (As := []) (rest := []) C0 hP hD hS (mixT mk_169) hm.1 (nd_T _) 10 6 rfl rfl (c_X6_clear l dC dI cI cC cZ cB cJ xK qT H.size qF _ hp) q_364 q_368 q_366 q_367 q_365 h_X6_clear rfl rfl ⟨Nat.le_of_ble_eq_true rfl, Nat.le_of_ble_eq_true rfl⟩ rfl rfl hl.1 rfl (lv_room (Nat.le_of_ble_eq_true rfl)) eX9_gentle_0.2.2.2.2.2.2.2.2.2.1 ⟨Nat.zero_le _, Nat.zero_le _⟩) (fun u H locs hp hP hD hS => ?_)
    obtain ⟨aAa, rfl⟩ : ∃ z, z = u := ⟨_, rfl⟩
    have hPD := PDm (ws' := (wd_X9_gentle cI cC cZ cB cJ a_x xG xD wY wJ wQ xI xK xJ tW xH tX jE mX pD oO oQ eG qT bZ bD bI aI wD gF qA nJ nY dQ jC eO eW dO fJ fY jD nG aAa jJ)) hP hD 12 rfl rfl rfl
    have hP := hPD.1
    have hD := hPD.2
    refine lv_aload_n hx hb eX9_gentle_0.2.2.2.2.2.2.2.2.2.2.1 rfl (lv_at hl 0 rfl) ?_
    refine va_get (D := (dC, dI)) (ci := 9) (v := .ref wY) (C := RX9) (T := TX9) (N := 9) hx hb hts i_X9 hown hK hP 0 rfl rfl 2 (Nat.le_of_ble_eq_true rfl) (hts _ q_146) (fun _ h9 => h9) rfl eX9_gentle_0.2.2.2.2.2.2.2.2.2.2.2.1 ?_
    have hm := mgk (wc := (wd_X0_hanging cI cC cZ cB cJ wY wJ wQ xH tX jE mX pD oO oQ eG bZ bD bI aI jC eO eW dO fJ fY jD nG)) hP mk_106 12 rfl rfl rfl
    refine g_calli hP hD hS hA (mixT mk_106) (mixF mk_106) hm.1 hm.2 (nd_F _) (dis_g _) (g_runV (As := []) (rest := []) C0 hP hD hS (mixT mk_106) hm.1 (nd_T _) 1 0 rfl rfl (c_X0_hanging l dC dI cI cC cZ cB cJ wY wJ wQ xH tX jE mX pD oO oQ eG H.size bZ bD bI aI jC eO eW dO fJ fY jD nG _ hp) q_186 q_190 q_188 q_189 q_187 h_X0_hanging rfl rfl ⟨Nat.le_of_ble_eq_true rfl, Nat.le_of_ble_eq_true rfl⟩ rfl rfl hl.1 rfl (lv_room (Nat.le_of_ble_eq_true rfl)) eX9_gentle_0.2.2.2.2.2.2.2.2.2.2.2.2.1 ⟨Nat.zero_le _, Nat.zero_le _⟩) (fun r_2 u H locs hp hP hD hS => ?_)
    have hPD := PDm (ws' := (wd_X9_gentle cI cC cZ cB cJ a_x xG xD wY wJ wQ xI xK xJ tW xH tX jE mX pD oO oQ eG qT bZ bD bI aI wD gF qA nJ nY dQ jC eO eW dO fJ fY jD nG aAa jJ)) hP hD 12 rfl rfl rfl
    have hP := hPD.1
    have hD := hPD.2
    refine lv_istore_n (lv' := [(1, .int r_2), (0, .ref a_x)]) hx hb eX9_gentle_0.2.2.2.2.2.2.2.2.2.2.2.2.2.1 rfl hl (by decide) rfl (fun ls hl => ?_)
    refine lv_aload_n hx hb eX9_gentle_0.2.2.2.2.2.2.2.2.2.2.2.2.2.2.1 rfl (lv_at hl 1 rfl) ?_
    refine va_get (D := (dC, dI)) (ci := 9) (v := .ref wY) (C := RX9) (T := TX9) (N := 9) hx hb hts i_X9 hown hK hP 0 rfl rfl 2 (Nat.le_of_ble_eq_true rfl) (hts _ q_146) (fun _ h9 => h9) rfl eX9_gentle_0.2.2.2.2.2.2.2.2.2.2.2.2.2.2.2 ?_
    have hm := mgk (wc := (wd_X0_readyHere cI cC cZ cB cJ wY wJ wQ xH tX jE mX pD oO oQ eG bZ bD bI aI wD gF qA nJ nY dQ jC eO eW dO fJ fY jD nG)) hP mk_13 12 rfl rfl rfl
    refine g_calli hP hD hS hA (mixT mk_13) (mixF mk_13) hm.1 hm.2 (nd_F _) (dis_g _) (g_runV (As := []) (rest := []) C0 hP hD hS (mixT mk_13) hm.1 (nd_T _) 1 0 rfl rfl (c_X0_readyHere l dC dI cI cC cZ cB cJ wY wJ wQ xH tX jE mX pD oO oQ eG H.size bZ bD bI aI wD gF qA nJ nY dQ jC eO eW dO fJ fY jD nG _ hp) q_347 q_568 q_348 q_349 q_187 h_X0_readyHere rfl rfl ⟨Nat.le_of_ble_eq_true rfl, Nat.le_of_ble_eq_true rfl⟩ rfl rfl hl.1 rfl (lv_room (Nat.le_of_ble_eq_true rfl)) eX9_gentle_33.1 ⟨Nat.zero_le _, Nat.zero_le _⟩) (fun r_3 u H locs hp hP hD hS => ?_)
    have hPD := PDm (ws' := (wd_X9_gentle cI cC cZ cB cJ a_x xG xD wY wJ wQ xI xK xJ tW xH tX jE mX pD oO oQ eG qT bZ bD bI aI wD gF qA nJ nY dQ jC eO eW dO fJ fY jD nG aAa jJ)) hP hD 12 rfl rfl rfl
    have hP := hPD.1
    have hD := hPD.2
    refine lv_istore_n (lv' := [(2, .int r_3), (1, .int r_2), (0, .ref a_x)]) hx hb eX9_gentle_33.2.1 rfl hl (by decide) rfl (fun ls hl => ?_)
    refine lv_iconst (v := 0) hx hb eX9_gentle_33.2.2.1 ic_0 ?_
    refine lv_istore_n (lv' := [(3, .int 0), (2, .int r_3), (1, .int r_2), (0, .ref a_x)]) hx hb eX9_gentle_33.2.2.2.1 rfl hl (by decide) rfl (fun ls hl => ?_)
    obtain ⟨n9, hp⟩ := hp
    exact kb_X9_gentle_39 C0 n9 r_2 r_3 0 aAa jJ H locs ls hp hP hD hS (lv_sub hl [3, 2, 1, 0] rfl)
  · have hp := hp.2 hc
    refine lv_bipush (v := (-2)) hx hb eX9_gentle_0.2.2.2.2.2.1 bp_m2 ?_
    exact W.iret (v := (-2)) hx hb hr (fun t ht hW => ⟨⟨(-2), (qF, jJ), rfl, hp, by rw [ht]; exact hP, va_K.moved hW.alike hK, hD⟩, hS.F ht⟩) hS.2.2 eX9_gentle_0.2.2.2.2.2.2.1
noncomputable abbrev wd_X9_harm (cI cC cZ cB cJ : ClassId) (a_x xG xD wY wJ wQ xI xK xJ tW xH tX jE mX pD oO oQ eG qT : Nat) (bZ bD bI aI : Int32) (wD gF pE qA nJ nY dQ : Nat → Int32) (jC eO eW dO fJ fY jD nG qF : Int32) (jJ : Nat → Int32) : va_W := [(a_x, .inr (9, [.ref xG, .ref xD, .ref wY, .ref wJ, .ref wQ, .ref xI, .ref xK, .ref xJ, .ref tW])), (wY, .inr (0, [.ref wJ, .ref wQ, .ref xH])), (wJ, .inr (3, [.ref tX, .ref jE, .ref mX, .ref pD, .ref oO, .ref oQ, .ref eG, .int bZ, .int bD, .int bI, .int aI])), (tX, .inl (cI, 16, .inl wD)), (jE, .inl (cI, 16, .inl gF)), (mX, .inl (cI, 16, .inl pE)), (pD, .inl (cI, 16, .inl qA)), (oO, .inl (cI, 8, .inl nJ)), (oQ, .inl (cI, 8, .inl nY)), (eG, .inl (cI, 5, .inl dQ)), (wQ, .inr (2, [.int jC, .int eO, .int eW, .int dO, .int fJ, .int fY, .int jD, .int nG])), (xK, .inr (6, [.ref qT, .int qF])), (qT, .inl (cI, 16, .inl jJ))]
noncomputable abbrev q_X9_harm (dC : Nat → ClassId) (dI : Nat → Nat → Nat) (cI cC cZ cB cJ : ClassId) (A : Nat → Prop) (a_x xG xD wY wJ wQ xI xK xJ tW xH tX jE mX pD oO oQ eG qT : Nat) (bZ bD bI aI : Int32) (wD gF pE qA nJ nY dQ : Nat → Int32) (jC eO eW dO fJ fY jD nG : Int32) (post : Int32 → Int32 → (Nat → Int32) → Prop) : Array Value → State → Outcome → State → Prop := va_Qi (fun (r : Int32) (u : Int32 × (Nat → Int32)) => post r u.1 u.2) (fun u t => gB (dC, dI) (tyl cI cC cZ cB cJ) A (wd_X9_harm cI cC cZ cB cJ a_x xG xD wY wJ wQ xI xK xJ tW xH tX jE mX pD oO oQ eG qT bZ bD bI aI wD gF pE qA nJ nY dQ jC eO eW dO fJ fY jD nG u.1 u.2) t) A
noncomputable abbrev rm_X9_harm : Room := { frames := 4, cells := 0, slots := 0, locals := 92 }
section S_X9_harm
variable {p : Program} {l : Launch} {e : Env} {s : State} {m : MethodId} {args : Array Value} {below : List Frame} {meth : Method} {c : Code} {dC : Nat → ClassId} {dI : Nat → Nat → Nat} {cI cC cZ cB cJ : ClassId} {A : Nat → Prop} {a_x xG xD wY wJ wQ xI xK xJ tW xH tX jE mX pD oO oQ eG qT : Nat} {bZ bD bI aI : Int32} {wD gF pE qA nJ nY dQ : Nat → Int32} {jC eO eW dO fJ fY jD nG : Int32} {post : Int32 → Int32 → (Nat → Int32) → Prop}
noncomputable def ws_X9_harm_78 (post : Int32 → Int32 → (Nat → Int32) → Prop) (K35 : Int32 → Int32 → Int32 → Int32 → Int32 → (Nat → Int32) → Prop) (bZ : Int32) (wD gF pE qA nJ nY dQ : Nat → Int32) (jC eO eW dO fJ fY jD x1 x2 x3 x4 qF : Int32) (jJ : Nat → Int32) : Prop := ∀ v_10 : Int32, v_10 = x4 + 1 → K35 x1 x2 x3 v_10 qF jJ
set_option maxHeartbeats 4000000 in
set_option maxRecDepth 100000 in
theorem ks_X9_harm_78 (C0 : gc cX9_harm (some .int) 5 RX9 (dC, dI) (tyl cI cC cZ cB cJ) A p s m args meth c) {K35 : Int32 → Int32 → Int32 → Int32 → Int32 → (Nat → Int32) → Prop} (hK35 : ∀ (x1 : Int32) (x2 : Int32) (x3 : Int32) (x4 : Int32) (qF : Int32) (jJ : Nat → Int32) (H : Heap) (locs : List Loc) (ls : Array Slot), K35 x1 x2 x3 x4 qF jJ → va_P (dC, dI) classes (wd_X9_harm cI cC cZ cB cJ a_x xG xD wY wJ wQ xI xK xJ tW xH tX jE mX pD oO oQ eG qT bZ bD bI aI wD gF pE qA nJ nY dQ jC eO eW dO fJ fY jD nG qF jJ) H → va_D A (wd_X9_harm cI cC cZ cB cJ a_x xG xD wY wJ wQ xI xK xJ tW xH tX jE mX pD oO oQ eG qT bZ bD bI aI wD gF pE qA nJ nY dQ jC eO eW dO fJ fY jD nG qF jJ) → va_S A s.heap H locs → lv_has ls 5 [(0, .ref a_x), (1, .int x1), (2, .int x2), (3, .int x3), (4, .int x4)] → W p l e rm_X9_harm s m args below meth c H locs 0 0 (MQ below (q_X9_harm dC dI cI cC cZ cB cJ A a_x xG xD wY wJ wQ xI xK xJ tW xH tX jE mX pD oO oQ eG qT bZ bD bI aI wD gF pE qA nJ nY dQ jC eO eW dO fJ fY jD nG post) args s 0 0 A) (F0 m 35 ls [])) : ∀ (x1 x2 x3 x4 qF : Int32) (jJ : Nat → Int32) (H : Heap) (locs : List Loc) (ls : Array Slot), (ws_X9_harm_78 post K35 bZ wD gF pE qA nJ nY dQ jC eO eW dO fJ fY jD) x1 x2 x3 x4 qF jJ → va_P (dC, dI) classes (wd_X9_harm cI cC cZ cB cJ a_x xG xD wY wJ wQ xI xK xJ tW xH tX jE mX pD oO oQ eG qT bZ bD bI aI wD gF pE qA nJ nY dQ jC eO eW dO fJ fY jD nG qF jJ) H → va_D A (wd_X9_harm cI cC cZ cB cJ a_x xG xD wY wJ wQ xI xK xJ tW xH tX jE mX pD oO oQ eG qT bZ bD bI aI wD gF pE qA nJ nY dQ jC eO eW dO fJ fY jD nG qF jJ) → va_S A s.heap H locs → lv_has ls 5 [(0, .ref a_x), (1, .int x1), (2, .int x2), (3, .int x3), (4, .int x4)] → W p l e rm_X9_harm s m args below meth c H locs 0 0 (MQ below (q_X9_harm dC dI cI cC cZ cB cJ A a_x xG xD wY wJ wQ xI xK xJ tW xH tX jE mX pD oO oQ eG qT bZ bD bI aI wD gF pE qA nJ nY dQ jC eO eW dO fJ fY jD nG post) args s 0 0 A) (F0 m 78 ls []) := by
  obtain ⟨hx, hb, hr, hml, hown, hts, hlocks, hA, hK, hN, tL, tM, hZL, hTL, hZM, hTM, hZX⟩ := id C0
  intro x1 x2 x3 x4 qF jJ H locs ls hp hP hD hS hl
  unfold ws_X9_harm_78 at hp
  obtain ⟨v_10, ev_10⟩ : ∃ y : Int32, y = x4 + 1 := ⟨_, rfl⟩
  refine lv_iinc (v := v_10) (lv' := [(4, .int v_10), (0, .ref a_x), (1, .int x1), (2, .int x2), (3, .int x3)]) hx hb eX9_harm_58.2.2.2.2.2.2.2.2.2.2.2.2.2.2.1 hl (k := 4) rfl (by rw [ev_10]; rfl) (by decide) rfl (fun ls hl => ?_)
  have hp := hp v_10 ev_10
  refine lv_goto (tgt := 35) hx hb eX9_harm_58.2.2.2.2.2.2.2.2.2.2.2.2.2.2.2 (by decide) ?_
  exact hK35 x1 x2 x3 v_10 qF jJ H locs ls hp hP hD hS (lv_sub hl [1, 2, 3, 4, 0] rfl)
noncomputable def ws_X9_harm_35 (post : Int32 → Int32 → (Nat → Int32) → Prop) (next : Int32 → Int32 → Int32 → Int32 → Int32 → (Nat → Int32) → Prop) (bZ : Int32) (wD gF pE qA nJ nY dQ : Nat → Int32) (jC eO eW dO fJ fY jD x1 x2 x3 x4 qF : Int32) (jJ : Nat → Int32) : Prop := (bZ ≤ x4 → wp_X0_worthOf (fun r_3 => ∀ v_4 : Int32, v_4 = dO ||| x3 → wp_X3_worthOf (fun r_5 => ∀ v_6 : Int32, v_6 = r_3 - r_5 → wp_X9_tell (fun aBn aAp => post x3 aBn aAp) v_6 qF jJ) x3 v_4 bZ pE) x3 bZ pE dO) ∧ (¬ bZ ≤ x4 → ∀ v_9 : Int32, v_9 = x2 >>> (x4 &&& 31) → ((v_9 &&& 1) = 0 → ws_X9_harm_78 post next bZ wD gF pE qA nJ nY dQ jC eO eW dO fJ fY jD x1 x2 x3 x4 qF jJ) ∧ (¬ (v_9 &&& 1) = 0 → wp_X3_lowerThan (fun r_11 => ∀ v_12 : Int32, v_12 = x3 ||| r_11 → ∀ v_13 : Int32, v_13 = 1 <<< (x4 &&& 31) → ∀ v_14 : Int32, v_14 = x1 &&& (v_13 ^^^ (-1)) → ws_X9_harm_78 post next bZ wD gF pE qA nJ nY dQ jC eO eW dO fJ fY jD v_14 x2 v_12 x4 qF jJ) x4 x1 bZ wD gF))
noncomputable def wb_X9_harm_35 (post : Int32 → Int32 → (Nat → Int32) → Prop) (bZ : Int32) (wD gF pE qA nJ nY dQ : Nat → Int32) (jC eO eW dO fJ fY jD : Int32) : Nat → Int32 → Int32 → Int32 → Int32 → Int32 → (Nat → Int32) → Prop := fun n => Nat.rec (motive := fun _ => Int32 → Int32 → Int32 → Int32 → Int32 → (Nat → Int32) → Prop) (fun _ _ _ _ _ _ => False) (fun _ ih => ws_X9_harm_35 post ih bZ wD gF pE qA nJ nY dQ jC eO eW dO fJ fY jD) n
set_option maxHeartbeats 4000000 in
set_option maxRecDepth 100000 in
theorem ks_X9_harm_35 (C0 : gc cX9_harm (some .int) 5 RX9 (dC, dI) (tyl cI cC cZ cB cJ) A p s m args meth c) {next : Int32 → Int32 → Int32 → Int32 → Int32 → (Nat → Int32) → Prop} (hKn : ∀ (x1 : Int32) (x2 : Int32) (x3 : Int32) (x4 : Int32) (qF : Int32) (jJ : Nat → Int32) (H : Heap) (locs : List Loc) (ls : Array Slot), next x1 x2 x3 x4 qF jJ → va_P (dC, dI) classes (wd_X9_harm cI cC cZ cB cJ a_x xG xD wY wJ wQ xI xK xJ tW xH tX jE mX pD oO oQ eG qT bZ bD bI aI wD gF pE qA nJ nY dQ jC eO eW dO fJ fY jD nG qF jJ) H → va_D A (wd_X9_harm cI cC cZ cB cJ a_x xG xD wY wJ wQ xI xK xJ tW xH tX jE mX pD oO oQ eG qT bZ bD bI aI wD gF pE qA nJ nY dQ jC eO eW dO fJ fY jD nG qF jJ) → va_S A s.heap H locs → lv_has ls 5 [(0, .ref a_x), (1, .int x1), (2, .int x2), (3, .int x3), (4, .int x4)] → W p l e rm_X9_harm s m args below meth c H locs 0 0 (MQ below (q_X9_harm dC dI cI cC cZ cB cJ A a_x xG xD wY wJ wQ xI xK xJ tW xH tX jE mX pD oO oQ eG qT bZ bD bI aI wD gF pE qA nJ nY dQ jC eO eW dO fJ fY jD nG post) args s 0 0 A) (F0 m 35 ls [])) : ∀ (x1 x2 x3 x4 qF : Int32) (jJ : Nat → Int32) (H : Heap) (locs : List Loc) (ls : Array Slot), (ws_X9_harm_35 post next bZ wD gF pE qA nJ nY dQ jC eO eW dO fJ fY jD) x1 x2 x3 x4 qF jJ → va_P (dC, dI) classes (wd_X9_harm cI cC cZ cB cJ a_x xG xD wY wJ wQ xI xK xJ tW xH tX jE mX pD oO oQ eG qT bZ bD bI aI wD gF pE qA nJ nY dQ jC eO eW dO fJ fY jD nG qF jJ) H → va_D A (wd_X9_harm cI cC cZ cB cJ a_x xG xD wY wJ wQ xI xK xJ tW xH tX jE mX pD oO oQ eG qT bZ bD bI aI wD gF pE qA nJ nY dQ jC eO eW dO fJ fY jD nG qF jJ) → va_S A s.heap H locs → lv_has ls 5 [(0, .ref a_x), (1, .int x1), (2, .int x2), (3, .int x3), (4, .int x4)] → W p l e rm_X9_harm s m args below meth c H locs 0 0 (MQ below (q_X9_harm dC dI cI cC cZ cB cJ A a_x xG xD wY wJ wQ xI xK xJ tW xH tX jE mX pD oO oQ eG qT bZ bD bI aI wD gF pE qA nJ nY dQ jC eO eW dO fJ fY jD nG post) args s 0 0 A) (F0 m 35 ls []) := by
  obtain ⟨hx, hb, hr, hml, hown, hts, hlocks, hA, hK, hN, tL, tM, hZL, hTL, hZM, hTM, hZX⟩ := id C0
  intro x1 x2 x3 x4 qF jJ H locs ls hp hP hD hS hl
  unfold ws_X9_harm_35 at hp
  refine lv_iload hx hb eX9_harm_31.2.2.2.1 (lv_at hl 4 rfl) ?_
  refine lv_aload_n hx hb eX9_harm_31.2.2.2.2.1 rfl (lv_at hl 0 rfl) ?_
  refine va_get (D := (dC, dI)) (ci := 9) (v := .ref wJ) (C := RX9) (T := TX9) (N := 9) hx hb hts i_X9 hown hK hP 0 rfl rfl 3 (Nat.le_of_ble_eq_true rfl) (hts _ q_74) (fun _ h9 => h9) rfl eX9_harm_31.2.2.2.2.2.1 ?_
  refine va_get (D := (dC, dI)) (ci := 3) (v := .int bZ) (C := RX3) (T := TX3) (N := 11) hx hb hts i_X3 hown hK hP 2 rfl rfl 7 (Nat.le_of_ble_eq_true rfl) (hts _ q_539) (fun _ h9 => h9) rfl eX9_harm_31.2.2.2.2.2.2.1 ?_
  refine lv_icmp_ge (tgt := 84) hx hb eX9_harm_31.2.2.2.2.2.2.2.1 (by decide) (fun hc => ?_) (fun hc => ?_)
  · have hp := hp.1 hc
    refine lv_aload_n hx hb eX9_harm_84.1 rfl (lv_at hl 0 rfl) ?_
    refine lv_aload_n hx hb eX9_harm_84.2.1 rfl (lv_at hl 0 rfl) ?_
    refine va_get (D := (dC, dI)) (ci := 9) (v := .ref wY) (C := RX9) (T := TX9) (N := 9) hx hb hts i_X9 hown hK hP 0 rfl rfl 2 (Nat.le_of_ble_eq_true rfl) (hts _ q_146) (fun _ h9 => h9) rfl eX9_harm_84.2.2.1 ?_
    refine lv_iload_n hx hb eX9_harm_84.2.2.2.1 rfl (lv_at hl 3 rfl) ?_
    have hm := mgk (wc := (wd_X0_worthOf cI cC cZ cB cJ wY wJ wQ xH tX jE mX pD oO oQ eG bZ bD bI aI pE jC eO eW dO fJ fY jD nG)) hP mk_170 13 rfl rfl rfl
    refine g_calli hP hD hS hA (mixT mk_170) (mixF mk_170) hm.1 hm.2 (nd_F _) (dis_g _) (g_runV (As := [.int x3]) (rest := [.ref a_x]) C0 hP hD hS (mixT mk_170) hm.1 (nd_T _) 1 0 rfl rfl (c_X0_worthOf l dC dI cI cC cZ cB cJ wY wJ wQ xH tX jE mX pD oO oQ eG H.size x3 bZ bD bI aI pE jC eO eW dO fJ fY jD nG _ hp) q_297 q_417 q_298 q_299 q_187 h_X0_worthOf rfl rfl ⟨Nat.le_of_ble_eq_true rfl, Nat.le_of_ble_eq_true rfl⟩ rfl rfl hl.1 rfl (lv_room (Nat.le_of_ble_eq_true rfl)) eX9_harm_84.2.2.2.2.1 ⟨Nat.zero_le _, Nat.zero_le _⟩) (fun r_3 u H locs hp hP hD hS => ?_)
    have hPD := PDm (ws' := (wd_X9_harm cI cC cZ cB cJ a_x xG xD wY wJ wQ xI xK xJ tW xH tX jE mX pD oO oQ eG qT bZ bD bI aI wD gF pE qA nJ nY dQ jC eO eW dO fJ fY jD nG qF jJ)) hP hD 13 rfl rfl rfl
    have hP := hPD.1
    have hD := hPD.2
    refine lv_aload_n hx hb eX9_harm_84.2.2.2.2.2.1 rfl (lv_at hl 0 rfl) ?_
    refine va_get (D := (dC, dI)) (ci := 9) (v := .ref wJ) (C := RX9) (T := TX9) (N := 9) hx hb hts i_X9 hown hK hP 0 rfl rfl 3 (Nat.le_of_ble_eq_true rfl) (hts _ q_74) (fun _ h9 => h9) rfl eX9_harm_84.2.2.2.2.2.2.1 ?_
    refine lv_iload_n hx hb eX9_harm_84.2.2.2.2.2.2.2.1 rfl (lv_at hl 3 rfl) ?_
    refine lv_aload_n hx hb eX9_harm_84.2.2.2.2.2.2.2.2.1 rfl (lv_at hl 0 rfl) ?_
    refine va_get (D := (dC, dI)) (ci := 9) (v := .ref wQ) (C := RX9) (T := TX9) (N := 9) hx hb hts i_X9 hown hK hP 0 rfl rfl 4 (Nat.le_of_ble_eq_true rfl) (hts _ q_179) (fun _ h9 => h9) rfl eX9_harm_84.2.2.2.2.2.2.2.2.2.1 ?_
    refine va_get (D := (dC, dI)) (ci := 2) (v := .int dO) (C := RX2) (T := TX2) (N := 8) hx hb hts i_X2 hown hK hP 10 rfl rfl 3 (Nat.le_of_ble_eq_true rfl) (hts _ q_185) (fun _ h9 => h9) rfl eX9_harm_84.2.2.2.2.2.2.2.2.2.2.1 ?_
    refine lv_iload_n hx hb eX9_harm_84.2.2.2.2.2.2.2.2.2.2.2.1 rfl (lv_at hl 3 rfl) ?_
    refine lv_ior hx hb eX9_harm_84.2.2.2.2.2.2.2.2.2.2.2.2.1 ?_
    refine lv_topi (fun v_4 ev_4 => ?_)
    have hp := hp v_4 ev_4
    have hm := mgk (wc := (wd_X3_worthOf cI cC cZ cB cJ wJ tX jE mX pD oO oQ eG bZ bD bI aI pE)) hP mk_171 13 rfl rfl rfl
    refine g_calli hP hD hS hA (mixT mk_171) (mixF mk_171) hm.1 hm.2 (nd_F _) (dis_g _) (g_runV (As := [.int x3, .int v_4]) (rest := [.int r_3, .ref a_x]) C0 hP hD hS (mixT mk_171) hm.1 (nd_T _) 2 3 rfl rfl (c_X3_worthOf l dC dI cI cC cZ cB cJ wJ tX jE mX pD oO oQ eG H.size x3 v_4 bZ bD bI aI pE _ hp) q_279 q_573 q_280 q_281 q_48 h_X3_worthOf rfl rfl ⟨Nat.le_of_ble_eq_true rfl, Nat.le_of_ble_eq_true rfl⟩ rfl rfl hl.1 rfl (lv_room (Nat.le_of_ble_eq_true rfl)) eX9_harm_84.2.2.2.2.2.2.2.2.2.2.2.2.2.1 ⟨Nat.zero_le _, Nat.zero_le _⟩) (fun r_5 u H locs hp hP hD hS => ?_)
    have hPD := PDm (ws' := (wd_X9_harm cI cC cZ cB cJ a_x xG xD wY wJ wQ xI xK xJ tW xH tX jE mX pD oO oQ eG qT bZ bD bI aI wD gF pE qA nJ nY dQ jC eO eW dO fJ fY jD nG qF jJ)) hP hD 13 rfl rfl rfl
    have hP := hPD.1
    have hD := hPD.2
    refine lv_isub hx hb eX9_harm_84.2.2.2.2.2.2.2.2.2.2.2.2.2.2.1 ?_
    refine lv_topi (fun v_6 ev_6 => ?_)
    have hp := hp v_6 ev_6
    have hm := mgk (wc := (wd_X9_tell cI cC cZ cB cJ a_x xG xD wY wJ wQ xI xK xJ tW qT qF jJ)) hP mk_172 13 rfl rfl rfl
    refine g_callv hP hD hS hA (mixT mk_172) (mixF mk_172) hm.1 hm.2 (nd_F _) (dis_g _) (g_runV (As := [.int v_6]) (rest := []) C0 hP hD hS (mixT mk_172) hm.1 (nd_T _) 0 9 rfl rfl (c_X9_tell l dC dI cI cC cZ cB cJ a_x xG xD wY wJ wQ xI xK xJ tW qT H.size v_6 qF jJ _ hp) q_373 q_376 q_374 q_375 q_256 h_X9_tell rfl rfl ⟨Nat.le_of_ble_eq_true rfl, Nat.le_of_ble_eq_true rfl⟩ rfl rfl hl.1 rfl (lv_room (Nat.le_of_ble_eq_true rfl)) eX9_harm_84.2.2.2.2.2.2.2.2.2.2.2.2.2.2.2 ⟨Nat.zero_le _, Nat.zero_le _⟩) (fun u H locs hp hP hD hS => ?_)
    obtain ⟨aBn, aAp⟩ := u
    have hPD := PDm (ws' := (wd_X9_harm cI cC cZ cB cJ a_x xG xD wY wJ wQ xI xK xJ tW xH tX jE mX pD oO oQ eG qT bZ bD bI aI wD gF pE qA nJ nY dQ jC eO eW dO fJ fY jD nG aBn aAp)) hP hD 13 rfl rfl rfl
    have hP := hPD.1
    have hD := hPD.2
    refine lv_iload_n hx hb eX9_harm_114.1 rfl (lv_at hl 3 rfl) ?_
    exact W.iret (v := x3) hx hb hr (fun t ht hW => ⟨⟨x3, (aBn, aAp), rfl, hp, by rw [ht]; exact hP, va_K.moved hW.alike hK, hD⟩, hS.F ht⟩) hS.2.2 eX9_harm_114.2
  · have hp := hp.2 hc
    refine lv_iload_n hx hb eX9_harm_31.2.2.2.2.2.2.2.2.1 rfl (lv_at hl 2 rfl) ?_
    refine lv_iload hx hb eX9_harm_31.2.2.2.2.2.2.2.2.2.1 (lv_at hl 4 rfl) ?_
    refine lv_ishr hx hb eX9_harm_31.2.2.2.2.2.2.2.2.2.2.1 ?_
    refine lv_topi (fun v_9 ev_9 => ?_)
    have hp := hp v_9 ev_9
    refine lv_iconst (v := 1) hx hb eX9_harm_31.2.2.2.2.2.2.2.2.2.2.2.1 ic_1 ?_
    refine lv_iand hx hb eX9_harm_31.2.2.2.2.2.2.2.2.2.2.2.2.1 ?_
    refine lv_if_eq (tgt := 78) hx hb eX9_harm_31.2.2.2.2.2.2.2.2.2.2.2.2.2.1 (by decide) (fun hc => ?_) (fun hc => ?_)
    · have hp := hp.1 hc
      exact ks_X9_harm_78 C0 hKn x1 x2 x3 x4 qF jJ H locs ls hp hP hD hS (lv_sub hl [0, 1, 2, 3, 4] rfl)
    · have hp := hp.2 hc
      refine lv_iload_n hx hb eX9_harm_31.2.2.2.2.2.2.2.2.2.2.2.2.2.2.1 rfl (lv_at hl 3 rfl) ?_
      refine lv_aload_n hx hb eX9_harm_31.2.2.2.2.2.2.2.2.2.2.2.2.2.2.2 rfl (lv_at hl 0 rfl) ?_
      refine va_get (D := (dC, dI)) (ci := 9) (v := .ref wJ) (C := RX9) (T := TX9) (N := 9) hx hb hts i_X9 hown hK hP 0 rfl rfl 3 (Nat.le_of_ble_eq_true rfl) (hts _ q_74) (fun _ h9 => h9) rfl eX9_harm_58.1 ?_
      refine lv_iload hx hb eX9_harm_58.2.1 (lv_at hl 4 rfl) ?_
      refine lv_iload_n hx hb eX9_harm_58.2.2.1 rfl (lv_at hl 1 rfl) ?_
      have hm := mgk (wc := (wd_X3_lowerThan cI cC cZ cB cJ wJ tX jE mX pD oO oQ eG bZ bD bI aI wD gF)) hP mk_173 13 rfl rfl rfl
      refine g_calli hP hD hS hA (mixT mk_173) (mixF mk_173) hm.1 hm.2 (nd_F _) (dis_g _) (g_runV (As := [.int x4, .int x1]) (rest := [.int x3]) C0 hP hD hS (mixT mk_173) hm.1 (nd_T _) 2 3 rfl rfl (c_X3_lowerThan l dC dI cI cC cZ cB cJ wJ tX jE mX pD oO oQ eG H.size x4 x1 bZ bD bI aI wD gF _ hp) q_191 q_194 q_192 q_193 q_48 h_X3_lowerThan rfl rfl ⟨Nat.le_of_ble_eq_true rfl, Nat.le_of_ble_eq_true rfl⟩ rfl rfl hl.1 rfl (lv_room (Nat.le_of_ble_eq_true rfl)) eX9_harm_58.2.2.2.1 ⟨Nat.zero_le _, Nat.zero_le _⟩) (fun r_11 u H locs hp hP hD hS => ?_)
      have hPD := PDm (ws' := (wd_X9_harm cI cC cZ cB cJ a_x xG xD wY wJ wQ xI xK xJ tW xH tX jE mX pD oO oQ eG qT bZ bD bI aI wD gF pE qA nJ nY dQ jC eO eW dO fJ fY jD nG qF jJ)) hP hD 13 rfl rfl rfl
      have hP := hPD.1
      have hD := hPD.2
      refine lv_ior hx hb eX9_harm_58.2.2.2.2.1 ?_
      refine lv_topi (fun v_12 ev_12 => ?_)
      have hp := hp v_12 ev_12
      refine lv_istore_n (lv' := [(3, .int v_12), (0, .ref a_x), (1, .int x1), (2, .int x2), (4, .int x4)]) hx hb eX9_harm_58.2.2.2.2.2.1 rfl hl (by decide) rfl (fun ls hl => ?_)
      refine lv_iload_n hx hb eX9_harm_58.2.2.2.2.2.2.1 rfl (lv_at hl 2 rfl) ?_
      refine lv_iconst (v := 1) hx hb eX9_harm_58.2.2.2.2.2.2.2.1 ic_1 ?_
      refine lv_iload hx hb eX9_harm_58.2.2.2.2.2.2.2.2.1 (lv_at hl 4 rfl) ?_
      refine lv_ishl hx hb eX9_harm_58.2.2.2.2.2.2.2.2.2.1 ?_
      refine lv_topi (fun v_13 ev_13 => ?_)
      have hp := hp v_13 ev_13
      refine lv_iconst (v := (-1)) hx hb eX9_harm_58.2.2.2.2.2.2.2.2.2.2.1 ic_m1 ?_
      refine lv_ixor hx hb eX9_harm_58.2.2.2.2.2.2.2.2.2.2.2.1 ?_
      refine lv_iand hx hb eX9_harm_58.2.2.2.2.2.2.2.2.2.2.2.2.1 ?_
      refine lv_topi (fun v_14 ev_14 => ?_)
      have hp := hp v_14 ev_14
      refine lv_istore_n (lv' := [(1, .int v_14), (3, .int v_12), (0, .ref a_x), (2, .int x2), (4, .int x4)]) hx hb eX9_harm_58.2.2.2.2.2.2.2.2.2.2.2.2.2.1 rfl hl (by decide) rfl (fun ls hl => ?_)
      exact ks_X9_harm_78 C0 hKn v_14 x2 v_12 x4 qF jJ H locs ls hp hP hD hS (lv_sub hl [2, 0, 3, 1, 4] rfl)
set_option maxHeartbeats 4000000 in
set_option maxRecDepth 100000 in
theorem kb_X9_harm_35 (C0 : gc cX9_harm (some .int) 5 RX9 (dC, dI) (tyl cI cC cZ cB cJ) A p s m args meth c) : ∀ (n : Nat), ∀ (x1 x2 x3 x4 qF : Int32) (jJ : Nat → Int32) (H : Heap) (locs : List Loc) (ls : Array Slot), (wb_X9_harm_35 post bZ wD gF pE qA nJ nY dQ jC eO eW dO fJ fY jD n) x1 x2 x3 x4 qF jJ → va_P (dC, dI) classes (wd_X9_harm cI cC cZ cB cJ a_x xG xD wY wJ wQ xI xK xJ tW xH tX jE mX pD oO oQ eG qT bZ bD bI aI wD gF pE qA nJ nY dQ jC eO eW dO fJ fY jD nG qF jJ) H → va_D A (wd_X9_harm cI cC cZ cB cJ a_x xG xD wY wJ wQ xI xK xJ tW xH tX jE mX pD oO oQ eG qT bZ bD bI aI wD gF pE qA nJ nY dQ jC eO eW dO fJ fY jD nG qF jJ) → va_S A s.heap H locs → lv_has ls 5 [(0, .ref a_x), (1, .int x1), (2, .int x2), (3, .int x3), (4, .int x4)] → W p l e rm_X9_harm s m args below meth c H locs 0 0 (MQ below (q_X9_harm dC dI cI cC cZ cB cJ A a_x xG xD wY wJ wQ xI xK xJ tW xH tX jE mX pD oO oQ eG qT bZ bD bI aI wD gF pE qA nJ nY dQ jC eO eW dO fJ fY jD nG post) args s 0 0 A) (F0 m 35 ls []) := by
  intro n
  induction n with
  | zero =>
    intro x1 x2 x3 x4 qF jJ H locs ls hp
    exact False.elim hp
  | succ n ih =>
    intro x1 x2 x3 x4 qF jJ H locs ls hp
    exact ks_X9_harm_35 C0 ih x1 x2 x3 x4 qF jJ H locs ls hp
end S_X9_harm
noncomputable def wp_X9_harm (post : Int32 → Int32 → (Nat → Int32) → Prop) (bZ : Int32) (wD gF pE qA nJ nY dQ : Nat → Int32) (jC eO eW dO fJ fY jD qF : Int32) (jJ : Nat → Int32) : Prop := (¬ fJ = (-1) → wp_X0_hanging (fun r_1 => wp_X0_readyHere (fun r_2 => ∃ n : Nat, wb_X9_harm_35 post bZ wD gF pE qA nJ nY dQ jC eO eW dO fJ fY jD n r_1 r_2 0 0 qF jJ) bZ wD gF qA nJ nY dQ jC eO eW fJ fY jD) bZ jC eO eW) ∧ (fJ = (-1) → post (-2) qF jJ)
set_option maxHeartbeats 4000000 in
set_option maxRecDepth 100000 in
theorem c_X9_harm (l : Launch) (dC : Nat → ClassId) (dI : Nat → Nat → Nat) (cI cC cZ cB cJ : ClassId) (a_x xG xD wY wJ wQ xI xK xJ tW xH tX jE mX pD oO oQ eG qT sz : Nat) (bZ bD bI aI : Int32) (wD gF pE qA nJ nY dQ : Nat → Int32) (jC eO eW dO fJ fY jD nG qF : Int32) (jJ : Nat → Int32) (post : Int32 → Int32 → (Nat → Int32) → Prop) (hw : wp_X9_harm post bZ wD gF pE qA nJ nY dQ jC eO eW dO fJ fY jD qF jJ) : Met l yX9_harm (gw yX9_harm cX9_harm 5 (some .int)) rm_X9_harm (va_Pc [.ref a_x] (gPre (dC, dI) (tyl cI cC cZ cB cJ) (wd_X9_harm cI cC cZ cB cJ a_x xG xD wY wJ wQ xI xK xJ tW xH tX jE mX pD oO oQ eG qT bZ bD bI aI wD gF pE qA nJ nY dQ jC eO eW dO fJ fY jD nG qF jJ) sz)) (q_X9_harm dC dI cI cC cZ cB cJ (va_A (wd_X9_harm cI cC cZ cB cJ a_x xG xD wY wJ wQ xI xK xJ tW xH tX jE mX pD oO oQ eG qT bZ bD bI aI wD gF pE qA nJ nY dQ jC eO eW dO fJ fY jD nG qF jJ) sz) a_x xG xD wY wJ wQ xI xK xJ tW xH tX jE mX pD oO oQ eG qT bZ bD bI aI wD gF pE qA nJ nY dQ jC eO eW dO fJ fY jD nG post) 0 0 (va_A (wd_X9_harm cI cC cZ cB cJ a_x xG xD wY wJ wQ xI xK xJ tW xH tX jE mX pD oO oQ eG qT bZ bD bI aI wD gF pE qA nJ nY dQ jC eO eW dO fJ fY jD nG qF jJ) sz) := by
  refine g_enter (own := RX9) (dC, dI) (tyl cI cC cZ cB cJ) (wd_X9_harm cI cC cZ cB cJ a_x xG xD wY wJ wQ xI xK xJ tW xH tX jE mX pD oO oQ eG qT bZ bD bI aI wD gF pE qA nJ nY dQ jC eO eW dO fJ fY jD nG qF jJ) sz [.ref a_x] (fun A => q_X9_harm dC dI cI cC cZ cB cJ A a_x xG xD wY wJ wQ xI xK xJ tW xH tX jE mX pD oO oQ eG qT bZ bD bI aI wD gF pE qA nJ nY dQ jC eO eW dO fJ fY jD nG post) pn_RX9 rfl (Nat.le_of_ble_eq_true rfl) ?_
  intro p e s m args below meth c A H locs ls C0 hP hD hS hl
  have hl : lv_has ls 5 [(0, .ref a_x)] := hl
  obtain ⟨hx, hb, hr, hml, hown, hts, hlocks, hA, hK, hN, tL, tM, hZL, hTL, hZM, hTM, hZX⟩ := id C0
  have hp := hw
  unfold wp_X9_harm at hp
  refine lv_aload_n hx hb eX9_harm_0.1 rfl (lv_at hl 0 rfl) ?_
  refine va_get (D := (dC, dI)) (ci := 9) (v := .ref wQ) (C := RX9) (T := TX9) (N := 9) hx hb hts i_X9 hown hK hP 0 rfl rfl 4 (Nat.le_of_ble_eq_true rfl) (hts _ q_179) (fun _ h9 => h9) rfl eX9_harm_0.2.1 ?_
  refine va_get (D := (dC, dI)) (ci := 2) (v := .int fJ) (C := RX2) (T := TX2) (N := 8) hx hb hts i_X2 hown hK hP 10 rfl rfl 4 (Nat.le_of_ble_eq_true rfl) (hts _ q_497) (fun _ h9 => h9) rfl eX9_harm_0.2.2.1 ?_
  refine lv_iconst (v := (-1)) hx hb eX9_harm_0.2.2.2.1 ic_m1 ?_
  refine lv_icmp_ne (tgt := 14) hx hb eX9_harm_0.2.2.2.2.1 (by decide) (fun hc => ?_) (fun hc => ?_)
  · have hp := hp.1 hc
    refine lv_aload_n hx hb eX9_harm_0.2.2.2.2.2.2.2.1 rfl (lv_at hl 0 rfl) ?_
    refine va_get (D := (dC, dI)) (ci := 9) (v := .ref wY) (C := RX9) (T := TX9) (N := 9) hx hb hts i_X9 hown hK hP 0 rfl rfl 2 (Nat.le_of_ble_eq_true rfl) (hts _ q_146) (fun _ h9 => h9) rfl eX9_harm_0.2.2.2.2.2.2.2.2.1 ?_
    have hm := mgk (wc := (wd_X0_hanging cI cC cZ cB cJ wY wJ wQ xH tX jE mX pD oO oQ eG bZ bD bI aI jC eO eW dO fJ fY jD nG)) hP mk_174 13 rfl rfl rfl
    refine g_calli hP hD hS hA (mixT mk_174) (mixF mk_174) hm.1 hm.2 (nd_F _) (dis_g _) (g_runV (As := []) (rest := []) C0 hP hD hS (mixT mk_174) hm.1 (nd_T _) 1 0 rfl rfl (c_X0_hanging l dC dI cI cC cZ cB cJ wY wJ wQ xH tX jE mX pD oO oQ eG H.size bZ bD bI aI jC eO eW dO fJ fY jD nG _ hp) q_186 q_190 q_188 q_189 q_187 h_X0_hanging rfl rfl ⟨Nat.le_of_ble_eq_true rfl, Nat.le_of_ble_eq_true rfl⟩ rfl rfl hl.1 rfl (lv_room (Nat.le_of_ble_eq_true rfl)) eX9_harm_0.2.2.2.2.2.2.2.2.2.1 ⟨Nat.zero_le _, Nat.zero_le _⟩) (fun r_1 u H locs hp hP hD hS => ?_)
    have hPD := PDm (ws' := (wd_X9_harm cI cC cZ cB cJ a_x xG xD wY wJ wQ xI xK xJ tW xH tX jE mX pD oO oQ eG qT bZ bD bI aI wD gF pE qA nJ nY dQ jC eO eW dO fJ fY jD nG qF jJ)) hP hD 13 rfl rfl rfl
    have hP := hPD.1
    have hD := hPD.2
    refine lv_istore_n (lv' := [(1, .int r_1), (0, .ref a_x)]) hx hb eX9_harm_0.2.2.2.2.2.2.2.2.2.2.1 rfl hl (by decide) rfl (fun ls hl => ?_)
    refine lv_aload_n hx hb eX9_harm_0.2.2.2.2.2.2.2.2.2.2.2.1 rfl (lv_at hl 1 rfl) ?_
    refine va_get (D := (dC, dI)) (ci := 9) (v := .ref wY) (C := RX9) (T := TX9) (N := 9) hx hb hts i_X9 hown hK hP 0 rfl rfl 2 (Nat.le_of_ble_eq_true rfl) (hts _ q_146) (fun _ h9 => h9) rfl eX9_harm_0.2.2.2.2.2.2.2.2.2.2.2.2.1 ?_
    have hm := mgk (wc := (wd_X0_readyHere cI cC cZ cB cJ wY wJ wQ xH tX jE mX pD oO oQ eG bZ bD bI aI wD gF qA nJ nY dQ jC eO eW dO fJ fY jD nG)) hP mk_175 13 rfl rfl rfl
    refine g_calli hP hD hS hA (mixT mk_175) (mixF mk_175) hm.1 hm.2 (nd_F _) (dis_g _) (g_runV (As := []) (rest := []) C0 hP hD hS (mixT mk_175) hm.1 (nd_T _) 1 0 rfl rfl (c_X0_readyHere l dC dI cI cC cZ cB cJ wY wJ wQ xH tX jE mX pD oO oQ eG H.size bZ bD bI aI wD gF qA nJ nY dQ jC eO eW dO fJ fY jD nG _ hp) q_347 q_568 q_348 q_349 q_187 h_X0_readyHere rfl rfl ⟨Nat.le_of_ble_eq_true rfl, Nat.le_of_ble_eq_true rfl⟩ rfl rfl hl.1 rfl (lv_room (Nat.le_of_ble_eq_true rfl)) eX9_harm_0.2.2.2.2.2.2.2.2.2.2.2.2.2.1 ⟨Nat.zero_le _, Nat.zero_le _⟩) (fun r_2 u H locs hp hP hD hS => ?_)
    have hPD := PDm (ws' := (wd_X9_harm cI cC cZ cB cJ a_x xG xD wY wJ wQ xI xK xJ tW xH tX jE mX pD oO oQ eG qT bZ bD bI aI wD gF pE qA nJ nY dQ jC eO eW dO fJ fY jD nG qF jJ)) hP hD 13 rfl rfl rfl
    have hP := hPD.1
    have hD := hPD.2
    refine lv_istore_n (lv' := [(2, .int r_2), (1, .int r_1), (0, .ref a_x)]) hx hb eX9_harm_0.2.2.2.2.2.2.2.2.2.2.2.2.2.2.1 rfl hl (by decide) rfl (fun ls hl => ?_)
    refine lv_iconst (v := 0) hx hb eX9_harm_0.2.2.2.2.2.2.2.2.2.2.2.2.2.2.2 ic_0 ?_
    refine lv_istore_n (lv' := [(3, .int 0), (2, .int r_2), (1, .int r_1), (0, .ref a_x)]) hx hb eX9_harm_31.1 rfl hl (by decide) rfl (fun ls hl => ?_)
    refine lv_iconst (v := 0) hx hb eX9_harm_31.2.1 ic_0 ?_
    refine lv_istore (lv' := [(4, .int 0), (3, .int 0), (2, .int r_2), (1, .int r_1), (0, .ref a_x)]) hx hb eX9_harm_31.2.2.1 hl (by decide) rfl (fun ls hl => ?_)
    obtain ⟨n9, hp⟩ := hp
    exact kb_X9_harm_35 C0 n9 r_1 r_2 0 0 qF jJ H locs ls hp hP hD hS (lv_sub hl [4, 3, 2, 1, 0] rfl)
  · have hp := hp.2 hc
    refine lv_bipush (v := (-2)) hx hb eX9_harm_0.2.2.2.2.2.1 bp_m2 ?_
    exact W.iret (v := (-2)) hx hb hr (fun t ht hW => ⟨⟨(-2), (qF, jJ), rfl, hp, by rw [ht]; exact hP, va_K.moved hW.alike hK, hD⟩, hS.F ht⟩) hS.2.2 eX9_harm_0.2.2.2.2.2.2.1
noncomputable abbrev wd_X5_loadFirsts (cI cC cZ cB cJ : ClassId) (xD wY wJ uE qU uJ uL uI wQ xH tX jE mX pD oO oQ eG uS sW uR qY sY : Nat) (oX rJ pN rP : Int32) (rX vV : Nat → Int32) (bZ bD bI aI : Int32) (wD gF pE nJ nY : Nat → Int32) (jC eO eW dO fJ fY jD nG pG qB sH uP pQ mW : Int32) (qO qQ oF : Nat → Int32) : va_W := [(xD, .inr (5, [.ref wY, .ref wJ, .ref uE, .ref qU, .ref uJ, .ref uL, .ref uI, .int oX, .int rJ, .int pN, .int rP])), (uE, .inl (cI, 8, .inl rX)), (uL, .inl (cI, 8, .inl vV)), (wY, .inr (0, [.ref wJ, .ref wQ, .ref xH])), (wJ, .inr (3, [.ref tX, .ref jE, .ref mX, .ref pD, .ref oO, .ref oQ, .ref eG, .int bZ, .int bD, .int bI, .int aI])), (tX, .inl (cI, 16, .inl wD)), (jE, .inl (cI, 16, .inl gF)), (mX, .inl (cI, 16, .inl pE)), (oO, .inl (cI, 8, .inl nJ)), (oQ, .inl (cI, 8, .inl nY)), (wQ, .inr (2, [.int jC, .int eO, .int eW, .int dO, .int fJ, .int fY, .int jD, .int nG])), (xH, .inr (7, [.ref uS, .ref sW, .ref uR, .ref qY, .ref sY, .int pG, .int qB, .int sH, .int uP, .int pQ, .int mW])), (uS, .inl (cI, 7, .inl qO)), (uR, .inl (cI, 40, .inl qQ)), (qY, .inl (cI, 40, .inl oF))]
noncomputable abbrev q_X5_loadFirsts (dC : Nat → ClassId) (dI : Nat → Nat → Nat) (cI cC cZ cB cJ : ClassId) (A : Nat → Prop) (xD wY wJ uE qU uJ uL uI wQ xH tX jE mX pD oO oQ eG uS sW uR qY sY : Nat) (oX rJ pN rP : Int32) (rX : Nat → Int32) (bZ bD bI aI : Int32) (wD gF pE nJ nY : Nat → Int32) (jC eO eW dO fJ fY jD nG pG qB sH uP pQ mW : Int32) (oF : Nat → Int32) (post : (Nat → Int32) → (Nat → Int32) → (Nat → Int32) → Prop) : Array Value → State → Outcome → State → Prop := va_Qv (fun (u : (Nat → Int32) × (Nat → Int32) × (Nat → Int32)) => post u.1 u.2.1 u.2.2) (fun u t => gB (dC, dI) (tyl cI cC cZ cB cJ) A (wd_X5_loadFirsts cI cC cZ cB cJ xD wY wJ uE qU uJ uL uI wQ xH tX jE mX pD oO oQ eG uS sW uR qY sY oX rJ pN rP rX u.1 bZ bD bI aI wD gF pE nJ nY jC eO eW dO fJ fY jD nG pG qB sH uP pQ mW u.2.1 u.2.2 oF) t) A
noncomputable abbrev rm_X5_loadFirsts : Room := { frames := 3, cells := 0, slots := 0, locals := 73 }
section S_X5_loadFirsts
variable {p : Program} {l : Launch} {e : Env} {s : State} {m : MethodId} {args : Array Value} {below : List Frame} {meth : Method} {c : Code} {dC : Nat → ClassId} {dI : Nat → Nat → Nat} {cI cC cZ cB cJ : ClassId} {A : Nat → Prop} {xD wY wJ uE qU uJ uL uI wQ xH tX jE mX pD oO oQ eG uS sW uR qY sY : Nat} {oX rJ pN rP : Int32} {rX : Nat → Int32} {bZ bD bI aI : Int32} {wD gF pE nJ nY : Nat → Int32} {jC eO eW dO fJ fY jD nG pG qB sH uP pQ mW : Int32} {oF : Nat → Int32} {post : (Nat → Int32) → (Nat → Int32) → (Nat → Int32) → Prop}
noncomputable def ws_X5_loadFirsts_93 (post : (Nat → Int32) → (Nat → Int32) → (Nat → Int32) → Prop) (K7 : Int32 → Int32 → Int32 → (Nat → Int32) → (Nat → Int32) → (Nat → Int32) → Prop) (K50 : Int32 → Int32 → Int32 → Int32 → Int32 → (Nat → Int32) → (Nat → Int32) → (Nat → Int32) → Prop) (oX : Int32) (rX : Nat → Int32) (bZ bD : Int32) (wD gF pE nJ nY : Nat → Int32) (dO pG : Int32) (oF : Nat → Int32) (x1 x2 x3 x4 x5 : Int32) (vV qO qQ : Nat → Int32) : Prop := ∀ v_5 : Int32, v_5 = x5 + 1 → K50 x1 x2 x3 x4 v_5 vV qO qQ
set_option maxHeartbeats 4000000 in
set_option maxRecDepth 100000 in
theorem ks_X5_loadFirsts_93 (C0 : gc cX5_loadFirsts none 6 RX5 (dC, dI) (tyl cI cC cZ cB cJ) A p s m args meth c) {K7 : Int32 → Int32 → Int32 → (Nat → Int32) → (Nat → Int32) → (Nat → Int32) → Prop} {K50 : Int32 → Int32 → Int32 → Int32 → Int32 → (Nat → Int32) → (Nat → Int32) → (Nat → Int32) → Prop} (hK7 : ∀ (x1 : Int32) (x2 : Int32) (x3 : Int32) (vV : Nat → Int32) (qO : Nat → Int32) (qQ : Nat → Int32) (H : Heap) (locs : List Loc) (ls : Array Slot), K7 x1 x2 x3 vV qO qQ → va_P (dC, dI) classes (wd_X5_loadFirsts cI cC cZ cB cJ xD wY wJ uE qU uJ uL uI wQ xH tX jE mX pD oO oQ eG uS sW uR qY sY oX rJ pN rP rX vV bZ bD bI aI wD gF pE nJ nY jC eO eW dO fJ fY jD nG pG qB sH uP pQ mW qO qQ oF) H → va_D A (wd_X5_loadFirsts cI cC cZ cB cJ xD wY wJ uE qU uJ uL uI wQ xH tX jE mX pD oO oQ eG uS sW uR qY sY oX rJ pN rP rX vV bZ bD bI aI wD gF pE nJ nY jC eO eW dO fJ fY jD nG pG qB sH uP pQ mW qO qQ oF) → va_S A s.heap H locs → lv_has ls 6 [(0, .ref xD), (1, .int x1), (2, .int x2), (3, .int x3)] → W p l e rm_X5_loadFirsts s m args below meth c H locs 0 0 (MQ below (q_X5_loadFirsts dC dI cI cC cZ cB cJ A xD wY wJ uE qU uJ uL uI wQ xH tX jE mX pD oO oQ eG uS sW uR qY sY oX rJ pN rP rX bZ bD bI aI wD gF pE nJ nY jC eO eW dO fJ fY jD nG pG qB sH uP pQ mW oF post) args s 0 0 A) (F0 m 7 ls [])) (hK50 : ∀ (x1 : Int32) (x2 : Int32) (x3 : Int32) (x4 : Int32) (x5 : Int32) (vV : Nat → Int32) (qO : Nat → Int32) (qQ : Nat → Int32) (H : Heap) (locs : List Loc) (ls : Array Slot), K50 x1 x2 x3 x4 x5 vV qO qQ → va_P (dC, dI) classes (wd_X5_loadFirsts cI cC cZ cB cJ xD wY wJ uE qU uJ uL uI wQ xH tX jE mX pD oO oQ eG uS sW uR qY sY oX rJ pN rP rX vV bZ bD bI aI wD gF pE nJ nY jC eO eW dO fJ fY jD nG pG qB sH uP pQ mW qO qQ oF) H → va_D A (wd_X5_loadFirsts cI cC cZ cB cJ xD wY wJ uE qU uJ uL uI wQ xH tX jE mX pD oO oQ eG uS sW uR qY sY oX rJ pN rP rX vV bZ bD bI aI wD gF pE nJ nY jC eO eW dO fJ fY jD nG pG qB sH uP pQ mW qO qQ oF) → va_S A s.heap H locs → lv_has ls 6 [(0, .ref xD), (1, .int x1), (2, .int x2), (3, .int x3), (4, .int x4), (5, .int x5)] → W p l e rm_X5_loadFirsts s m args below meth c H locs 0 0 (MQ below (q_X5_loadFirsts dC dI cI cC cZ cB cJ A xD wY wJ uE qU uJ uL uI wQ xH tX jE mX pD oO oQ eG uS sW uR qY sY oX rJ pN rP rX bZ bD bI aI wD gF pE nJ nY jC eO eW dO fJ fY jD nG pG qB sH uP pQ mW oF post) args s 0 0 A) (F0 m 50 ls [])) : ∀ (x1 x2 x3 x4 x5 : Int32) (vV qO qQ : Nat → Int32) (H : Heap) (locs : List Loc) (ls : Array Slot), (ws_X5_loadFirsts_93 post K7 K50 oX rX bZ bD wD gF pE nJ nY dO pG oF) x1 x2 x3 x4 x5 vV qO qQ → va_P (dC, dI) classes (wd_X5_loadFirsts cI cC cZ cB cJ xD wY wJ uE qU uJ uL uI wQ xH tX jE mX pD oO oQ eG uS sW uR qY sY oX rJ pN rP rX vV bZ bD bI aI wD gF pE nJ nY jC eO eW dO fJ fY jD nG pG qB sH uP pQ mW qO qQ oF) H → va_D A (wd_X5_loadFirsts cI cC cZ cB cJ xD wY wJ uE qU uJ uL uI wQ xH tX jE mX pD oO oQ eG uS sW uR qY sY oX rJ pN rP rX vV bZ bD bI aI wD gF pE nJ nY jC eO eW dO fJ fY jD nG pG qB sH uP pQ mW qO qQ oF) → va_S A s.heap H locs → lv_has ls 6 [(0, .ref xD), (1, .int x1), (2, .int x2), (3, .int x3), (4, .int x4), (5, .int x5)] → W p l e rm_X5_loadFirsts s m args below meth c H locs 0 0 (MQ below (q_X5_loadFirsts dC dI cI cC cZ cB cJ A xD wY wJ uE qU uJ uL uI wQ xH tX jE mX pD oO oQ eG uS sW uR qY sY oX rJ pN rP rX bZ bD bI aI wD gF pE nJ nY jC eO eW dO fJ fY jD nG pG qB sH uP pQ mW oF post) args s 0 0 A) (F0 m 93 ls []) := by
  obtain ⟨hx, hb, hr, hml, hown, hts, hlocks, hA, hK, hN, tL, tM, hZL, hTL, hZM, hTM, hZX⟩ := id C0
  intro x1 x2 x3 x4 x5 vV qO qQ H locs ls hp hP hD hS hl
  unfold ws_X5_loadFirsts_93 at hp
  obtain ⟨v_5, ev_5⟩ : ∃ y : Int32, y = x5 + 1 := ⟨_, rfl⟩
  refine lv_iinc (v := v_5) (lv' := [(5, .int v_5), (0, .ref xD), (1, .int x1), (2, .int x2), (3, .int x3), (4, .int x4)]) hx hb eX5_loadFirsts_79.2.2.2.2.2.2.2.2.2.1 hl (k := 5) rfl (by rw [ev_5]; rfl) (by decide) rfl (fun ls hl => ?_)
  have hp := hp v_5 ev_5
  refine lv_goto (tgt := 50) hx hb eX5_loadFirsts_79.2.2.2.2.2.2.2.2.2.2.1 (by decide) ?_
  exact hK50 x1 x2 x3 x4 v_5 vV qO qQ H locs ls hp hP hD hS (lv_sub hl [1, 2, 3, 4, 5, 0] rfl)
noncomputable def ws_X5_loadFirsts_50 (post : (Nat → Int32) → (Nat → Int32) → (Nat → Int32) → Prop) (K7 : Int32 → Int32 → Int32 → (Nat → Int32) → (Nat → Int32) → (Nat → Int32) → Prop) (next : Int32 → Int32 → Int32 → Int32 → Int32 → (Nat → Int32) → (Nat → Int32) → (Nat → Int32) → Prop) (oX : Int32) (rX : Nat → Int32) (bZ bD : Int32) (wD gF pE nJ nY : Nat → Int32) (dO pG : Int32) (oF : Nat → Int32) (x1 x2 x3 x4 x5 : Int32) (vV qO qQ : Nat → Int32) : Prop := (bZ ≤ x5 → ∀ v_2 : Int32, v_2 = x2 &&& (x4 ^^^ (-1)) → ∀ v_3 : Int32, v_3 = x3 + 1 → K7 x1 v_2 v_3 vV qO qQ) ∧ (¬ bZ ≤ x5 → ∀ v_4 : Int32, v_4 = x4 >>> (x5 &&& 31) → ((v_4 &&& 1) = 0 → ws_X5_loadFirsts_93 post K7 next oX rX bZ bD wD gF pE nJ nY dO pG oF x1 x2 x3 x4 x5 vV qO qQ) ∧ (¬ (v_4 &&& 1) = 0 → vp_in x3 8 ∧ (∀ v_6 : Int32, v_6 = vV x3.toNatClampNeg → wp_X0_pickSeconds (fun r_7 aCs aBI => ∀ v_10 : Int32, v_10 = v_6 + r_7 → vp_in x3 8 ∧ (ws_X5_loadFirsts_93 post K7 next oX rX bZ bD wD gF pE nJ nY dO pG oF x1 x2 x3 x4 x5 (upd vV x3.toNatClampNeg v_10) aCs aBI)) x5 x3 0 0 bZ wD gF pE nJ nY dO pG qO qQ oF)))
noncomputable def wb_X5_loadFirsts_50 (post : (Nat → Int32) → (Nat → Int32) → (Nat → Int32) → Prop) (K7 : Int32 → Int32 → Int32 → (Nat → Int32) → (Nat → Int32) → (Nat → Int32) → Prop) (oX : Int32) (rX : Nat → Int32) (bZ bD : Int32) (wD gF pE nJ nY : Nat → Int32) (dO pG : Int32) (oF : Nat → Int32) : Nat → Int32 → Int32 → Int32 → Int32 → Int32 → (Nat → Int32) → (Nat → Int32) → (Nat → Int32) → Prop := fun n => Nat.rec (motive := fun _ => Int32 → Int32 → Int32 → Int32 → Int32 → (Nat → Int32) → (Nat → Int32) → (Nat → Int32) → Prop) (fun _ _ _ _ _ _ _ _ => False) (fun _ ih => ws_X5_loadFirsts_50 post K7 ih oX rX bZ bD wD gF pE nJ nY dO pG oF) n
set_option maxHeartbeats 4000000 in
set_option maxRecDepth 100000 in
theorem ks_X5_loadFirsts_50 (C0 : gc cX5_loadFirsts none 6 RX5 (dC, dI) (tyl cI cC cZ cB cJ) A p s m args meth c) {K7 : Int32 → Int32 → Int32 → (Nat → Int32) → (Nat → Int32) → (Nat → Int32) → Prop} {next : Int32 → Int32 → Int32 → Int32 → Int32 → (Nat → Int32) → (Nat → Int32) → (Nat → Int32) → Prop} (hK7 : ∀ (x1 : Int32) (x2 : Int32) (x3 : Int32) (vV : Nat → Int32) (qO : Nat → Int32) (qQ : Nat → Int32) (H : Heap) (locs : List Loc) (ls : Array Slot), K7 x1 x2 x3 vV qO qQ → va_P (dC, dI) classes (wd_X5_loadFirsts cI cC cZ cB cJ xD wY wJ uE qU uJ uL uI wQ xH tX jE mX pD oO oQ eG uS sW uR qY sY oX rJ pN rP rX vV bZ bD bI aI wD gF pE nJ nY jC eO eW dO fJ fY jD nG pG qB sH uP pQ mW qO qQ oF) H → va_D A (wd_X5_loadFirsts cI cC cZ cB cJ xD wY wJ uE qU uJ uL uI wQ xH tX jE mX pD oO oQ eG uS sW uR qY sY oX rJ pN rP rX vV bZ bD bI aI wD gF pE nJ nY jC eO eW dO fJ fY jD nG pG qB sH uP pQ mW qO qQ oF) → va_S A s.heap H locs → lv_has ls 6 [(0, .ref xD), (1, .int x1), (2, .int x2), (3, .int x3)] → W p l e rm_X5_loadFirsts s m args below meth c H locs 0 0 (MQ below (q_X5_loadFirsts dC dI cI cC cZ cB cJ A xD wY wJ uE qU uJ uL uI wQ xH tX jE mX pD oO oQ eG uS sW uR qY sY oX rJ pN rP rX bZ bD bI aI wD gF pE nJ nY jC eO eW dO fJ fY jD nG pG qB sH uP pQ mW oF post) args s 0 0 A) (F0 m 7 ls [])) (hKn : ∀ (x1 : Int32) (x2 : Int32) (x3 : Int32) (x4 : Int32) (x5 : Int32) (vV : Nat → Int32) (qO : Nat → Int32) (qQ : Nat → Int32) (H : Heap) (locs : List Loc) (ls : Array Slot), next x1 x2 x3 x4 x5 vV qO qQ → va_P (dC, dI) classes (wd_X5_loadFirsts cI cC cZ cB cJ xD wY wJ uE qU uJ uL uI wQ xH tX jE mX pD oO oQ eG uS sW uR qY sY oX rJ pN rP rX vV bZ bD bI aI wD gF pE nJ nY jC eO eW dO fJ fY jD nG pG qB sH uP pQ mW qO qQ oF) H → va_D A (wd_X5_loadFirsts cI cC cZ cB cJ xD wY wJ uE qU uJ uL uI wQ xH tX jE mX pD oO oQ eG uS sW uR qY sY oX rJ pN rP rX vV bZ bD bI aI wD gF pE nJ nY jC eO eW dO fJ fY jD nG pG qB sH uP pQ mW qO qQ oF) → va_S A s.heap H locs → lv_has ls 6 [(0, .ref xD), (1, .int x1), (2, .int x2), (3, .int x3), (4, .int x4), (5, .int x5)] → W p l e rm_X5_loadFirsts s m args below meth c H locs 0 0 (MQ below (q_X5_loadFirsts dC dI cI cC cZ cB cJ A xD wY wJ uE qU uJ uL uI wQ xH tX jE mX pD oO oQ eG uS sW uR qY sY oX rJ pN rP rX bZ bD bI aI wD gF pE nJ nY jC eO eW dO fJ fY jD nG pG qB sH uP pQ mW oF post) args s 0 0 A) (F0 m 50 ls [])) : ∀ (x1 x2 x3 x4 x5 : Int32) (vV qO qQ : Nat → Int32) (H : Heap) (locs : List Loc) (ls : Array Slot), (ws_X5_loadFirsts_50 post K7 next oX rX bZ bD wD gF pE nJ nY dO pG oF) x1 x2 x3 x4 x5 vV qO qQ → va_P (dC, dI) classes (wd_X5_loadFirsts cI cC cZ cB cJ xD wY wJ uE qU uJ uL uI wQ xH tX jE mX pD oO oQ eG uS sW uR qY sY oX rJ pN rP rX vV bZ bD bI aI wD gF pE nJ nY jC eO eW dO fJ fY jD nG pG qB sH uP pQ mW qO qQ oF) H → va_D A (wd_X5_loadFirsts cI cC cZ cB cJ xD wY wJ uE qU uJ uL uI wQ xH tX jE mX pD oO oQ eG uS sW uR qY sY oX rJ pN rP rX vV bZ bD bI aI wD gF pE nJ nY jC eO eW dO fJ fY jD nG pG qB sH uP pQ mW qO qQ oF) → va_S A s.heap H locs → lv_has ls 6 [(0, .ref xD), (1, .int x1), (2, .int x2), (3, .int x3), (4, .int x4), (5, .int x5)] → W p l e rm_X5_loadFirsts s m args below meth c H locs 0 0 (MQ below (q_X5_loadFirsts dC dI cI cC cZ cB cJ A xD wY wJ uE qU uJ uL uI wQ xH tX jE mX pD oO oQ eG uS sW uR qY sY oX rJ pN rP rX bZ bD bI aI wD gF pE nJ nY jC eO eW dO fJ fY jD nG pG qB sH uP pQ mW oF post) args s 0 0 A) (F0 m 50 ls []) := by
  obtain ⟨hx, hb, hr, hml, hown, hts, hlocks, hA, hK, hN, tL, tM, hZL, hTL, hZM, hTM, hZX⟩ := id C0
  intro x1 x2 x3 x4 x5 vV qO qQ H locs ls hp hP hD hS hl
  unfold ws_X5_loadFirsts_50 at hp
  refine lv_iload hx hb eX5_loadFirsts_50.1 (lv_at hl 5 rfl) ?_
  refine lv_aload_n hx hb eX5_loadFirsts_50.2.1 rfl (lv_at hl 0 rfl) ?_
  refine va_get (D := (dC, dI)) (ci := 5) (v := .ref wJ) (C := RX5) (T := TX5) (N := 11) hx hb hts i_X5 hown hK hP 0 rfl rfl 1 (Nat.le_of_ble_eq_true rfl) (hts _ q_419) (fun _ h9 => h9) rfl eX5_loadFirsts_50.2.2.1 ?_
  refine va_get (D := (dC, dI)) (ci := 3) (v := .int bZ) (C := RX3) (T := TX3) (N := 11) hx hb hts i_X3 hown hK hP 4 rfl rfl 7 (Nat.le_of_ble_eq_true rfl) (hts _ q_504) (fun _ h9 => h9) rfl eX5_loadFirsts_50.2.2.2.1 ?_
  refine lv_icmp_ge (tgt := 99) hx hb eX5_loadFirsts_50.2.2.2.2.1 (by decide) (fun hc => ?_) (fun hc => ?_)
  · have hp := hp.1 hc
    refine lv_iload_n hx hb eX5_loadFirsts_79.2.2.2.2.2.2.2.2.2.2.2.1 rfl (lv_at hl 2 rfl) ?_
    refine lv_iload hx hb eX5_loadFirsts_79.2.2.2.2.2.2.2.2.2.2.2.2.1 (lv_at hl 4 rfl) ?_
    refine lv_iconst (v := (-1)) hx hb eX5_loadFirsts_79.2.2.2.2.2.2.2.2.2.2.2.2.2.1 ic_m1 ?_
    refine lv_ixor hx hb eX5_loadFirsts_79.2.2.2.2.2.2.2.2.2.2.2.2.2.2.1 ?_
    refine lv_iand hx hb eX5_loadFirsts_79.2.2.2.2.2.2.2.2.2.2.2.2.2.2.2 ?_
    refine lv_topi (fun v_2 ev_2 => ?_)
    have hp := hp v_2 ev_2
    refine lv_istore_n (lv' := [(2, .int v_2), (0, .ref xD), (1, .int x1), (3, .int x3), (4, .int x4), (5, .int x5)]) hx hb eX5_loadFirsts_105.1 rfl hl (by decide) rfl (fun ls hl => ?_)
    obtain ⟨v_3, ev_3⟩ : ∃ y : Int32, y = x3 + 1 := ⟨_, rfl⟩
    refine lv_iinc (v := v_3) (lv' := [(3, .int v_3), (2, .int v_2), (0, .ref xD), (1, .int x1), (4, .int x4), (5, .int x5)]) hx hb eX5_loadFirsts_105.2.1 hl (k := 3) rfl (by rw [ev_3]; rfl) (by decide) rfl (fun ls hl => ?_)
    have hp := hp v_3 ev_3
    refine lv_goto (tgt := 7) hx hb eX5_loadFirsts_105.2.2.1 (by decide) ?_
    exact hK7 x1 v_2 v_3 vV qO qQ H locs ls hp hP hD hS (lv_sub hl [2, 3, 1, 0] rfl)
  · have hp := hp.2 hc
    refine lv_iload hx hb eX5_loadFirsts_50.2.2.2.2.2.1 (lv_at hl 4 rfl) ?_
    refine lv_iload hx hb eX5_loadFirsts_50.2.2.2.2.2.2.1 (lv_at hl 5 rfl) ?_
    refine lv_ishr hx hb eX5_loadFirsts_50.2.2.2.2.2.2.2.1 ?_
    refine lv_topi (fun v_4 ev_4 => ?_)
    have hp := hp v_4 ev_4
    refine lv_iconst (v := 1) hx hb eX5_loadFirsts_50.2.2.2.2.2.2.2.2.1 ic_1 ?_
    refine lv_iand hx hb eX5_loadFirsts_50.2.2.2.2.2.2.2.2.2.1 ?_
    refine lv_if_eq (tgt := 93) hx hb eX5_loadFirsts_50.2.2.2.2.2.2.2.2.2.2.1 (by decide) (fun hc => ?_) (fun hc => ?_)
    · have hp := hp.1 hc
      exact ks_X5_loadFirsts_93 C0 hK7 hKn x1 x2 x3 x4 x5 vV qO qQ H locs ls hp hP hD hS (lv_sub hl [0, 1, 2, 3, 4, 5] rfl)
    · have hp := hp.2 hc
      refine lv_aload_n hx hb eX5_loadFirsts_50.2.2.2.2.2.2.2.2.2.2.2.1 rfl (lv_at hl 0 rfl) ?_
      refine va_get (D := (dC, dI)) (ci := 5) (v := .ref uL) (C := RX5) (T := TX5) (N := 11) hx hb hts i_X5 hown hK hP 0 rfl rfl 5 (Nat.le_of_ble_eq_true rfl) (hts _ q_574) (fun _ h9 => h9) rfl eX5_loadFirsts_50.2.2.2.2.2.2.2.2.2.2.2.2.1 ?_
      refine lv_iload_n hx hb eX5_loadFirsts_50.2.2.2.2.2.2.2.2.2.2.2.2.2.1 rfl (lv_at hl 3 rfl) ?_
      refine lv_dup2_11 hx hb eX5_loadFirsts_50.2.2.2.2.2.2.2.2.2.2.2.2.2.2.1 rfl rfl ?_
      have hin := hp.1
      have hp := hp.2
      refine va_iald hx hb hK hP 2 0 rfl rfl hin eX5_loadFirsts_50.2.2.2.2.2.2.2.2.2.2.2.2.2.2.2 ?_
      refine lv_topi (fun v_6 ev_6 => ?_)
      have hp := hp v_6 ev_6
      refine lv_aload_n hx hb eX5_loadFirsts_79.1 rfl (lv_at hl 0 rfl) ?_
      refine va_get (D := (dC, dI)) (ci := 5) (v := .ref wY) (C := RX5) (T := TX5) (N := 11) hx hb hts i_X5 hown hK hP 0 rfl rfl 0 (Nat.le_of_ble_eq_true rfl) (hts _ q_423) (fun _ h9 => h9) rfl eX5_loadFirsts_79.2.1 ?_
      refine lv_iload hx hb eX5_loadFirsts_79.2.2.1 (lv_at hl 5 rfl) ?_
      refine lv_iload_n hx hb eX5_loadFirsts_79.2.2.2.1 rfl (lv_at hl 3 rfl) ?_
      refine lv_iconst (v := 0) hx hb eX5_loadFirsts_79.2.2.2.2.1 ic_0 ?_
      refine lv_iconst (v := 0) hx hb eX5_loadFirsts_79.2.2.2.2.2.1 ic_0 ?_
      have hm := mgk (wc := (wd_X0_pickSeconds cI cC cZ cB cJ wY wJ wQ xH tX jE mX pD oO oQ eG uS sW uR qY sY bZ bD bI aI wD gF pE nJ nY jC eO eW dO fJ fY jD nG pG qB sH uP pQ mW qO qQ oF)) hP mk_136 15 rfl rfl rfl
      refine g_calli hP hD hS hA (mixT mk_136) (mixF mk_136) hm.1 hm.2 (nd_F _) (dis_g _) (g_runV (As := [.int x5, .int x3, .int 0, .int 0]) (rest := [.int v_6, .int x3, .ref uL]) C0 hP hD hS (mixT mk_136) hm.1 (nd_T _) 3 0 rfl rfl (c_X0_pickSeconds l dC dI cI cC cZ cB cJ wY wJ wQ xH tX jE mX pD oO oQ eG uS sW uR qY sY H.size x5 x3 0 0 bZ bD bI aI wD gF pE nJ nY jC eO eW dO fJ fY jD nG pG qB sH uP pQ mW qO qQ oF _ hp) q_325 q_507 q_326 q_327 q_187 h_X0_pickSeconds rfl rfl ⟨Nat.le_of_ble_eq_true rfl, Nat.le_of_ble_eq_true rfl⟩ rfl rfl hl.1 rfl (lv_room (Nat.le_of_ble_eq_true rfl)) eX5_loadFirsts_79.2.2.2.2.2.2.1 ⟨Nat.zero_le _, Nat.zero_le _⟩) (fun r_7 u H locs hp hP hD hS => ?_)
      obtain ⟨aCs, aBI⟩ := u
      have hPD := PDm (ws' := (wd_X5_loadFirsts cI cC cZ cB cJ xD wY wJ uE qU uJ uL uI wQ xH tX jE mX pD oO oQ eG uS sW uR qY sY oX rJ pN rP rX vV bZ bD bI aI wD gF pE nJ nY jC eO eW dO fJ fY jD nG pG qB sH uP pQ mW aCs aBI oF)) hP hD 15 rfl rfl rfl
      have hP := hPD.1
      have hD := hPD.2
      refine lv_iadd hx hb eX5_loadFirsts_79.2.2.2.2.2.2.2.1 ?_
      refine lv_topi (fun v_10 ev_10 => ?_)
      have hp := hp v_10 ev_10
      have hin := hp.1
      have hp := hp.2
      refine va_iast hx hb hK hP hD hS 2 0 rfl rfl hin eX5_loadFirsts_79.2.2.2.2.2.2.2.2.1 (fun H locs hP hD hS => ?_)
      have hP : va_P (dC, dI) classes (wd_X5_loadFirsts cI cC cZ cB cJ xD wY wJ uE qU uJ uL uI wQ xH tX jE mX pD oO oQ eG uS sW uR qY sY oX rJ pN rP rX (upd vV x3.toNatClampNeg v_10) bZ bD bI aI wD gF pE nJ nY jC eO eW dO fJ fY jD nG pG qB sH uP pQ mW aCs aBI oF) H := hP
      have hD : va_D A (wd_X5_loadFirsts cI cC cZ cB cJ xD wY wJ uE qU uJ uL uI wQ xH tX jE mX pD oO oQ eG uS sW uR qY sY oX rJ pN rP rX (upd vV x3.toNatClampNeg v_10) bZ bD bI aI wD gF pE nJ nY jC eO eW dO fJ fY jD nG pG qB sH uP pQ mW aCs aBI oF) := hD
      exact ks_X5_loadFirsts_93 C0 hK7 hKn x1 x2 x3 x4 x5 (upd vV x3.toNatClampNeg v_10) aCs aBI H locs ls hp hP hD hS (lv_sub hl [0, 1, 2, 3, 4, 5] rfl)
set_option maxHeartbeats 4000000 in
set_option maxRecDepth 100000 in
theorem kb_X5_loadFirsts_50 (C0 : gc cX5_loadFirsts none 6 RX5 (dC, dI) (tyl cI cC cZ cB cJ) A p s m args meth c) {K7 : Int32 → Int32 → Int32 → (Nat → Int32) → (Nat → Int32) → (Nat → Int32) → Prop} (hK7 : ∀ (x1 : Int32) (x2 : Int32) (x3 : Int32) (vV : Nat → Int32) (qO : Nat → Int32) (qQ : Nat → Int32) (H : Heap) (locs : List Loc) (ls : Array Slot), K7 x1 x2 x3 vV qO qQ → va_P (dC, dI) classes (wd_X5_loadFirsts cI cC cZ cB cJ xD wY wJ uE qU uJ uL uI wQ xH tX jE mX pD oO oQ eG uS sW uR qY sY oX rJ pN rP rX vV bZ bD bI aI wD gF pE nJ nY jC eO eW dO fJ fY jD nG pG qB sH uP pQ mW qO qQ oF) H → va_D A (wd_X5_loadFirsts cI cC cZ cB cJ xD wY wJ uE qU uJ uL uI wQ xH tX jE mX pD oO oQ eG uS sW uR qY sY oX rJ pN rP rX vV bZ bD bI aI wD gF pE nJ nY jC eO eW dO fJ fY jD nG pG qB sH uP pQ mW qO qQ oF) → va_S A s.heap H locs → lv_has ls 6 [(0, .ref xD), (1, .int x1), (2, .int x2), (3, .int x3)] → W p l e rm_X5_loadFirsts s m args below meth c H locs 0 0 (MQ below (q_X5_loadFirsts dC dI cI cC cZ cB cJ A xD wY wJ uE qU uJ uL uI wQ xH tX jE mX pD oO oQ eG uS sW uR qY sY oX rJ pN rP rX bZ bD bI aI wD gF pE nJ nY jC eO eW dO fJ fY jD nG pG qB sH uP pQ mW oF post) args s 0 0 A) (F0 m 7 ls [])) : ∀ (n : Nat), ∀ (x1 x2 x3 x4 x5 : Int32) (vV qO qQ : Nat → Int32) (H : Heap) (locs : List Loc) (ls : Array Slot), (wb_X5_loadFirsts_50 post K7 oX rX bZ bD wD gF pE nJ nY dO pG oF n) x1 x2 x3 x4 x5 vV qO qQ → va_P (dC, dI) classes (wd_X5_loadFirsts cI cC cZ cB cJ xD wY wJ uE qU uJ uL uI wQ xH tX jE mX pD oO oQ eG uS sW uR qY sY oX rJ pN rP rX vV bZ bD bI aI wD gF pE nJ nY jC eO eW dO fJ fY jD nG pG qB sH uP pQ mW qO qQ oF) H → va_D A (wd_X5_loadFirsts cI cC cZ cB cJ xD wY wJ uE qU uJ uL uI wQ xH tX jE mX pD oO oQ eG uS sW uR qY sY oX rJ pN rP rX vV bZ bD bI aI wD gF pE nJ nY jC eO eW dO fJ fY jD nG pG qB sH uP pQ mW qO qQ oF) → va_S A s.heap H locs → lv_has ls 6 [(0, .ref xD), (1, .int x1), (2, .int x2), (3, .int x3), (4, .int x4), (5, .int x5)] → W p l e rm_X5_loadFirsts s m args below meth c H locs 0 0 (MQ below (q_X5_loadFirsts dC dI cI cC cZ cB cJ A xD wY wJ uE qU uJ uL uI wQ xH tX jE mX pD oO oQ eG uS sW uR qY sY oX rJ pN rP rX bZ bD bI aI wD gF pE nJ nY jC eO eW dO fJ fY jD nG pG qB sH uP pQ mW oF post) args s 0 0 A) (F0 m 50 ls []) := by
  intro n
  induction n with
  | zero =>
    intro x1 x2 x3 x4 x5 vV qO qQ H locs ls hp
    exact False.elim hp
  | succ n ih =>
    intro x1 x2 x3 x4 x5 vV qO qQ H locs ls hp
    exact ks_X5_loadFirsts_50 C0 hK7 ih x1 x2 x3 x4 x5 vV qO qQ H locs ls hp
noncomputable def ws_X5_loadFirsts_45 (post : (Nat → Int32) → (Nat → Int32) → (Nat → Int32) → Prop) (K7 : Int32 → Int32 → Int32 → (Nat → Int32) → (Nat → Int32) → (Nat → Int32) → Prop) (oX : Int32) (rX : Nat → Int32) (bZ bD : Int32) (wD gF pE nJ nY : Nat → Int32) (dO pG : Int32) (oF : Nat → Int32) (x1 x2 x3 k0 : Int32) (vV qO qQ : Nat → Int32) : Prop := ∃ n : Nat, wb_X5_loadFirsts_50 post K7 oX rX bZ bD wD gF pE nJ nY dO pG oF n x1 x2 x3 k0 0 vV qO qQ
set_option maxHeartbeats 4000000 in
set_option maxRecDepth 100000 in
theorem ks_X5_loadFirsts_45 (C0 : gc cX5_loadFirsts none 6 RX5 (dC, dI) (tyl cI cC cZ cB cJ) A p s m args meth c) {K7 : Int32 → Int32 → Int32 → (Nat → Int32) → (Nat → Int32) → (Nat → Int32) → Prop} (hK7 : ∀ (x1 : Int32) (x2 : Int32) (x3 : Int32) (vV : Nat → Int32) (qO : Nat → Int32) (qQ : Nat → Int32) (H : Heap) (locs : List Loc) (ls : Array Slot), K7 x1 x2 x3 vV qO qQ → va_P (dC, dI) classes (wd_X5_loadFirsts cI cC cZ cB cJ xD wY wJ uE qU uJ uL uI wQ xH tX jE mX pD oO oQ eG uS sW uR qY sY oX rJ pN rP rX vV bZ bD bI aI wD gF pE nJ nY jC eO eW dO fJ fY jD nG pG qB sH uP pQ mW qO qQ oF) H → va_D A (wd_X5_loadFirsts cI cC cZ cB cJ xD wY wJ uE qU uJ uL uI wQ xH tX jE mX pD oO oQ eG uS sW uR qY sY oX rJ pN rP rX vV bZ bD bI aI wD gF pE nJ nY jC eO eW dO fJ fY jD nG pG qB sH uP pQ mW qO qQ oF) → va_S A s.heap H locs → lv_has ls 6 [(0, .ref xD), (1, .int x1), (2, .int x2), (3, .int x3)] → W p l e rm_X5_loadFirsts s m args below meth c H locs 0 0 (MQ below (q_X5_loadFirsts dC dI cI cC cZ cB cJ A xD wY wJ uE qU uJ uL uI wQ xH tX jE mX pD oO oQ eG uS sW uR qY sY oX rJ pN rP rX bZ bD bI aI wD gF pE nJ nY jC eO eW dO fJ fY jD nG pG qB sH uP pQ mW oF post) args s 0 0 A) (F0 m 7 ls [])) : ∀ (x1 x2 x3 k0 : Int32) (vV qO qQ : Nat → Int32) (H : Heap) (locs : List Loc) (ls : Array Slot), (ws_X5_loadFirsts_45 post K7 oX rX bZ bD wD gF pE nJ nY dO pG oF) x1 x2 x3 k0 vV qO qQ → va_P (dC, dI) classes (wd_X5_loadFirsts cI cC cZ cB cJ xD wY wJ uE qU uJ uL uI wQ xH tX jE mX pD oO oQ eG uS sW uR qY sY oX rJ pN rP rX vV bZ bD bI aI wD gF pE nJ nY jC eO eW dO fJ fY jD nG pG qB sH uP pQ mW qO qQ oF) H → va_D A (wd_X5_loadFirsts cI cC cZ cB cJ xD wY wJ uE qU uJ uL uI wQ xH tX jE mX pD oO oQ eG uS sW uR qY sY oX rJ pN rP rX vV bZ bD bI aI wD gF pE nJ nY jC eO eW dO fJ fY jD nG pG qB sH uP pQ mW qO qQ oF) → va_S A s.heap H locs → lv_has ls 6 [(0, .ref xD), (1, .int x1), (2, .int x2), (3, .int x3)] → W p l e rm_X5_loadFirsts s m args below meth c H locs 0 0 (MQ below (q_X5_loadFirsts dC dI cI cC cZ cB cJ A xD wY wJ uE qU uJ uL uI wQ xH tX jE mX pD oO oQ eG uS sW uR qY sY oX rJ pN rP rX bZ bD bI aI wD gF pE nJ nY jC eO eW dO fJ fY jD nG pG qB sH uP pQ mW oF post) args s 0 0 A) (F0 m 45 ls [.int k0]) := by
  obtain ⟨hx, hb, hr, hml, hown, hts, hlocks, hA, hK, hN, tL, tM, hZL, hTL, hZM, hTM, hZX⟩ := id C0
  intro x1 x2 x3 k0 vV qO qQ H locs ls hp hP hD hS hl
  unfold ws_X5_loadFirsts_45 at hp
  refine lv_istore (lv' := [(4, .int k0), (0, .ref xD), (1, .int x1), (2, .int x2), (3, .int x3)]) hx hb eX5_loadFirsts_26.2.2.2.2.2.2.2.2.2.2.2.2.2.1 hl (by decide) rfl (fun ls hl => ?_)
  refine lv_iconst (v := 0) hx hb eX5_loadFirsts_26.2.2.2.2.2.2.2.2.2.2.2.2.2.2.1 ic_0 ?_
  refine lv_istore (lv' := [(5, .int 0), (4, .int k0), (0, .ref xD), (1, .int x1), (2, .int x2), (3, .int x3)]) hx hb eX5_loadFirsts_26.2.2.2.2.2.2.2.2.2.2.2.2.2.2.2 hl (by decide) rfl (fun ls hl => ?_)
  obtain ⟨n9, hp⟩ := hp
  exact kb_X5_loadFirsts_50 C0 hK7 n9 x1 x2 x3 k0 0 vV qO qQ H locs ls hp hP hD hS (lv_sub hl [2, 3, 4, 5, 1, 0] rfl)
noncomputable def ws_X5_loadFirsts_7 (post : (Nat → Int32) → (Nat → Int32) → (Nat → Int32) → Prop) (next : Int32 → Int32 → Int32 → (Nat → Int32) → (Nat → Int32) → (Nat → Int32) → Prop) (oX : Int32) (rX : Nat → Int32) (bZ bD : Int32) (wD gF pE nJ nY : Nat → Int32) (dO pG : Int32) (oF : Nat → Int32) (x1 x2 x3 : Int32) (vV qO qQ : Nat → Int32) : Prop := (bD ≤ x3 → post vV qO qQ) ∧ (¬ bD ≤ x3 → vp_in x3 8 ∧ (∀ v_1 : Int32, v_1 = x1 >>> (x3 &&& 31) → ((v_1 &&& 1) = 0 → ws_X5_loadFirsts_45 post next oX rX bZ bD wD gF pE nJ nY dO pG oF x1 x2 x3 0 (upd vV x3.toNatClampNeg 0) qO qQ) ∧ (¬ (v_1 &&& 1) = 0 → vp_in x3 8 ∧ (∀ v_11 : Int32, v_11 = x2 &&& (rX x3.toNatClampNeg) → ws_X5_loadFirsts_45 post next oX rX bZ bD wD gF pE nJ nY dO pG oF x1 x2 x3 v_11 (upd vV x3.toNatClampNeg 0) qO qQ))))
noncomputable def wb_X5_loadFirsts_7 (post : (Nat → Int32) → (Nat → Int32) → (Nat → Int32) → Prop) (oX : Int32) (rX : Nat → Int32) (bZ bD : Int32) (wD gF pE nJ nY : Nat → Int32) (dO pG : Int32) (oF : Nat → Int32) : Nat → Int32 → Int32 → Int32 → (Nat → Int32) → (Nat → Int32) → (Nat → Int32) → Prop := fun n => Nat.rec (motive := fun _ => Int32 → Int32 → Int32 → (Nat → Int32) → (Nat → Int32) → (Nat → Int32) → Prop) (fun _ _ _ _ _ _ => False) (fun _ ih => ws_X5_loadFirsts_7 post ih oX rX bZ bD wD gF pE nJ nY dO pG oF) n
set_option maxHeartbeats 4000000 in
set_option maxRecDepth 100000 in
theorem ks_X5_loadFirsts_7 (C0 : gc cX5_loadFirsts none 6 RX5 (dC, dI) (tyl cI cC cZ cB cJ) A p s m args meth c) {next : Int32 → Int32 → Int32 → (Nat → Int32) → (Nat → Int32) → (Nat → Int32) → Prop} (hKn : ∀ (x1 : Int32) (x2 : Int32) (x3 : Int32) (vV : Nat → Int32) (qO : Nat → Int32) (qQ : Nat → Int32) (H : Heap) (locs : List Loc) (ls : Array Slot), next x1 x2 x3 vV qO qQ → va_P (dC, dI) classes (wd_X5_loadFirsts cI cC cZ cB cJ xD wY wJ uE qU uJ uL uI wQ xH tX jE mX pD oO oQ eG uS sW uR qY sY oX rJ pN rP rX vV bZ bD bI aI wD gF pE nJ nY jC eO eW dO fJ fY jD nG pG qB sH uP pQ mW qO qQ oF) H → va_D A (wd_X5_loadFirsts cI cC cZ cB cJ xD wY wJ uE qU uJ uL uI wQ xH tX jE mX pD oO oQ eG uS sW uR qY sY oX rJ pN rP rX vV bZ bD bI aI wD gF pE nJ nY jC eO eW dO fJ fY jD nG pG qB sH uP pQ mW qO qQ oF) → va_S A s.heap H locs → lv_has ls 6 [(0, .ref xD), (1, .int x1), (2, .int x2), (3, .int x3)] → W p l e rm_X5_loadFirsts s m args below meth c H locs 0 0 (MQ below (q_X5_loadFirsts dC dI cI cC cZ cB cJ A xD wY wJ uE qU uJ uL uI wQ xH tX jE mX pD oO oQ eG uS sW uR qY sY oX rJ pN rP rX bZ bD bI aI wD gF pE nJ nY jC eO eW dO fJ fY jD nG pG qB sH uP pQ mW oF post) args s 0 0 A) (F0 m 7 ls [])) : ∀ (x1 x2 x3 : Int32) (vV qO qQ : Nat → Int32) (H : Heap) (locs : List Loc) (ls : Array Slot), (ws_X5_loadFirsts_7 post next oX rX bZ bD wD gF pE nJ nY dO pG oF) x1 x2 x3 vV qO qQ → va_P (dC, dI) classes (wd_X5_loadFirsts cI cC cZ cB cJ xD wY wJ uE qU uJ uL uI wQ xH tX jE mX pD oO oQ eG uS sW uR qY sY oX rJ pN rP rX vV bZ bD bI aI wD gF pE nJ nY jC eO eW dO fJ fY jD nG pG qB sH uP pQ mW qO qQ oF) H → va_D A (wd_X5_loadFirsts cI cC cZ cB cJ xD wY wJ uE qU uJ uL uI wQ xH tX jE mX pD oO oQ eG uS sW uR qY sY oX rJ pN rP rX vV bZ bD bI aI wD gF pE nJ nY jC eO eW dO fJ fY jD nG pG qB sH uP pQ mW qO qQ oF) → va_S A s.heap H locs → lv_has ls 6 [(0, .ref xD), (1, .int x1), (2, .int x2), (3, .int x3)] → W p l e rm_X5_loadFirsts s m args below meth c H locs 0 0 (MQ below (q_X5_loadFirsts dC dI cI cC cZ cB cJ A xD wY wJ uE qU uJ uL uI wQ xH tX jE mX pD oO oQ eG uS sW uR qY sY oX rJ pN rP rX bZ bD bI aI wD gF pE nJ nY jC eO eW dO fJ fY jD nG pG qB sH uP pQ mW oF post) args s 0 0 A) (F0 m 7 ls []) := by
  obtain ⟨hx, hb, hr, hml, hown, hts, hlocks, hA, hK, hN, tL, tM, hZL, hTL, hZM, hTM, hZX⟩ := id C0
  intro x1 x2 x3 vV qO qQ H locs ls hp hP hD hS hl
  unfold ws_X5_loadFirsts_7 at hp
  refine lv_iload_n hx hb eX5_loadFirsts_0.2.2.2.2.2.1 rfl (lv_at hl 3 rfl) ?_
  refine lv_aload_n hx hb eX5_loadFirsts_0.2.2.2.2.2.2.1 rfl (lv_at hl 0 rfl) ?_
  refine va_get (D := (dC, dI)) (ci := 5) (v := .ref wJ) (C := RX5) (T := TX5) (N := 11) hx hb hts i_X5 hown hK hP 0 rfl rfl 1 (Nat.le_of_ble_eq_true rfl) (hts _ q_419) (fun _ h9 => h9) rfl eX5_loadFirsts_0.2.2.2.2.2.2.2.1 ?_
  refine va_get (D := (dC, dI)) (ci := 3) (v := .int bD) (C := RX3) (T := TX3) (N := 11) hx hb hts i_X3 hown hK hP 4 rfl rfl 8 (Nat.le_of_ble_eq_true rfl) (hts _ q_420) (fun _ h9 => h9) rfl eX5_loadFirsts_0.2.2.2.2.2.2.2.2.1 ?_
  refine lv_icmp_ge (tgt := 112) hx hb eX5_loadFirsts_0.2.2.2.2.2.2.2.2.2.1 (by decide) (fun hc => ?_) (fun hc => ?_)
  · have hp := hp.1 hc
    exact W.vret hx hb hr (fun t ht hW => ⟨⟨(vV, qO, qQ), rfl, hp, by rw [ht]; exact hP, va_K.moved hW.alike hK, hD⟩, hS.F ht⟩) hS.2.2 eX5_loadFirsts_105.2.2.2
  · have hp := hp.2 hc
    refine lv_aload_n hx hb eX5_loadFirsts_0.2.2.2.2.2.2.2.2.2.2.1 rfl (lv_at hl 0 rfl) ?_
    refine va_get (D := (dC, dI)) (ci := 5) (v := .ref uL) (C := RX5) (T := TX5) (N := 11) hx hb hts i_X5 hown hK hP 0 rfl rfl 5 (Nat.le_of_ble_eq_true rfl) (hts _ q_574) (fun _ h9 => h9) rfl eX5_loadFirsts_0.2.2.2.2.2.2.2.2.2.2.2.1 ?_
    refine lv_iload_n hx hb eX5_loadFirsts_0.2.2.2.2.2.2.2.2.2.2.2.2.1 rfl (lv_at hl 3 rfl) ?_
    refine lv_iconst (v := 0) hx hb eX5_loadFirsts_0.2.2.2.2.2.2.2.2.2.2.2.2.2.1 ic_0 ?_
    have hin := hp.1
    have hp := hp.2
    refine va_iast hx hb hK hP hD hS 2 0 rfl rfl hin eX5_loadFirsts_0.2.2.2.2.2.2.2.2.2.2.2.2.2.2.1 (fun H locs hP hD hS => ?_)
    have hP : va_P (dC, dI) classes (wd_X5_loadFirsts cI cC cZ cB cJ xD wY wJ uE qU uJ uL uI wQ xH tX jE mX pD oO oQ eG uS sW uR qY sY oX rJ pN rP rX (upd vV x3.toNatClampNeg 0) bZ bD bI aI wD gF pE nJ nY jC eO eW dO fJ fY jD nG pG qB sH uP pQ mW qO qQ oF) H := hP
    have hD : va_D A (wd_X5_loadFirsts cI cC cZ cB cJ xD wY wJ uE qU uJ uL uI wQ xH tX jE mX pD oO oQ eG uS sW uR qY sY oX rJ pN rP rX (upd vV x3.toNatClampNeg 0) bZ bD bI aI wD gF pE nJ nY jC eO eW dO fJ fY jD nG pG qB sH uP pQ mW qO qQ oF) := hD
    refine lv_iload_n hx hb eX5_loadFirsts_0.2.2.2.2.2.2.2.2.2.2.2.2.2.2.2 rfl (lv_at hl 1 rfl) ?_
    refine lv_iload_n hx hb eX5_loadFirsts_26.1 rfl (lv_at hl 3 rfl) ?_
    refine lv_ishr hx hb eX5_loadFirsts_26.2.1 ?_
    refine lv_topi (fun v_1 ev_1 => ?_)
    have hp := hp v_1 ev_1
    refine lv_iconst (v := 1) hx hb eX5_loadFirsts_26.2.2.1 ic_1 ?_
    refine lv_iand hx hb eX5_loadFirsts_26.2.2.2.1 ?_
    refine lv_if_eq (tgt := 44) hx hb eX5_loadFirsts_26.2.2.2.2.1 (by decide) (fun hc => ?_) (fun hc => ?_)
    · have hp := hp.1 hc
      refine lv_iconst (v := 0) hx hb eX5_loadFirsts_26.2.2.2.2.2.2.2.2.2.2.2.2.1 ic_0 ?_
      exact ks_X5_loadFirsts_45 C0 hKn x1 x2 x3 0 (upd vV x3.toNatClampNeg 0) qO qQ H locs ls hp hP hD hS (lv_sub hl [0, 1, 2, 3] rfl)
    · have hp := hp.2 hc
      refine lv_iload_n hx hb eX5_loadFirsts_26.2.2.2.2.2.1 rfl (lv_at hl 2 rfl) ?_
      refine lv_aload_n hx hb eX5_loadFirsts_26.2.2.2.2.2.2.1 rfl (lv_at hl 0 rfl) ?_
      refine va_get (D := (dC, dI)) (ci := 5) (v := .ref uE) (C := RX5) (T := TX5) (N := 11) hx hb hts i_X5 hown hK hP 0 rfl rfl 2 (Nat.le_of_ble_eq_true rfl) (hts _ q_421) (fun _ h9 => h9) rfl eX5_loadFirsts_26.2.2.2.2.2.2.2.1 ?_
      refine lv_iload_n hx hb eX5_loadFirsts_26.2.2.2.2.2.2.2.2.1 rfl (lv_at hl 3 rfl) ?_
      have hin := hp.1
      have hp := hp.2
      refine va_iald hx hb hK hP 1 0 rfl rfl hin eX5_loadFirsts_26.2.2.2.2.2.2.2.2.2.1 ?_
      refine lv_iand hx hb eX5_loadFirsts_26.2.2.2.2.2.2.2.2.2.2.1 ?_
      refine lv_topi (fun v_11 ev_11 => ?_)
      have hp := hp v_11 ev_11
      refine lv_goto (tgt := 45) hx hb eX5_loadFirsts_26.2.2.2.2.2.2.2.2.2.2.2.1 (by decide) ?_
      exact ks_X5_loadFirsts_45 C0 hKn x1 x2 x3 v_11 (upd vV x3.toNatClampNeg 0) qO qQ H locs ls hp hP hD hS (lv_sub hl [0, 1, 2, 3] rfl)
set_option maxHeartbeats 4000000 in
set_option maxRecDepth 100000 in
theorem kb_X5_loadFirsts_7 (C0 : gc cX5_loadFirsts none 6 RX5 (dC, dI) (tyl cI cC cZ cB cJ) A p s m args meth c) : ∀ (n : Nat), ∀ (x1 x2 x3 : Int32) (vV qO qQ : Nat → Int32) (H : Heap) (locs : List Loc) (ls : Array Slot), (wb_X5_loadFirsts_7 post oX rX bZ bD wD gF pE nJ nY dO pG oF n) x1 x2 x3 vV qO qQ → va_P (dC, dI) classes (wd_X5_loadFirsts cI cC cZ cB cJ xD wY wJ uE qU uJ uL uI wQ xH tX jE mX pD oO oQ eG uS sW uR qY sY oX rJ pN rP rX vV bZ bD bI aI wD gF pE nJ nY jC eO eW dO fJ fY jD nG pG qB sH uP pQ mW qO qQ oF) H → va_D A (wd_X5_loadFirsts cI cC cZ cB cJ xD wY wJ uE qU uJ uL uI wQ xH tX jE mX pD oO oQ eG uS sW uR qY sY oX rJ pN rP rX vV bZ bD bI aI wD gF pE nJ nY jC eO eW dO fJ fY jD nG pG qB sH uP pQ mW qO qQ oF) → va_S A s.heap H locs → lv_has ls 6 [(0, .ref xD), (1, .int x1), (2, .int x2), (3, .int x3)] → W p l e rm_X5_loadFirsts s m args below meth c H locs 0 0 (MQ below (q_X5_loadFirsts dC dI cI cC cZ cB cJ A xD wY wJ uE qU uJ uL uI wQ xH tX jE mX pD oO oQ eG uS sW uR qY sY oX rJ pN rP rX bZ bD bI aI wD gF pE nJ nY jC eO eW dO fJ fY jD nG pG qB sH uP pQ mW oF post) args s 0 0 A) (F0 m 7 ls []) := by
  intro n
  induction n with
  | zero =>
    intro x1 x2 x3 vV qO qQ H locs ls hp
    exact False.elim hp
  | succ n ih =>
    intro x1 x2 x3 vV qO qQ H locs ls hp
    exact ks_X5_loadFirsts_7 C0 ih x1 x2 x3 vV qO qQ H locs ls hp
end S_X5_loadFirsts
noncomputable def wp_X5_loadFirsts (post : (Nat → Int32) → (Nat → Int32) → (Nat → Int32) → Prop) (p0 oX : Int32) (rX vV : Nat → Int32) (bZ bD : Int32) (wD gF pE nJ nY : Nat → Int32) (dO pG : Int32) (qO qQ oF : Nat → Int32) : Prop := ∃ n : Nat, wb_X5_loadFirsts_7 post oX rX bZ bD wD gF pE nJ nY dO pG oF n p0 oX 0 vV qO qQ
set_option maxHeartbeats 4000000 in
set_option maxRecDepth 100000 in
theorem c_X5_loadFirsts (l : Launch) (dC : Nat → ClassId) (dI : Nat → Nat → Nat) (cI cC cZ cB cJ : ClassId) (xD wY wJ uE qU uJ uL uI wQ xH tX jE mX pD oO oQ eG uS sW uR qY sY sz : Nat) (p0 oX rJ pN rP : Int32) (rX vV : Nat → Int32) (bZ bD bI aI : Int32) (wD gF pE nJ nY : Nat → Int32) (jC eO eW dO fJ fY jD nG pG qB sH uP pQ mW : Int32) (qO qQ oF : Nat → Int32) (post : (Nat → Int32) → (Nat → Int32) → (Nat → Int32) → Prop) (hw : wp_X5_loadFirsts post p0 oX rX vV bZ bD wD gF pE nJ nY dO pG qO qQ oF) : Met l yX5_loadFirsts (gw yX5_loadFirsts cX5_loadFirsts 6 none) rm_X5_loadFirsts (va_Pc [.ref xD, .int p0] (gPre (dC, dI) (tyl cI cC cZ cB cJ) (wd_X5_loadFirsts cI cC cZ cB cJ xD wY wJ uE qU uJ uL uI wQ xH tX jE mX pD oO oQ eG uS sW uR qY sY oX rJ pN rP rX vV bZ bD bI aI wD gF pE nJ nY jC eO eW dO fJ fY jD nG pG qB sH uP pQ mW qO qQ oF) sz)) (q_X5_loadFirsts dC dI cI cC cZ cB cJ (va_A (wd_X5_loadFirsts cI cC cZ cB cJ xD wY wJ uE qU uJ uL uI wQ xH tX jE mX pD oO oQ eG uS sW uR qY sY oX rJ pN rP rX vV bZ bD bI aI wD gF pE nJ nY jC eO eW dO fJ fY jD nG pG qB sH uP pQ mW qO qQ oF) sz) xD wY wJ uE qU uJ uL uI wQ xH tX jE mX pD oO oQ eG uS sW uR qY sY oX rJ pN rP rX bZ bD bI aI wD gF pE nJ nY jC eO eW dO fJ fY jD nG pG qB sH uP pQ mW oF post) 0 0 (va_A (wd_X5_loadFirsts cI cC cZ cB cJ xD wY wJ uE qU uJ uL uI wQ xH tX jE mX pD oO oQ eG uS sW uR qY sY oX rJ pN rP rX vV bZ bD bI aI wD gF pE nJ nY jC eO eW dO fJ fY jD nG pG qB sH uP pQ mW qO qQ oF) sz) := by
  refine g_enter (own := RX5) (dC, dI) (tyl cI cC cZ cB cJ) (wd_X5_loadFirsts cI cC cZ cB cJ xD wY wJ uE qU uJ uL uI wQ xH tX jE mX pD oO oQ eG uS sW uR qY sY oX rJ pN rP rX vV bZ bD bI aI wD gF pE nJ nY jC eO eW dO fJ fY jD nG pG qB sH uP pQ mW qO qQ oF) sz [.ref xD, .int p0] (fun A => q_X5_loadFirsts dC dI cI cC cZ cB cJ A xD wY wJ uE qU uJ uL uI wQ xH tX jE mX pD oO oQ eG uS sW uR qY sY oX rJ pN rP rX bZ bD bI aI wD gF pE nJ nY jC eO eW dO fJ fY jD nG pG qB sH uP pQ mW oF post) pn_RX5 rfl (Nat.le_of_ble_eq_true rfl) ?_
  intro p e s m args below meth c A H locs ls C0 hP hD hS hl
  have hl : lv_has ls 6 [(0, .ref xD), (1, .int p0)] := hl
  obtain ⟨hx, hb, hr, hml, hown, hts, hlocks, hA, hK, hN, tL, tM, hZL, hTL, hZM, hTM, hZX⟩ := id C0
  have hp := hw
  unfold wp_X5_loadFirsts at hp
  refine lv_aload_n hx hb eX5_loadFirsts_0.1 rfl (lv_at hl 0 rfl) ?_
  refine va_get (D := (dC, dI)) (ci := 5) (v := .int oX) (C := RX5) (T := TX5) (N := 11) hx hb hts i_X5 hown hK hP 0 rfl rfl 7 (Nat.le_of_ble_eq_true rfl) (hts _ q_435) (fun _ h9 => h9) rfl eX5_loadFirsts_0.2.1 ?_
  refine lv_istore_n (lv' := [(2, .int oX), (0, .ref xD), (1, .int p0)]) hx hb eX5_loadFirsts_0.2.2.1 rfl hl (by decide) rfl (fun ls hl => ?_)
  refine lv_iconst (v := 0) hx hb eX5_loadFirsts_0.2.2.2.1 ic_0 ?_
  refine lv_istore_n (lv' := [(3, .int 0), (2, .int oX), (0, .ref xD), (1, .int p0)]) hx hb eX5_loadFirsts_0.2.2.2.2.1 rfl hl (by decide) rfl (fun ls hl => ?_)
  obtain ⟨n9, hp⟩ := hp
  exact kb_X5_loadFirsts_7 C0 n9 p0 oX 0 vV qO qQ H locs ls hp hP hD hS (lv_sub hl [2, 3, 1, 0] rfl)
noncomputable abbrev wd_X5_loadOf (cI cC cZ cB cJ : ClassId) (xD wY wJ uE qU uJ uL uI tX jE mX pD oO oQ eG : Nat) (oX rJ pN rP : Int32) (vV : Nat → Int32) (bZ bD bI aI : Int32) : va_W := [(xD, .inr (5, [.ref wY, .ref wJ, .ref uE, .ref qU, .ref uJ, .ref uL, .ref uI, .int oX, .int rJ, .int pN, .int rP])), (uL, .inl (cI, 8, .inl vV)), (wJ, .inr (3, [.ref tX, .ref jE, .ref mX, .ref pD, .ref oO, .ref oQ, .ref eG, .int bZ, .int bD, .int bI, .int aI]))]
noncomputable abbrev q_X5_loadOf (dC : Nat → ClassId) (dI : Nat → Nat → Nat) (cI cC cZ cB cJ : ClassId) (A : Nat → Prop) (xD wY wJ uE qU uJ uL uI tX jE mX pD oO oQ eG : Nat) (oX rJ pN rP : Int32) (vV : Nat → Int32) (bZ bD bI aI : Int32) (post : Int32 → Prop) : Array Value → State → Outcome → State → Prop := va_Qi (fun (r : Int32) (u : Unit) => post r) (fun u t => gB (dC, dI) (tyl cI cC cZ cB cJ) A (wd_X5_loadOf cI cC cZ cB cJ xD wY wJ uE qU uJ uL uI tX jE mX pD oO oQ eG oX rJ pN rP vV bZ bD bI aI) t) A
noncomputable abbrev rm_X5_loadOf : Room := { frames := 0, cells := 0, slots := 0, locals := 0 }
section S_X5_loadOf
variable {p : Program} {l : Launch} {e : Env} {s : State} {m : MethodId} {args : Array Value} {below : List Frame} {meth : Method} {c : Code} {dC : Nat → ClassId} {dI : Nat → Nat → Nat} {cI cC cZ cB cJ : ClassId} {A : Nat → Prop} {xD wY wJ uE qU uJ uL uI tX jE mX pD oO oQ eG : Nat} {oX rJ pN rP : Int32} {vV : Nat → Int32} {bZ bD bI aI : Int32} {post : Int32 → Prop}
noncomputable def ws_X5_loadOf_32 (post : Int32 → Prop) (K4 : Int32 → Int32 → Int32 → Prop) (vV : Nat → Int32) (bD x1 x2 x3 : Int32) : Prop := ∀ v_2 : Int32, v_2 = x3 + 1 → K4 x1 x2 v_2
set_option maxHeartbeats 4000000 in
set_option maxRecDepth 100000 in
theorem ks_X5_loadOf_32 (C0 : gc cX5_loadOf (some .int) 4 RX5 (dC, dI) (tyl cI cC cZ cB cJ) A p s m args meth c) {K4 : Int32 → Int32 → Int32 → Prop} (hK4 : ∀ (x1 : Int32) (x2 : Int32) (x3 : Int32) (H : Heap) (locs : List Loc) (ls : Array Slot), K4 x1 x2 x3 → va_P (dC, dI) classes (wd_X5_loadOf cI cC cZ cB cJ xD wY wJ uE qU uJ uL uI tX jE mX pD oO oQ eG oX rJ pN rP vV bZ bD bI aI) H → va_D A (wd_X5_loadOf cI cC cZ cB cJ xD wY wJ uE qU uJ uL uI tX jE mX pD oO oQ eG oX rJ pN rP vV bZ bD bI aI) → va_S A s.heap H locs → lv_has ls 4 [(0, .ref xD), (1, .int x1), (2, .int x2), (3, .int x3)] → W p l e rm_X5_loadOf s m args below meth c H locs 0 0 (MQ below (q_X5_loadOf dC dI cI cC cZ cB cJ A xD wY wJ uE qU uJ uL uI tX jE mX pD oO oQ eG oX rJ pN rP vV bZ bD bI aI post) args s 0 0 A) (F0 m 4 ls [])) : ∀ (x1 x2 x3 : Int32) (H : Heap) (locs : List Loc) (ls : Array Slot), (ws_X5_loadOf_32 post K4 vV bD) x1 x2 x3 → va_P (dC, dI) classes (wd_X5_loadOf cI cC cZ cB cJ xD wY wJ uE qU uJ uL uI tX jE mX pD oO oQ eG oX rJ pN rP vV bZ bD bI aI) H → va_D A (wd_X5_loadOf cI cC cZ cB cJ xD wY wJ uE qU uJ uL uI tX jE mX pD oO oQ eG oX rJ pN rP vV bZ bD bI aI) → va_S A s.heap H locs → lv_has ls 4 [(0, .ref xD), (1, .int x1), (2, .int x2), (3, .int x3)] → W p l e rm_X5_loadOf s m args below meth c H locs 0 0 (MQ below (q_X5_loadOf dC dI cI cC cZ cB cJ A xD wY wJ uE qU uJ uL uI tX jE mX pD oO oQ eG oX rJ pN rP vV bZ bD bI aI post) args s 0 0 A) (F0 m 32 ls []) := by
  obtain ⟨hx, hb, hr, hml, hown, hts, hlocks, hA, hK, hN, tL, tM, hZL, hTL, hZM, hTM, hZX⟩ := id C0
  intro x1 x2 x3 H locs ls hp hP hD hS hl
  unfold ws_X5_loadOf_32 at hp
  obtain ⟨v_2, ev_2⟩ : ∃ y : Int32, y = x3 + 1 := ⟨_, rfl⟩
  refine lv_iinc (v := v_2) (lv' := [(3, .int v_2), (0, .ref xD), (1, .int x1), (2, .int x2)]) hx hb eX5_loadOf_28.2.2.2.2.1 hl (k := 3) rfl (by rw [ev_2]; rfl) (by decide) rfl (fun ls hl => ?_)
  have hp := hp v_2 ev_2
  refine lv_goto (tgt := 4) hx hb eX5_loadOf_28.2.2.2.2.2.1 (by decide) ?_
  exact hK4 x1 x2 v_2 H locs ls hp hP hD hS (lv_sub hl [1, 2, 3, 0] rfl)
noncomputable def ws_X5_loadOf_4 (post : Int32 → Prop) (next : Int32 → Int32 → Int32 → Prop) (vV : Nat → Int32) (bD x1 x2 x3 : Int32) : Prop := (bD ≤ x3 → post x2) ∧ (¬ bD ≤ x3 → ∀ v_1 : Int32, v_1 = x1 >>> (x3 &&& 31) → ((v_1 &&& 1) = 0 → ws_X5_loadOf_32 post next vV bD x1 x2 x3) ∧ (¬ (v_1 &&& 1) = 0 → vp_in x3 8 ∧ (∀ v_3 : Int32, v_3 = x2 + (vV x3.toNatClampNeg) → ws_X5_loadOf_32 post next vV bD x1 v_3 x3)))
noncomputable def wb_X5_loadOf_4 (post : Int32 → Prop) (vV : Nat → Int32) (bD : Int32) : Nat → Int32 → Int32 → Int32 → Prop := fun n => Nat.rec (motive := fun _ => Int32 → Int32 → Int32 → Prop) (fun _ _ _ => False) (fun _ ih => ws_X5_loadOf_4 post ih vV bD) n
set_option maxHeartbeats 4000000 in
set_option maxRecDepth 100000 in
theorem ks_X5_loadOf_4 (C0 : gc cX5_loadOf (some .int) 4 RX5 (dC, dI) (tyl cI cC cZ cB cJ) A p s m args meth c) {next : Int32 → Int32 → Int32 → Prop} (hKn : ∀ (x1 : Int32) (x2 : Int32) (x3 : Int32) (H : Heap) (locs : List Loc) (ls : Array Slot), next x1 x2 x3 → va_P (dC, dI) classes (wd_X5_loadOf cI cC cZ cB cJ xD wY wJ uE qU uJ uL uI tX jE mX pD oO oQ eG oX rJ pN rP vV bZ bD bI aI) H → va_D A (wd_X5_loadOf cI cC cZ cB cJ xD wY wJ uE qU uJ uL uI tX jE mX pD oO oQ eG oX rJ pN rP vV bZ bD bI aI) → va_S A s.heap H locs → lv_has ls 4 [(0, .ref xD), (1, .int x1), (2, .int x2), (3, .int x3)] → W p l e rm_X5_loadOf s m args below meth c H locs 0 0 (MQ below (q_X5_loadOf dC dI cI cC cZ cB cJ A xD wY wJ uE qU uJ uL uI tX jE mX pD oO oQ eG oX rJ pN rP vV bZ bD bI aI post) args s 0 0 A) (F0 m 4 ls [])) : ∀ (x1 x2 x3 : Int32) (H : Heap) (locs : List Loc) (ls : Array Slot), (ws_X5_loadOf_4 post next vV bD) x1 x2 x3 → va_P (dC, dI) classes (wd_X5_loadOf cI cC cZ cB cJ xD wY wJ uE qU uJ uL uI tX jE mX pD oO oQ eG oX rJ pN rP vV bZ bD bI aI) H → va_D A (wd_X5_loadOf cI cC cZ cB cJ xD wY wJ uE qU uJ uL uI tX jE mX pD oO oQ eG oX rJ pN rP vV bZ bD bI aI) → va_S A s.heap H locs → lv_has ls 4 [(0, .ref xD), (1, .int x1), (2, .int x2), (3, .int x3)] → W p l e rm_X5_loadOf s m args below meth c H locs 0 0 (MQ below (q_X5_loadOf dC dI cI cC cZ cB cJ A xD wY wJ uE qU uJ uL uI tX jE mX pD oO oQ eG oX rJ pN rP vV bZ bD bI aI post) args s 0 0 A) (F0 m 4 ls []) := by
  obtain ⟨hx, hb, hr, hml, hown, hts, hlocks, hA, hK, hN, tL, tM, hZL, hTL, hZM, hTM, hZX⟩ := id C0
  intro x1 x2 x3 H locs ls hp hP hD hS hl
  unfold ws_X5_loadOf_4 at hp
  refine lv_iload_n hx hb eX5_loadOf_0.2.2.2.2.1 rfl (lv_at hl 3 rfl) ?_
  refine lv_aload_n hx hb eX5_loadOf_0.2.2.2.2.2.1 rfl (lv_at hl 0 rfl) ?_
  refine va_get (D := (dC, dI)) (ci := 5) (v := .ref wJ) (C := RX5) (T := TX5) (N := 11) hx hb hts i_X5 hown hK hP 0 rfl rfl 1 (Nat.le_of_ble_eq_true rfl) (hts _ q_419) (fun _ h9 => h9) rfl eX5_loadOf_0.2.2.2.2.2.2.1 ?_
  refine va_get (D := (dC, dI)) (ci := 3) (v := .int bD) (C := RX3) (T := TX3) (N := 11) hx hb hts i_X3 hown hK hP 2 rfl rfl 8 (Nat.le_of_ble_eq_true rfl) (hts _ q_420) (fun _ h9 => h9) rfl eX5_loadOf_0.2.2.2.2.2.2.2.1 ?_
  refine lv_icmp_ge (tgt := 38) hx hb eX5_loadOf_0.2.2.2.2.2.2.2.2.1 (by decide) (fun hc => ?_) (fun hc => ?_)
  · have hp := hp.1 hc
    refine lv_iload_n hx hb eX5_loadOf_28.2.2.2.2.2.2.1 rfl (lv_at hl 2 rfl) ?_
    exact W.iret (v := x2) hx hb hr (fun t ht hW => ⟨⟨x2, (), rfl, hp, by rw [ht]; exact hP, va_K.moved hW.alike hK, hD⟩, hS.F ht⟩) hS.2.2 eX5_loadOf_28.2.2.2.2.2.2.2
  · have hp := hp.2 hc
    refine lv_iload_n hx hb eX5_loadOf_0.2.2.2.2.2.2.2.2.2.1 rfl (lv_at hl 1 rfl) ?_
    refine lv_iload_n hx hb eX5_loadOf_0.2.2.2.2.2.2.2.2.2.2.1 rfl (lv_at hl 3 rfl) ?_
    refine lv_ishr hx hb eX5_loadOf_0.2.2.2.2.2.2.2.2.2.2.2.1 ?_
    refine lv_topi (fun v_1 ev_1 => ?_)
    have hp := hp v_1 ev_1
    refine lv_iconst (v := 1) hx hb eX5_loadOf_0.2.2.2.2.2.2.2.2.2.2.2.2.1 ic_1 ?_
    refine lv_iand hx hb eX5_loadOf_0.2.2.2.2.2.2.2.2.2.2.2.2.2.1 ?_
    refine lv_if_eq (tgt := 32) hx hb eX5_loadOf_0.2.2.2.2.2.2.2.2.2.2.2.2.2.2.1 (by decide) (fun hc => ?_) (fun hc => ?_)
    · have hp := hp.1 hc
      exact ks_X5_loadOf_32 C0 hKn x1 x2 x3 H locs ls hp hP hD hS (lv_sub hl [0, 1, 2, 3] rfl)
    · have hp := hp.2 hc
      refine lv_iload_n hx hb eX5_loadOf_0.2.2.2.2.2.2.2.2.2.2.2.2.2.2.2 rfl (lv_at hl 2 rfl) ?_
      refine lv_aload_n hx hb eX5_loadOf_24.1 rfl (lv_at hl 0 rfl) ?_
      refine va_get (D := (dC, dI)) (ci := 5) (v := .ref uL) (C := RX5) (T := TX5) (N := 11) hx hb hts i_X5 hown hK hP 0 rfl rfl 5 (Nat.le_of_ble_eq_true rfl) (hts _ q_574) (fun _ h9 => h9) rfl eX5_loadOf_24.2 ?_
      refine lv_iload_n hx hb eX5_loadOf_28.1 rfl (lv_at hl 3 rfl) ?_
      have hin := hp.1
      have hp := hp.2
      refine va_iald hx hb hK hP 1 0 rfl rfl hin eX5_loadOf_28.2.1 ?_
      refine lv_iadd hx hb eX5_loadOf_28.2.2.1 ?_
      refine lv_topi (fun v_3 ev_3 => ?_)
      have hp := hp v_3 ev_3
      refine lv_istore_n (lv' := [(2, .int v_3), (0, .ref xD), (1, .int x1), (3, .int x3)]) hx hb eX5_loadOf_28.2.2.2.1 rfl hl (by decide) rfl (fun ls hl => ?_)
      exact ks_X5_loadOf_32 C0 hKn x1 v_3 x3 H locs ls hp hP hD hS (lv_sub hl [1, 2, 0, 3] rfl)
set_option maxHeartbeats 4000000 in
set_option maxRecDepth 100000 in
theorem kb_X5_loadOf_4 (C0 : gc cX5_loadOf (some .int) 4 RX5 (dC, dI) (tyl cI cC cZ cB cJ) A p s m args meth c) : ∀ (n : Nat), ∀ (x1 x2 x3 : Int32) (H : Heap) (locs : List Loc) (ls : Array Slot), (wb_X5_loadOf_4 post vV bD n) x1 x2 x3 → va_P (dC, dI) classes (wd_X5_loadOf cI cC cZ cB cJ xD wY wJ uE qU uJ uL uI tX jE mX pD oO oQ eG oX rJ pN rP vV bZ bD bI aI) H → va_D A (wd_X5_loadOf cI cC cZ cB cJ xD wY wJ uE qU uJ uL uI tX jE mX pD oO oQ eG oX rJ pN rP vV bZ bD bI aI) → va_S A s.heap H locs → lv_has ls 4 [(0, .ref xD), (1, .int x1), (2, .int x2), (3, .int x3)] → W p l e rm_X5_loadOf s m args below meth c H locs 0 0 (MQ below (q_X5_loadOf dC dI cI cC cZ cB cJ A xD wY wJ uE qU uJ uL uI tX jE mX pD oO oQ eG oX rJ pN rP vV bZ bD bI aI post) args s 0 0 A) (F0 m 4 ls []) := by
  intro n
  induction n with
  | zero =>
    intro x1 x2 x3 H locs ls hp
    exact False.elim hp
  | succ n ih =>
    intro x1 x2 x3 H locs ls hp
    exact ks_X5_loadOf_4 C0 ih x1 x2 x3 H locs ls hp
end S_X5_loadOf
noncomputable def wp_X5_loadOf (post : Int32 → Prop) (p0 : Int32) (vV : Nat → Int32) (bD : Int32) : Prop := ∃ n : Nat, wb_X5_loadOf_4 post vV bD n p0 0 0
set_option maxHeartbeats 4000000 in
set_option maxRecDepth 100000 in
theorem c_X5_loadOf (l : Launch) (dC : Nat → ClassId) (dI : Nat → Nat → Nat) (cI cC cZ cB cJ : ClassId) (xD wY wJ uE qU uJ uL uI tX jE mX pD oO oQ eG sz : Nat) (p0 oX rJ pN rP : Int32) (vV : Nat → Int32) (bZ bD bI aI : Int32) (post : Int32 → Prop) (hw : wp_X5_loadOf post p0 vV bD) : Met l yX5_loadOf (gw yX5_loadOf cX5_loadOf 4 (some .int)) rm_X5_loadOf (va_Pc [.ref xD, .int p0] (gPre (dC, dI) (tyl cI cC cZ cB cJ) (wd_X5_loadOf cI cC cZ cB cJ xD wY wJ uE qU uJ uL uI tX jE mX pD oO oQ eG oX rJ pN rP vV bZ bD bI aI) sz)) (q_X5_loadOf dC dI cI cC cZ cB cJ (va_A (wd_X5_loadOf cI cC cZ cB cJ xD wY wJ uE qU uJ uL uI tX jE mX pD oO oQ eG oX rJ pN rP vV bZ bD bI aI) sz) xD wY wJ uE qU uJ uL uI tX jE mX pD oO oQ eG oX rJ pN rP vV bZ bD bI aI post) 0 0 (va_A (wd_X5_loadOf cI cC cZ cB cJ xD wY wJ uE qU uJ uL uI tX jE mX pD oO oQ eG oX rJ pN rP vV bZ bD bI aI) sz) := by
  refine g_enter (own := RX5) (dC, dI) (tyl cI cC cZ cB cJ) (wd_X5_loadOf cI cC cZ cB cJ xD wY wJ uE qU uJ uL uI tX jE mX pD oO oQ eG oX rJ pN rP vV bZ bD bI aI) sz [.ref xD, .int p0] (fun A => q_X5_loadOf dC dI cI cC cZ cB cJ A xD wY wJ uE qU uJ uL uI tX jE mX pD oO oQ eG oX rJ pN rP vV bZ bD bI aI post) pn_RX5 rfl (Nat.le_of_ble_eq_true rfl) ?_
  intro p e s m args below meth c A H locs ls C0 hP hD hS hl
  have hl : lv_has ls 4 [(0, .ref xD), (1, .int p0)] := hl
  obtain ⟨hx, hb, hr, hml, hown, hts, hlocks, hA, hK, hN, tL, tM, hZL, hTL, hZM, hTM, hZX⟩ := id C0
  have hp := hw
  unfold wp_X5_loadOf at hp
  refine lv_iconst (v := 0) hx hb eX5_loadOf_0.1 ic_0 ?_
  refine lv_istore_n (lv' := [(2, .int 0), (0, .ref xD), (1, .int p0)]) hx hb eX5_loadOf_0.2.1 rfl hl (by decide) rfl (fun ls hl => ?_)
  refine lv_iconst (v := 0) hx hb eX5_loadOf_0.2.2.1 ic_0 ?_
  refine lv_istore_n (lv' := [(3, .int 0), (2, .int 0), (0, .ref xD), (1, .int p0)]) hx hb eX5_loadOf_0.2.2.2.1 rfl hl (by decide) rfl (fun ls hl => ?_)
  obtain ⟨n9, hp⟩ := hp
  exact kb_X5_loadOf_4 C0 n9 p0 0 0 H locs ls hp hP hD hS (lv_sub hl [2, 3, 1, 0] rfl)
noncomputable abbrev wd_X9_share (cI cC cZ cB cJ : ClassId) (a_x xG xD wY wJ wQ xI xK xJ tW uE qU uJ uL uI xH tX jE mX pD oO oQ eG uS sW uR qY sY qT : Nat) (oX rJ pN rP : Int32) (rX vV : Nat → Int32) (bZ bD bI aI : Int32) (wD gF pE qA nJ nY dQ : Nat → Int32) (jC eO eW dO fJ fY jD nG pG qB sH uP pQ mW : Int32) (qO qQ oF : Nat → Int32) (qF : Int32) (jJ : Nat → Int32) : va_W := [(a_x, .inr (9, [.ref xG, .ref xD, .ref wY, .ref wJ, .ref wQ, .ref xI, .ref xK, .ref xJ, .ref tW])), (xD, .inr (5, [.ref wY, .ref wJ, .ref uE, .ref qU, .ref uJ, .ref uL, .ref uI, .int oX, .int rJ, .int pN, .int rP])), (uE, .inl (cI, 8, .inl rX)), (uL, .inl (cI, 8, .inl vV)), (wY, .inr (0, [.ref wJ, .ref wQ, .ref xH])), (wJ, .inr (3, [.ref tX, .ref jE, .ref mX, .ref pD, .ref oO, .ref oQ, .ref eG, .int bZ, .int bD, .int bI, .int aI])), (tX, .inl (cI, 16, .inl wD)), (jE, .inl (cI, 16, .inl gF)), (mX, .inl (cI, 16, .inl pE)), (pD, .inl (cI, 16, .inl qA)), (oO, .inl (cI, 8, .inl nJ)), (oQ, .inl (cI, 8, .inl nY)), (eG, .inl (cI, 5, .inl dQ)), (wQ, .inr (2, [.int jC, .int eO, .int eW, .int dO, .int fJ, .int fY, .int jD, .int nG])), (xH, .inr (7, [.ref uS, .ref sW, .ref uR, .ref qY, .ref sY, .int pG, .int qB, .int sH, .int uP, .int pQ, .int mW])), (uS, .inl (cI, 7, .inl qO)), (uR, .inl (cI, 40, .inl qQ)), (qY, .inl (cI, 40, .inl oF)), (xK, .inr (6, [.ref qT, .int qF])), (qT, .inl (cI, 16, .inl jJ))]
noncomputable abbrev q_X9_share (dC : Nat → ClassId) (dI : Nat → Nat → Nat) (cI cC cZ cB cJ : ClassId) (A : Nat → Prop) (a_x xG xD wY wJ wQ xI xK xJ tW uE qU uJ uL uI xH tX jE mX pD oO oQ eG uS sW uR qY sY qT : Nat) (rJ pN rP bZ bD bI aI : Int32) (wD gF pE qA nJ nY dQ : Nat → Int32) (jC eO eW dO fJ fY jD nG pG qB sH uP pQ mW : Int32) (oF : Nat → Int32) (post : Int32 → Int32 → (Nat → Int32) → (Nat → Int32) → (Nat → Int32) → (Nat → Int32) → Int32 → (Nat → Int32) → Prop) : Array Value → State → Outcome → State → Prop := va_Qi (fun (r : Int32) (u : Int32 × (Nat → Int32) × (Nat → Int32) × (Nat → Int32) × (Nat → Int32) × Int32 × (Nat → Int32)) => post r u.1 u.2.1 u.2.2.1 u.2.2.2.1 u.2.2.2.2.1 u.2.2.2.2.2.1 u.2.2.2.2.2.2) (fun u t => gB (dC, dI) (tyl cI cC cZ cB cJ) A (wd_X9_share cI cC cZ cB cJ a_x xG xD wY wJ wQ xI xK xJ tW uE qU uJ uL uI xH tX jE mX pD oO oQ eG uS sW uR qY sY qT u.1 rJ pN rP u.2.1 u.2.2.1 bZ bD bI aI wD gF pE qA nJ nY dQ jC eO eW dO fJ fY jD nG pG qB sH uP pQ mW u.2.2.2.1 u.2.2.2.2.1 oF u.2.2.2.2.2.1 u.2.2.2.2.2.2) t) A
noncomputable abbrev rm_X9_share : Room := { frames := 5, cells := 0, slots := 0, locals := 115 }
section S_X9_share
variable {p : Program} {l : Launch} {e : Env} {s : State} {m : MethodId} {args : Array Value} {below : List Frame} {meth : Method} {c : Code} {dC : Nat → ClassId} {dI : Nat → Nat → Nat} {cI cC cZ cB cJ : ClassId} {A : Nat → Prop} {a_x xG xD wY wJ wQ xI xK xJ tW uE qU uJ uL uI xH tX jE mX pD oO oQ eG uS sW uR qY sY qT : Nat} {rJ pN rP bZ bD bI aI : Int32} {wD gF pE qA nJ nY dQ : Nat → Int32} {jC eO eW dO fJ fY jD nG pG qB sH uP pQ mW : Int32} {oF : Nat → Int32} {post : Int32 → Int32 → (Nat → Int32) → (Nat → Int32) → (Nat → Int32) → (Nat → Int32) → Int32 → (Nat → Int32) → Prop}
noncomputable def ws_X9_share_96 (post : Int32 → Int32 → (Nat → Int32) → (Nat → Int32) → (Nat → Int32) → (Nat → Int32) → Int32 → (Nat → Int32) → Prop) (K45 : Int32 → Int32 → Int32 → Int32 → Int32 → Int32 → (Nat → Int32) → (Nat → Int32) → (Nat → Int32) → (Nat → Int32) → Int32 → (Nat → Int32) → Prop) (bZ bD : Int32) (wD gF pE qA nJ nY dQ : Nat → Int32) (jC eO eW dO fY jD pG : Int32) (oF : Nat → Int32) (x1 x2 x3 x4 x5 oX : Int32) (rX vV qO qQ : Nat → Int32) (qF : Int32) (jJ : Nat → Int32) : Prop := ∀ v_12 : Int32, v_12 = x5 + 1 → K45 x1 x2 x3 x4 v_12 oX rX vV qO qQ qF jJ
set_option maxHeartbeats 4000000 in
set_option maxRecDepth 100000 in
theorem ks_X9_share_96 (C0 : gc cX9_share (some .int) 8 RX9 (dC, dI) (tyl cI cC cZ cB cJ) A p s m args meth c) {K45 : Int32 → Int32 → Int32 → Int32 → Int32 → Int32 → (Nat → Int32) → (Nat → Int32) → (Nat → Int32) → (Nat → Int32) → Int32 → (Nat → Int32) → Prop} (hK45 : ∀ (x1 : Int32) (x2 : Int32) (x3 : Int32) (x4 : Int32) (x5 : Int32) (oX : Int32) (rX : Nat → Int32) (vV : Nat → Int32) (qO : Nat → Int32) (qQ : Nat → Int32) (qF : Int32) (jJ : Nat → Int32) (H : Heap) (locs : List Loc) (ls : Array Slot), K45 x1 x2 x3 x4 x5 oX rX vV qO qQ qF jJ → va_P (dC, dI) classes (wd_X9_share cI cC cZ cB cJ a_x xG xD wY wJ wQ xI xK xJ tW uE qU uJ uL uI xH tX jE mX pD oO oQ eG uS sW uR qY sY qT oX rJ pN rP rX vV bZ bD bI aI wD gF pE qA nJ nY dQ jC eO eW dO fJ fY jD nG pG qB sH uP pQ mW qO qQ oF qF jJ) H → va_D A (wd_X9_share cI cC cZ cB cJ a_x xG xD wY wJ wQ xI xK xJ tW uE qU uJ uL uI xH tX jE mX pD oO oQ eG uS sW uR qY sY qT oX rJ pN rP rX vV bZ bD bI aI wD gF pE qA nJ nY dQ jC eO eW dO fJ fY jD nG pG qB sH uP pQ mW qO qQ oF qF jJ) → va_S A s.heap H locs → lv_has ls 8 [(0, .ref a_x), (1, .int x1), (2, .int x2), (3, .int x3), (4, .int x4), (5, .int x5)] → W p l e rm_X9_share s m args below meth c H locs 0 0 (MQ below (q_X9_share dC dI cI cC cZ cB cJ A a_x xG xD wY wJ wQ xI xK xJ tW uE qU uJ uL uI xH tX jE mX pD oO oQ eG uS sW uR qY sY qT rJ pN rP bZ bD bI aI wD gF pE qA nJ nY dQ jC eO eW dO fJ fY jD nG pG qB sH uP pQ mW oF post) args s 0 0 A) (F0 m 45 ls [])) : ∀ (x1 x2 x3 x4 x5 oX : Int32) (rX vV qO qQ : Nat → Int32) (qF : Int32) (jJ : Nat → Int32) (H : Heap) (locs : List Loc) (ls : Array Slot), (ws_X9_share_96 post K45 bZ bD wD gF pE qA nJ nY dQ jC eO eW dO fY jD pG oF) x1 x2 x3 x4 x5 oX rX vV qO qQ qF jJ → va_P (dC, dI) classes (wd_X9_share cI cC cZ cB cJ a_x xG xD wY wJ wQ xI xK xJ tW uE qU uJ uL uI xH tX jE mX pD oO oQ eG uS sW uR qY sY qT oX rJ pN rP rX vV bZ bD bI aI wD gF pE qA nJ nY dQ jC eO eW dO fJ fY jD nG pG qB sH uP pQ mW qO qQ oF qF jJ) H → va_D A (wd_X9_share cI cC cZ cB cJ a_x xG xD wY wJ wQ xI xK xJ tW uE qU uJ uL uI xH tX jE mX pD oO oQ eG uS sW uR qY sY qT oX rJ pN rP rX vV bZ bD bI aI wD gF pE qA nJ nY dQ jC eO eW dO fJ fY jD nG pG qB sH uP pQ mW qO qQ oF qF jJ) → va_S A s.heap H locs → lv_has ls 8 [(0, .ref a_x), (1, .int x1), (2, .int x2), (3, .int x3), (4, .int x4), (5, .int x5)] → W p l e rm_X9_share s m args below meth c H locs 0 0 (MQ below (q_X9_share dC dI cI cC cZ cB cJ A a_x xG xD wY wJ wQ xI xK xJ tW uE qU uJ uL uI xH tX jE mX pD oO oQ eG uS sW uR qY sY qT rJ pN rP bZ bD bI aI wD gF pE qA nJ nY dQ jC eO eW dO fJ fY jD nG pG qB sH uP pQ mW oF post) args s 0 0 A) (F0 m 96 ls []) := by
  obtain ⟨hx, hb, hr, hml, hown, hts, hlocks, hA, hK, hN, tL, tM, hZL, hTL, hZM, hTM, hZX⟩ := id C0
  intro x1 x2 x3 x4 x5 oX rX vV qO qQ qF jJ H locs ls hp hP hD hS hl
  unfold ws_X9_share_96 at hp
  obtain ⟨v_12, ev_12⟩ : ∃ y : Int32, y = x5 + 1 := ⟨_, rfl⟩
  refine lv_iinc (v := v_12) (lv' := [(5, .int v_12), (0, .ref a_x), (1, .int x1), (2, .int x2), (3, .int x3), (4, .int x4)]) hx hb eX9_share_89.2.2.2.2.1 hl (k := 5) rfl (by rw [ev_12]; rfl) (by decide) rfl (fun ls hl => ?_)
  have hp := hp v_12 ev_12
  refine lv_goto (tgt := 45) hx hb eX9_share_89.2.2.2.2.2.1 (by decide) ?_
  exact hK45 x1 x2 x3 x4 v_12 oX rX vV qO qQ qF jJ H locs ls hp hP hD hS (lv_sub hl [1, 2, 3, 4, 5, 0] rfl)
noncomputable def ws_X9_share_45 (post : Int32 → Int32 → (Nat → Int32) → (Nat → Int32) → (Nat → Int32) → (Nat → Int32) → Int32 → (Nat → Int32) → Prop) (next : Int32 → Int32 → Int32 → Int32 → Int32 → Int32 → (Nat → Int32) → (Nat → Int32) → (Nat → Int32) → (Nat → Int32) → Int32 → (Nat → Int32) → Prop) (bZ bD : Int32) (wD gF pE qA nJ nY dQ : Nat → Int32) (jC eO eW dO fY jD pG : Int32) (oF : Nat → Int32) (x1 x2 x3 x4 x5 oX : Int32) (rX vV qO qQ : Nat → Int32) (qF : Int32) (jJ : Nat → Int32) : Prop := (x1 < x5 → wp_X5_loadOf (fun r_8 => ∀ v_9 : Int32, v_9 = x2 - r_8 → wp_X9_tell_ (fun aHN aCi => post x4 oX rX vV qO qQ aHN aCi) x3 v_9 qF jJ) x3 vV bD) ∧ (¬ x1 < x5 → (¬ (x5 &&& (x1 ^^^ (-1))) = 0 → ws_X9_share_96 post next bZ bD wD gF pE qA nJ nY dQ jC eO eW dO fY jD pG oF x1 x2 x3 x4 x5 oX rX vV qO qQ qF jJ) ∧ ((x5 &&& (x1 ^^^ (-1))) = 0 → wp_X5_loadOf (fun r_13 => ∀ v_14 : Int32, v_14 = x2 - r_13 → ∀ v_15 : Int32, v_15 = (if r_13 < v_14 then v_14 else r_13) → (x4 ≤ v_15 → ws_X9_share_96 post next bZ bD wD gF pE qA nJ nY dQ jC eO eW dO fY jD pG oF x1 x2 x3 x4 x5 oX rX vV qO qQ qF jJ) ∧ (¬ x4 ≤ v_15 → ws_X9_share_96 post next bZ bD wD gF pE qA nJ nY dQ jC eO eW dO fY jD pG oF x1 x2 x5 v_15 x5 oX rX vV qO qQ qF jJ)) x5 vV bD))
noncomputable def wb_X9_share_45 (post : Int32 → Int32 → (Nat → Int32) → (Nat → Int32) → (Nat → Int32) → (Nat → Int32) → Int32 → (Nat → Int32) → Prop) (bZ bD : Int32) (wD gF pE qA nJ nY dQ : Nat → Int32) (jC eO eW dO fY jD pG : Int32) (oF : Nat → Int32) : Nat → Int32 → Int32 → Int32 → Int32 → Int32 → Int32 → (Nat → Int32) → (Nat → Int32) → (Nat → Int32) → (Nat → Int32) → Int32 → (Nat → Int32) → Prop := fun n => Nat.rec (motive := fun _ => Int32 → Int32 → Int32 → Int32 → Int32 → Int32 → (Nat → Int32) → (Nat → Int32) → (Nat → Int32) → (Nat → Int32) → Int32 → (Nat → Int32) → Prop) (fun _ _ _ _ _ _ _ _ _ _ _ _ => False) (fun _ ih => ws_X9_share_45 post ih bZ bD wD gF pE qA nJ nY dQ jC eO eW dO fY jD pG oF) n
set_option maxHeartbeats 4000000 in
set_option maxRecDepth 100000 in
theorem ks_X9_share_45 (C0 : gc cX9_share (some .int) 8 RX9 (dC, dI) (tyl cI cC cZ cB cJ) A p s m args meth c) {next : Int32 → Int32 → Int32 → Int32 → Int32 → Int32 → (Nat → Int32) → (Nat → Int32) → (Nat → Int32) → (Nat → Int32) → Int32 → (Nat → Int32) → Prop} (hKn : ∀ (x1 : Int32) (x2 : Int32) (x3 : Int32) (x4 : Int32) (x5 : Int32) (oX : Int32) (rX : Nat → Int32) (vV : Nat → Int32) (qO : Nat → Int32) (qQ : Nat → Int32) (qF : Int32) (jJ : Nat → Int32) (H : Heap) (locs : List Loc) (ls : Array Slot), next x1 x2 x3 x4 x5 oX rX vV qO qQ qF jJ → va_P (dC, dI) classes (wd_X9_share cI cC cZ cB cJ a_x xG xD wY wJ wQ xI xK xJ tW uE qU uJ uL uI xH tX jE mX pD oO oQ eG uS sW uR qY sY qT oX rJ pN rP rX vV bZ bD bI aI wD gF pE qA nJ nY dQ jC eO eW dO fJ fY jD nG pG qB sH uP pQ mW qO qQ oF qF jJ) H → va_D A (wd_X9_share cI cC cZ cB cJ a_x xG xD wY wJ wQ xI xK xJ tW uE qU uJ uL uI xH tX jE mX pD oO oQ eG uS sW uR qY sY qT oX rJ pN rP rX vV bZ bD bI aI wD gF pE qA nJ nY dQ jC eO eW dO fJ fY jD nG pG qB sH uP pQ mW qO qQ oF qF jJ) → va_S A s.heap H locs → lv_has ls 8 [(0, .ref a_x), (1, .int x1), (2, .int x2), (3, .int x3), (4, .int x4), (5, .int x5)] → W p l e rm_X9_share s m args below meth c H locs 0 0 (MQ below (q_X9_share dC dI cI cC cZ cB cJ A a_x xG xD wY wJ wQ xI xK xJ tW uE qU uJ uL uI xH tX jE mX pD oO oQ eG uS sW uR qY sY qT rJ pN rP bZ bD bI aI wD gF pE qA nJ nY dQ jC eO eW dO fJ fY jD nG pG qB sH uP pQ mW oF post) args s 0 0 A) (F0 m 45 ls [])) : ∀ (x1 x2 x3 x4 x5 oX : Int32) (rX vV qO qQ : Nat → Int32) (qF : Int32) (jJ : Nat → Int32) (H : Heap) (locs : List Loc) (ls : Array Slot), (ws_X9_share_45 post next bZ bD wD gF pE qA nJ nY dQ jC eO eW dO fY jD pG oF) x1 x2 x3 x4 x5 oX rX vV qO qQ qF jJ → va_P (dC, dI) classes (wd_X9_share cI cC cZ cB cJ a_x xG xD wY wJ wQ xI xK xJ tW uE qU uJ uL uI xH tX jE mX pD oO oQ eG uS sW uR qY sY qT oX rJ pN rP rX vV bZ bD bI aI wD gF pE qA nJ nY dQ jC eO eW dO fJ fY jD nG pG qB sH uP pQ mW qO qQ oF qF jJ) H → va_D A (wd_X9_share cI cC cZ cB cJ a_x xG xD wY wJ wQ xI xK xJ tW uE qU uJ uL uI xH tX jE mX pD oO oQ eG uS sW uR qY sY qT oX rJ pN rP rX vV bZ bD bI aI wD gF pE qA nJ nY dQ jC eO eW dO fJ fY jD nG pG qB sH uP pQ mW qO qQ oF qF jJ) → va_S A s.heap H locs → lv_has ls 8 [(0, .ref a_x), (1, .int x1), (2, .int x2), (3, .int x3), (4, .int x4), (5, .int x5)] → W p l e rm_X9_share s m args below meth c H locs 0 0 (MQ below (q_X9_share dC dI cI cC cZ cB cJ A a_x xG xD wY wJ wQ xI xK xJ tW uE qU uJ uL uI xH tX jE mX pD oO oQ eG uS sW uR qY sY qT rJ pN rP bZ bD bI aI wD gF pE qA nJ nY dQ jC eO eW dO fJ fY jD nG pG qB sH uP pQ mW oF post) args s 0 0 A) (F0 m 45 ls []) := by
  obtain ⟨hx, hb, hr, hml, hown, hts, hlocks, hA, hK, hN, tL, tM, hZL, hTL, hZM, hTM, hZX⟩ := id C0
  intro x1 x2 x3 x4 x5 oX rX vV qO qQ qF jJ H locs ls hp hP hD hS hl
  unfold ws_X9_share_45 at hp
  refine lv_iload hx hb eX9_share_32.2.2.2.2.2.2.2.2.2.1 (lv_at hl 5 rfl) ?_
  refine lv_iload_n hx hb eX9_share_32.2.2.2.2.2.2.2.2.2.2.1 rfl (lv_at hl 1 rfl) ?_
  refine lv_icmp_gt (tgt := 102) hx hb eX9_share_32.2.2.2.2.2.2.2.2.2.2.2.1 (by decide) (fun hc => ?_) (fun hc => ?_)
  · have hp := hp.1 hc
    refine lv_aload_n hx hb eX9_share_89.2.2.2.2.2.2.1 rfl (lv_at hl 0 rfl) ?_
    refine lv_iload_n hx hb eX9_share_89.2.2.2.2.2.2.2.1 rfl (lv_at hl 3 rfl) ?_
    refine lv_iload_n hx hb eX9_share_89.2.2.2.2.2.2.2.2.1 rfl (lv_at hl 2 rfl) ?_
    refine lv_aload_n hx hb eX9_share_89.2.2.2.2.2.2.2.2.2.1 rfl (lv_at hl 0 rfl) ?_
    refine va_get (D := (dC, dI)) (ci := 9) (v := .ref xD) (C := RX9) (T := TX9) (N := 9) hx hb hts i_X9 hown hK hP 0 rfl rfl 1 (Nat.le_of_ble_eq_true rfl) (hts _ q_444) (fun _ h9 => h9) rfl eX9_share_89.2.2.2.2.2.2.2.2.2.2.1 ?_
    refine lv_iload_n hx hb eX9_share_89.2.2.2.2.2.2.2.2.2.2.2.1 rfl (lv_at hl 3 rfl) ?_
    have hm := mgk (wc := (wd_X5_loadOf cI cC cZ cB cJ xD wY wJ uE qU uJ uL uI tX jE mX pD oO oQ eG oX rJ pN rP vV bZ bD bI aI)) hP mk_176 20 rfl rfl rfl
    refine g_calli hP hD hS hA (mixT mk_176) (mixF mk_176) hm.1 hm.2 (nd_F _) (dis_g _) (g_runV (As := [.int x3]) (rest := [.int x2, .int x3, .ref a_x]) C0 hP hD hS (mixT mk_176) hm.1 (nd_T _) 1 5 rfl rfl (c_X5_loadOf l dC dI cI cC cZ cB cJ xD wY wJ uE qU uJ uL uI tX jE mX pD oO oQ eG H.size x3 oX rJ pN rP vV bZ bD bI aI _ hp) q_579 q_582 q_580 q_581 q_431 h_X5_loadOf rfl rfl ⟨Nat.le_of_ble_eq_true rfl, Nat.le_of_ble_eq_true rfl⟩ rfl rfl hl.1 rfl (lv_room (Nat.le_of_ble_eq_true rfl)) eX9_share_89.2.2.2.2.2.2.2.2.2.2.2.2.1 ⟨Nat.zero_le _, Nat.zero_le _⟩) (fun r_8 u H locs hp hP hD hS => ?_)
    have hPD := PDm (ws' := (wd_X9_share cI cC cZ cB cJ a_x xG xD wY wJ wQ xI xK xJ tW uE qU uJ uL uI xH tX jE mX pD oO oQ eG uS sW uR qY sY qT oX rJ pN rP rX vV bZ bD bI aI wD gF pE qA nJ nY dQ jC eO eW dO fJ fY jD nG pG qB sH uP pQ mW qO qQ oF qF jJ)) hP hD 20 rfl rfl rfl
    have hP := hPD.1
    have hD := hPD.2
    refine lv_isub hx hb eX9_share_89.2.2.2.2.2.2.2.2.2.2.2.2.2.1 ?_
    refine lv_topi (fun v_9 ev_9 => ?_)
    have hp := hp v_9 ev_9
    have hm := mgk (wc := (wd_X9_tell_ cI cC cZ cB cJ a_x xG xD wY wJ wQ xI xK xJ tW qT qF jJ)) hP mk_86 20 rfl rfl rfl
    refine g_callv hP hD hS hA (mixT mk_86) (mixF mk_86) hm.1 hm.2 (nd_F _) (dis_g _) (g_runV (As := [.int x3, .int v_9]) (rest := []) C0 hP hD hS (mixT mk_86) hm.1 (nd_T _) 0 9 rfl rfl (c_X9_tell_ l dC dI cI cC cZ cB cJ a_x xG xD wY wJ wQ xI xK xJ tW qT H.size x3 v_9 qF jJ _ hp) q_377 q_380 q_378 q_379 q_256 h_X9_tell_ rfl rfl ⟨Nat.le_of_ble_eq_true rfl, Nat.le_of_ble_eq_true rfl⟩ rfl rfl hl.1 rfl (lv_room (Nat.le_of_ble_eq_true rfl)) eX9_share_89.2.2.2.2.2.2.2.2.2.2.2.2.2.2.1 ⟨Nat.zero_le _, Nat.zero_le _⟩) (fun u H locs hp hP hD hS => ?_)
    obtain ⟨aHN, aCi⟩ := u
    have hPD := PDm (ws' := (wd_X9_share cI cC cZ cB cJ a_x xG xD wY wJ wQ xI xK xJ tW uE qU uJ uL uI xH tX jE mX pD oO oQ eG uS sW uR qY sY qT oX rJ pN rP rX vV bZ bD bI aI wD gF pE qA nJ nY dQ jC eO eW dO fJ fY jD nG pG qB sH uP pQ mW qO qQ oF aHN aCi)) hP hD 20 rfl rfl rfl
    have hP := hPD.1
    have hD := hPD.2
    refine lv_iload hx hb eX9_share_89.2.2.2.2.2.2.2.2.2.2.2.2.2.2.2 (lv_at hl 4 rfl) ?_
    exact W.iret (v := x4) hx hb hr (fun t ht hW => ⟨⟨x4, (oX, rX, vV, qO, qQ, aHN, aCi), rfl, hp, by rw [ht]; exact hP, va_K.moved hW.alike hK, hD⟩, hS.F ht⟩) hS.2.2 dX9_share_119
  · have hp := hp.2 hc
    refine lv_iload hx hb eX9_share_32.2.2.2.2.2.2.2.2.2.2.2.2.1 (lv_at hl 5 rfl) ?_
    refine lv_iload_n hx hb eX9_share_32.2.2.2.2.2.2.2.2.2.2.2.2.2.1 rfl (lv_at hl 1 rfl) ?_
    refine lv_iconst (v := (-1)) hx hb eX9_share_32.2.2.2.2.2.2.2.2.2.2.2.2.2.2.1 ic_m1 ?_
    refine lv_ixor hx hb eX9_share_32.2.2.2.2.2.2.2.2.2.2.2.2.2.2.2 ?_
    refine lv_iand hx hb eX9_share_56.1 ?_
    refine lv_if_ne (tgt := 96) hx hb eX9_share_56.2.1 (by decide) (fun hc => ?_) (fun hc => ?_)
    · have hp := hp.1 hc
      exact ks_X9_share_96 C0 hKn x1 x2 x3 x4 x5 oX rX vV qO qQ qF jJ H locs ls hp hP hD hS (lv_sub hl [0, 1, 2, 3, 4, 5] rfl)
    · have hp := hp.2 hc
      refine lv_aload_n hx hb eX9_share_56.2.2.1 rfl (lv_at hl 0 rfl) ?_
      refine va_get (D := (dC, dI)) (ci := 9) (v := .ref xD) (C := RX9) (T := TX9) (N := 9) hx hb hts i_X9 hown hK hP 0 rfl rfl 1 (Nat.le_of_ble_eq_true rfl) (hts _ q_444) (fun _ h9 => h9) rfl eX9_share_56.2.2.2.1 ?_
      refine lv_iload hx hb eX9_share_56.2.2.2.2.1 (lv_at hl 5 rfl) ?_
      have hm := mgk (wc := (wd_X5_loadOf cI cC cZ cB cJ xD wY wJ uE qU uJ uL uI tX jE mX pD oO oQ eG oX rJ pN rP vV bZ bD bI aI)) hP mk_176 20 rfl rfl rfl
      refine g_calli hP hD hS hA (mixT mk_176) (mixF mk_176) hm.1 hm.2 (nd_F _) (dis_g _) (g_runV (As := [.int x5]) (rest := []) C0 hP hD hS (mixT mk_176) hm.1 (nd_T _) 1 5 rfl rfl (c_X5_loadOf l dC dI cI cC cZ cB cJ xD wY wJ uE qU uJ uL uI tX jE mX pD oO oQ eG H.size x5 oX rJ pN rP vV bZ bD bI aI _ hp) q_579 q_582 q_580 q_581 q_431 h_X5_loadOf rfl rfl ⟨Nat.le_of_ble_eq_true rfl, Nat.le_of_ble_eq_true rfl⟩ rfl rfl hl.1 rfl (lv_room (Nat.le_of_ble_eq_true rfl)) eX9_share_56.2.2.2.2.2.1 ⟨Nat.zero_le _, Nat.zero_le _⟩) (fun r_13 u H locs hp hP hD hS => ?_)
      have hPD := PDm (ws' := (wd_X9_share cI cC cZ cB cJ a_x xG xD wY wJ wQ xI xK xJ tW uE qU uJ uL uI xH tX jE mX pD oO oQ eG uS sW uR qY sY qT oX rJ pN rP rX vV bZ bD bI aI wD gF pE qA nJ nY dQ jC eO eW dO fJ fY jD nG pG qB sH uP pQ mW qO qQ oF qF jJ)) hP hD 20 rfl rfl rfl
      have hP := hPD.1
      have hD := hPD.2
      refine lv_istore (lv' := [(6, .int r_13), (0, .ref a_x), (1, .int x1), (2, .int x2), (3, .int x3), (4, .int x4), (5, .int x5)]) hx hb eX9_share_56.2.2.2.2.2.2.1 hl (by decide) rfl (fun ls hl => ?_)
      refine lv_iload hx hb eX9_share_56.2.2.2.2.2.2.2.1 (lv_at hl 0 rfl) ?_
      refine lv_iload_n hx hb eX9_share_56.2.2.2.2.2.2.2.2.1 rfl (lv_at hl 3 rfl) ?_
      refine lv_iload hx hb eX9_share_56.2.2.2.2.2.2.2.2.2.1 (lv_at hl 0 rfl) ?_
      refine lv_isub hx hb eX9_share_56.2.2.2.2.2.2.2.2.2.2.1 ?_
      refine lv_topi (fun v_14 ev_14 => ?_)
      have hp := hp v_14 ev_14
      refine va_mmax hx hb (by rw [hml]; exact hl.1.symm) hown (hts _ q_583) (hts _ q_134) (hts _ q_16) (hts _ q_135) (Nat.le_of_ble_eq_true rfl) (Nat.le_of_ble_eq_true rfl) (Nat.zero_le _) (Nat.zero_le _) eX9_share_56.2.2.2.2.2.2.2.2.2.2.2.1 ?_
      refine lv_topi (fun v_15 ev_15 => ?_)
      have hp := hp v_15 ev_15
      refine lv_istore (lv' := [(7, .int v_15), (6, .int r_13), (0, .ref a_x), (1, .int x1), (2, .int x2), (3, .int x3), (4, .int x4), (5, .int x5)]) hx hb eX9_share_56.2.2.2.2.2.2.2.2.2.2.2.2.1 hl (by decide) rfl (fun ls hl => ?_)
      refine lv_iload hx hb eX9_share_56.2.2.2.2.2.2.2.2.2.2.2.2.2.1 (lv_at hl 0 rfl) ?_
      refine lv_iload hx hb eX9_share_56.2.2.2.2.2.2.2.2.2.2.2.2.2.2.1 (lv_at hl 6 rfl) ?_
      refine lv_icmp_ge (tgt := 96) hx hb eX9_share_56.2.2.2.2.2.2.2.2.2.2.2.2.2.2.2 (by decide) (fun hc => ?_) (fun hc => ?_)
      · have hp := hp.1 hc
        exact ks_X9_share_96 C0 hKn x1 x2 x3 x4 x5 oX rX vV qO qQ qF jJ H locs ls hp hP hD hS (lv_sub hl [2, 3, 4, 5, 6, 7] rfl)
      · have hp := hp.2 hc
        refine lv_iload hx hb eX9_share_89.1 (lv_at hl 7 rfl) ?_
        refine lv_istore_n (lv' := [(3, .int x5), (7, .int v_15), (6, .int r_13), (0, .ref a_x), (1, .int x1), (2, .int x2), (4, .int x4), (5, .int x5)]) hx hb eX9_share_89.2.1 rfl hl (by decide) rfl (fun ls hl => ?_)
        refine lv_iload hx hb eX9_share_89.2.2.1 (lv_at hl 1 rfl) ?_
        refine lv_istore (lv' := [(4, .int v_15), (3, .int x5), (7, .int v_15), (6, .int r_13), (0, .ref a_x), (1, .int x1), (2, .int x2), (5, .int x5)]) hx hb eX9_share_89.2.2.2.1 hl (by decide) rfl (fun ls hl => ?_)
        exact ks_X9_share_96 C0 hKn x1 x2 x5 v_15 x5 oX rX vV qO qQ qF jJ H locs ls hp hP hD hS (lv_sub hl [4, 5, 6, 1, 0, 7] rfl)
set_option maxHeartbeats 4000000 in
set_option maxRecDepth 100000 in
theorem kb_X9_share_45 (C0 : gc cX9_share (some .int) 8 RX9 (dC, dI) (tyl cI cC cZ cB cJ) A p s m args meth c) : ∀ (n : Nat), ∀ (x1 x2 x3 x4 x5 oX : Int32) (rX vV qO qQ : Nat → Int32) (qF : Int32) (jJ : Nat → Int32) (H : Heap) (locs : List Loc) (ls : Array Slot), (wb_X9_share_45 post bZ bD wD gF pE qA nJ nY dQ jC eO eW dO fY jD pG oF n) x1 x2 x3 x4 x5 oX rX vV qO qQ qF jJ → va_P (dC, dI) classes (wd_X9_share cI cC cZ cB cJ a_x xG xD wY wJ wQ xI xK xJ tW uE qU uJ uL uI xH tX jE mX pD oO oQ eG uS sW uR qY sY qT oX rJ pN rP rX vV bZ bD bI aI wD gF pE qA nJ nY dQ jC eO eW dO fJ fY jD nG pG qB sH uP pQ mW qO qQ oF qF jJ) H → va_D A (wd_X9_share cI cC cZ cB cJ a_x xG xD wY wJ wQ xI xK xJ tW uE qU uJ uL uI xH tX jE mX pD oO oQ eG uS sW uR qY sY qT oX rJ pN rP rX vV bZ bD bI aI wD gF pE qA nJ nY dQ jC eO eW dO fJ fY jD nG pG qB sH uP pQ mW qO qQ oF qF jJ) → va_S A s.heap H locs → lv_has ls 8 [(0, .ref a_x), (1, .int x1), (2, .int x2), (3, .int x3), (4, .int x4), (5, .int x5)] → W p l e rm_X9_share s m args below meth c H locs 0 0 (MQ below (q_X9_share dC dI cI cC cZ cB cJ A a_x xG xD wY wJ wQ xI xK xJ tW uE qU uJ uL uI xH tX jE mX pD oO oQ eG uS sW uR qY sY qT rJ pN rP bZ bD bI aI wD gF pE qA nJ nY dQ jC eO eW dO fJ fY jD nG pG qB sH uP pQ mW oF post) args s 0 0 A) (F0 m 45 ls []) := by
  intro n
  induction n with
  | zero =>
    intro x1 x2 x3 x4 x5 oX rX vV qO qQ qF jJ H locs ls hp
    exact False.elim hp
  | succ n ih =>
    intro x1 x2 x3 x4 x5 oX rX vV qO qQ qF jJ H locs ls hp
    exact ks_X9_share_45 C0 ih x1 x2 x3 x4 x5 oX rX vV qO qQ qF jJ H locs ls hp
end S_X9_share
noncomputable def wp_X9_share (post : Int32 → Int32 → (Nat → Int32) → (Nat → Int32) → (Nat → Int32) → (Nat → Int32) → Int32 → (Nat → Int32) → Prop) (p0 oX : Int32) (rX vV : Nat → Int32) (bZ bD : Int32) (wD gF pE qA nJ nY dQ : Nat → Int32) (jC eO eW dO fY jD pG : Int32) (qO qQ oF : Nat → Int32) (qF : Int32) (jJ : Nat → Int32) : Prop := wp_X3_areStandings (fun r_1 => (¬ r_1 = 0 → wp_X5_look (fun xR yA => wp_X5_loadFirsts (fun pl_load_4 aCY aCZ => wp_X5_loadOf (fun r_7 => ∃ n : Nat, wb_X9_share_45 post bZ bD wD gF pE qA nJ nY dQ jC eO eW dO fY jD pG oF n p0 r_7 0 r_7 1 xR yA pl_load_4 aCY aCZ qF jJ) p0 pl_load_4 bD) p0 xR yA vV bZ bD wD gF pE nJ nY dO pG qO qQ oF) oX rX bZ bD wD gF qA nJ nY dQ jC eO eW fY jD) ∧ (r_1 = 0 → post (-1) oX rX vV qO qQ qF jJ)) p0 bD
set_option maxHeartbeats 4000000 in
set_option maxRecDepth 100000 in
theorem c_X9_share (l : Launch) (dC : Nat → ClassId) (dI : Nat → Nat → Nat) (cI cC cZ cB cJ : ClassId) (a_x xG xD wY wJ wQ xI xK xJ tW uE qU uJ uL uI xH tX jE mX pD oO oQ eG uS sW uR qY sY qT sz : Nat) (p0 oX rJ pN rP : Int32) (rX vV : Nat → Int32) (bZ bD bI aI : Int32) (wD gF pE qA nJ nY dQ : Nat → Int32) (jC eO eW dO fJ fY jD nG pG qB sH uP pQ mW : Int32) (qO qQ oF : Nat → Int32) (qF : Int32) (jJ : Nat → Int32) (post : Int32 → Int32 → (Nat → Int32) → (Nat → Int32) → (Nat → Int32) → (Nat → Int32) → Int32 → (Nat → Int32) → Prop) (hw : wp_X9_share post p0 oX rX vV bZ bD wD gF pE qA nJ nY dQ jC eO eW dO fY jD pG qO qQ oF qF jJ) : Met l yX9_share (gw yX9_share cX9_share 8 (some .int)) rm_X9_share (va_Pc [.ref a_x, .int p0] (gPre (dC, dI) (tyl cI cC cZ cB cJ) (wd_X9_share cI cC cZ cB cJ a_x xG xD wY wJ wQ xI xK xJ tW uE qU uJ uL uI xH tX jE mX pD oO oQ eG uS sW uR qY sY qT oX rJ pN rP rX vV bZ bD bI aI wD gF pE qA nJ nY dQ jC eO eW dO fJ fY jD nG pG qB sH uP pQ mW qO qQ oF qF jJ) sz)) (q_X9_share dC dI cI cC cZ cB cJ (va_A (wd_X9_share cI cC cZ cB cJ a_x xG xD wY wJ wQ xI xK xJ tW uE qU uJ uL uI xH tX jE mX pD oO oQ eG uS sW uR qY sY qT oX rJ pN rP rX vV bZ bD bI aI wD gF pE qA nJ nY dQ jC eO eW dO fJ fY jD nG pG qB sH uP pQ mW qO qQ oF qF jJ) sz) a_x xG xD wY wJ wQ xI xK xJ tW uE qU uJ uL uI xH tX jE mX pD oO oQ eG uS sW uR qY sY qT rJ pN rP bZ bD bI aI wD gF pE qA nJ nY dQ jC eO eW dO fJ fY jD nG pG qB sH uP pQ mW oF post) 0 0 (va_A (wd_X9_share cI cC cZ cB cJ a_x xG xD wY wJ wQ xI xK xJ tW uE qU uJ uL uI xH tX jE mX pD oO oQ eG uS sW uR qY sY qT oX rJ pN rP rX vV bZ bD bI aI wD gF pE qA nJ nY dQ jC eO eW dO fJ fY jD nG pG qB sH uP pQ mW qO qQ oF qF jJ) sz) := by
  refine g_enter (own := RX9) (dC, dI) (tyl cI cC cZ cB cJ) (wd_X9_share cI cC cZ cB cJ a_x xG xD wY wJ wQ xI xK xJ tW uE qU uJ uL uI xH tX jE mX pD oO oQ eG uS sW uR qY sY qT oX rJ pN rP rX vV bZ bD bI aI wD gF pE qA nJ nY dQ jC eO eW dO fJ fY jD nG pG qB sH uP pQ mW qO qQ oF qF jJ) sz [.ref a_x, .int p0] (fun A => q_X9_share dC dI cI cC cZ cB cJ A a_x xG xD wY wJ wQ xI xK xJ tW uE qU uJ uL uI xH tX jE mX pD oO oQ eG uS sW uR qY sY qT rJ pN rP bZ bD bI aI wD gF pE qA nJ nY dQ jC eO eW dO fJ fY jD nG pG qB sH uP pQ mW oF post) pn_RX9 rfl (Nat.le_of_ble_eq_true rfl) ?_
  intro p e s m args below meth c A H locs ls C0 hP hD hS hl
  have hl : lv_has ls 8 [(0, .ref a_x), (1, .int p0)] := hl
  obtain ⟨hx, hb, hr, hml, hown, hts, hlocks, hA, hK, hN, tL, tM, hZL, hTL, hZM, hTM, hZX⟩ := id C0
  have hp := hw
  unfold wp_X9_share at hp
  refine lv_aload_n hx hb eX9_share_0.1 rfl (lv_at hl 0 rfl) ?_
  refine va_get (D := (dC, dI)) (ci := 9) (v := .ref wJ) (C := RX9) (T := TX9) (N := 9) hx hb hts i_X9 hown hK hP 0 rfl rfl 3 (Nat.le_of_ble_eq_true rfl) (hts _ q_74) (fun _ h9 => h9) rfl eX9_share_0.2.1 ?_
  refine lv_iload_n hx hb eX9_share_0.2.2.1 rfl (lv_at hl 1 rfl) ?_
  have hm := mgk (wc := (wd_X3_areStandings cI cC cZ cB cJ wJ tX jE mX pD oO oQ eG bZ bD bI aI)) hP mk_177 20 rfl rfl rfl
  refine g_calli hP hD hS hA (mixT mk_177) (mixF mk_177) hm.1 hm.2 (nd_F _) (dis_g _) (g_runV (As := [.int p0]) (rest := []) C0 hP hD hS (mixT mk_177) hm.1 (nd_T _) 5 3 rfl rfl (c_X3_areStandings l dC dI cI cC cZ cB cJ wJ tX jE mX pD oO oQ eG H.size p0 bZ bD bI aI _ hp) q_483 q_486 q_484 q_485 q_48 h_X3_areStandings rfl rfl ⟨Nat.le_of_ble_eq_true rfl, Nat.le_of_ble_eq_true rfl⟩ rfl rfl hl.1 rfl (lv_room (Nat.le_of_ble_eq_true rfl)) eX9_share_0.2.2.2.1 ⟨Nat.zero_le _, Nat.zero_le _⟩) (fun r_1 u H locs hp hP hD hS => ?_)
  have hPD := PDm (ws' := (wd_X9_share cI cC cZ cB cJ a_x xG xD wY wJ wQ xI xK xJ tW uE qU uJ uL uI xH tX jE mX pD oO oQ eG uS sW uR qY sY qT oX rJ pN rP rX vV bZ bD bI aI wD gF pE qA nJ nY dQ jC eO eW dO fJ fY jD nG pG qB sH uP pQ mW qO qQ oF qF jJ)) hP hD 20 rfl rfl rfl
  have hP := hPD.1
  have hD := hPD.2
  refine lv_if_ne (tgt := 13) hx hb eX9_share_0.2.2.2.2.1 (by decide) (fun hc => ?_) (fun hc => ?_)
  · have hp := hp.1 hc
    refine lv_aload_n hx hb eX9_share_0.2.2.2.2.2.2.2.1 rfl (lv_at hl 0 rfl) ?_
    refine va_get (D := (dC, dI)) (ci := 9) (v := .ref xD) (C := RX9) (T := TX9) (N := 9) hx hb hts i_X9 hown hK hP 0 rfl rfl 1 (Nat.le_of_ble_eq_true rfl) (hts _ q_444) (fun _ h9 => h9) rfl eX9_share_0.2.2.2.2.2.2.2.2.1 ?_
    have hm := mgk (wc := (wd_X5_look cI cC cZ cB cJ xD wY wJ uE qU uJ uL uI wQ xH tX jE mX pD oO oQ eG oX rJ pN rP rX bZ bD bI aI wD gF qA nJ nY dQ jC eO eW dO fJ fY jD nG)) hP mk_178 20 rfl rfl rfl
    refine g_callv hP hD hS hA (mixT mk_178) (mixF mk_178) hm.1 hm.2 (nd_F _) (dis_g _) (g_runV (As := []) (rest := []) C0 hP hD hS (mixT mk_178) hm.1 (nd_T _) 1 5 rfl rfl (c_X5_look l dC dI cI cC cZ cB cJ xD wY wJ uE qU uJ uL uI wQ xH tX jE mX pD oO oQ eG H.size oX rJ pN rP rX bZ bD bI aI wD gF qA nJ nY dQ jC eO eW dO fJ fY jD nG _ hp) q_445 q_448 q_446 q_447 q_431 h_X5_look rfl rfl ⟨Nat.le_of_ble_eq_true rfl, Nat.le_of_ble_eq_true rfl⟩ rfl rfl hl.1 rfl (lv_room (Nat.le_of_ble_eq_true rfl)) eX9_share_0.2.2.2.2.2.2.2.2.2.1 ⟨Nat.zero_le _, Nat.zero_le _⟩) (fun u H locs hp hP hD hS => ?_)
    obtain ⟨xR, yA⟩ := u
    have hPD := PDm (ws' := (wd_X9_share cI cC cZ cB cJ a_x xG xD wY wJ wQ xI xK xJ tW uE qU uJ uL uI xH tX jE mX pD oO oQ eG uS sW uR qY sY qT xR rJ pN rP yA vV bZ bD bI aI wD gF pE qA nJ nY dQ jC eO eW dO fJ fY jD nG pG qB sH uP pQ mW qO qQ oF qF jJ)) hP hD 20 rfl rfl rfl
    have hP := hPD.1
    have hD := hPD.2
    refine lv_aload_n hx hb eX9_share_0.2.2.2.2.2.2.2.2.2.2.1 rfl (lv_at hl 0 rfl) ?_
    refine va_get (D := (dC, dI)) (ci := 9) (v := .ref xD) (C := RX9) (T := TX9) (N := 9) hx hb hts i_X9 hown hK hP 0 rfl rfl 1 (Nat.le_of_ble_eq_true rfl) (hts _ q_444) (fun _ h9 => h9) rfl eX9_share_0.2.2.2.2.2.2.2.2.2.2.2.1 ?_
    refine lv_iload_n hx hb eX9_share_0.2.2.2.2.2.2.2.2.2.2.2.2.1 rfl (lv_at hl 1 rfl) ?_
    have hm := mgk (wc := (wd_X5_loadFirsts cI cC cZ cB cJ xD wY wJ uE qU uJ uL uI wQ xH tX jE mX pD oO oQ eG uS sW uR qY sY xR rJ pN rP yA vV bZ bD bI aI wD gF pE nJ nY jC eO eW dO fJ fY jD nG pG qB sH uP pQ mW qO qQ oF)) hP mk_179 20 rfl rfl rfl
    refine g_callv hP hD hS hA (mixT mk_179) (mixF mk_179) hm.1 hm.2 (nd_F _) (dis_g _) (g_runV (As := [.int p0]) (rest := []) C0 hP hD hS (mixT mk_179) hm.1 (nd_T _) 1 5 rfl rfl (c_X5_loadFirsts l dC dI cI cC cZ cB cJ xD wY wJ uE qU uJ uL uI wQ xH tX jE mX pD oO oQ eG uS sW uR qY sY H.size p0 xR rJ pN rP yA vV bZ bD bI aI wD gF pE nJ nY jC eO eW dO fJ fY jD nG pG qB sH uP pQ mW qO qQ oF _ hp) q_575 q_578 q_576 q_577 q_431 h_X5_loadFirsts rfl rfl ⟨Nat.le_of_ble_eq_true rfl, Nat.le_of_ble_eq_true rfl⟩ rfl rfl hl.1 rfl (lv_room (Nat.le_of_ble_eq_true rfl)) eX9_share_0.2.2.2.2.2.2.2.2.2.2.2.2.2.1 ⟨Nat.zero_le _, Nat.zero_le _⟩) (fun u H locs hp hP hD hS => ?_)
    obtain ⟨pl_load_4, aCY, aCZ⟩ := u
    have hPD := PDm (ws' := (wd_X9_share cI cC cZ cB cJ a_x xG xD wY wJ wQ xI xK xJ tW uE qU uJ uL uI xH tX jE mX pD oO oQ eG uS sW uR qY sY qT xR rJ pN rP yA pl_load_4 bZ bD bI aI wD gF pE qA nJ nY dQ jC eO eW dO fJ fY jD nG pG qB sH uP pQ mW aCY aCZ oF qF jJ)) hP hD 20 rfl rfl rfl
    have hP := hPD.1
    have hD := hPD.2
    refine lv_aload_n hx hb eX9_share_0.2.2.2.2.2.2.2.2.2.2.2.2.2.2.1 rfl (lv_at hl 0 rfl) ?_
    refine va_get (D := (dC, dI)) (ci := 9) (v := .ref xD) (C := RX9) (T := TX9) (N := 9) hx hb hts i_X9 hown hK hP 0 rfl rfl 1 (Nat.le_of_ble_eq_true rfl) (hts _ q_444) (fun _ h9 => h9) rfl eX9_share_0.2.2.2.2.2.2.2.2.2.2.2.2.2.2.2 ?_
    refine lv_iload_n hx hb eX9_share_32.1 rfl (lv_at hl 1 rfl) ?_
    have hm := mgk (wc := (wd_X5_loadOf cI cC cZ cB cJ xD wY wJ uE qU uJ uL uI tX jE mX pD oO oQ eG xR rJ pN rP pl_load_4 bZ bD bI aI)) hP mk_176 20 rfl rfl rfl
    refine g_calli hP hD hS hA (mixT mk_176) (mixF mk_176) hm.1 hm.2 (nd_F _) (dis_g _) (g_runV (As := [.int p0]) (rest := []) C0 hP hD hS (mixT mk_176) hm.1 (nd_T _) 1 5 rfl rfl (c_X5_loadOf l dC dI cI cC cZ cB cJ xD wY wJ uE qU uJ uL uI tX jE mX pD oO oQ eG H.size p0 xR rJ pN rP pl_load_4 bZ bD bI aI _ hp) q_579 q_582 q_580 q_581 q_431 h_X5_loadOf rfl rfl ⟨Nat.le_of_ble_eq_true rfl, Nat.le_of_ble_eq_true rfl⟩ rfl rfl hl.1 rfl (lv_room (Nat.le_of_ble_eq_true rfl)) eX9_share_32.2.1 ⟨Nat.zero_le _, Nat.zero_le _⟩) (fun r_7 u H locs hp hP hD hS => ?_)
    have hPD := PDm (ws' := (wd_X9_share cI cC cZ cB cJ a_x xG xD wY wJ wQ xI xK xJ tW uE qU uJ uL uI xH tX jE mX pD oO oQ eG uS sW uR qY sY qT xR rJ pN rP yA pl_load_4 bZ bD bI aI wD gF pE qA nJ nY dQ jC eO eW dO fJ fY jD nG pG qB sH uP pQ mW aCY aCZ oF qF jJ)) hP hD 20 rfl rfl rfl
    have hP := hPD.1
    have hD := hPD.2
    refine lv_istore_n (lv' := [(2, .int r_7), (0, .ref a_x), (1, .int p0)]) hx hb eX9_share_32.2.2.1 rfl hl (by decide) rfl (fun ls hl => ?_)
    refine lv_iconst (v := 0) hx hb eX9_share_32.2.2.2.1 ic_0 ?_
    refine lv_istore_n (lv' := [(3, .int 0), (2, .int r_7), (0, .ref a_x), (1, .int p0)]) hx hb eX9_share_32.2.2.2.2.1 rfl hl (by decide) rfl (fun ls hl => ?_)
    refine lv_iload_n hx hb eX9_share_32.2.2.2.2.2.1 rfl (lv_at hl 1 rfl) ?_
    refine lv_istore (lv' := [(4, .int r_7), (3, .int 0), (2, .int r_7), (0, .ref a_x), (1, .int p0)]) hx hb eX9_share_32.2.2.2.2.2.2.1 hl (by decide) rfl (fun ls hl => ?_)
    refine lv_iconst (v := 1) hx hb eX9_share_32.2.2.2.2.2.2.2.1 ic_1 ?_
    refine lv_istore (lv' := [(5, .int 1), (4, .int r_7), (3, .int 0), (2, .int r_7), (0, .ref a_x), (1, .int p0)]) hx hb eX9_share_32.2.2.2.2.2.2.2.2.1 hl (by decide) rfl (fun ls hl => ?_)
    obtain ⟨n9, hp⟩ := hp
    exact kb_X9_share_45 C0 n9 p0 r_7 0 r_7 1 xR yA pl_load_4 aCY aCZ qF jJ H locs ls hp hP hD hS (lv_sub hl [4, 5, 3, 2, 1, 0] rfl)
  · have hp := hp.2 hc
    refine lv_iconst (v := (-1)) hx hb eX9_share_0.2.2.2.2.2.1 ic_m1 ?_
    exact W.iret (v := (-1)) hx hb hr (fun t ht hW => ⟨⟨(-1), (oX, rX, vV, qO, qQ, qF, jJ), rfl, hp, by rw [ht]; exact hP, va_K.moved hW.alike hK, hD⟩, hS.F ht⟩) hS.2.2 eX9_share_0.2.2.2.2.2.2.1
noncomputable abbrev wd_X0_ripeFirst (cI cC cZ cB cJ : ClassId) (wY wJ wQ xH tX jE mX pD oO oQ eG : Nat) (bZ bD bI aI : Int32) (qA : Nat → Int32) (jC eO eW dO fJ fY jD nG : Int32) : va_W := [(wY, .inr (0, [.ref wJ, .ref wQ, .ref xH])), (wJ, .inr (3, [.ref tX, .ref jE, .ref mX, .ref pD, .ref oO, .ref oQ, .ref eG, .int bZ, .int bD, .int bI, .int aI])), (pD, .inl (cI, 16, .inl qA)), (wQ, .inr (2, [.int jC, .int eO, .int eW, .int dO, .int fJ, .int fY, .int jD, .int nG]))]
noncomputable abbrev q_X0_ripeFirst (dC : Nat → ClassId) (dI : Nat → Nat → Nat) (cI cC cZ cB cJ : ClassId) (A : Nat → Prop) (wY wJ wQ xH tX jE mX pD oO oQ eG : Nat) (bZ bD bI aI : Int32) (qA : Nat → Int32) (jC eO eW dO fJ fY jD nG : Int32) (post : Int32 → Prop) : Array Value → State → Outcome → State → Prop := va_Qi (fun (r : Int32) (u : Unit) => post r) (fun u t => gB (dC, dI) (tyl cI cC cZ cB cJ) A (wd_X0_ripeFirst cI cC cZ cB cJ wY wJ wQ xH tX jE mX pD oO oQ eG bZ bD bI aI qA jC eO eW dO fJ fY jD nG) t) A
noncomputable abbrev rm_X0_ripeFirst : Room := { frames := 2, cells := 0, slots := 0, locals := 40 }
noncomputable def wp_X0_ripeFirst (post : Int32 → Prop) (p0 bZ : Int32) (qA : Nat → Int32) (jC eO eW jD : Int32) : Prop := wp_X0_hanging (fun r_1 => wp_X3_ripeBy (fun r_2 => ∀ v_3 : Int32, v_3 = r_1 &&& r_2 → (p0 ≤ jD → post v_3) ∧ (¬ p0 ≤ jD → ∀ v_4 : Int32, v_4 = p0 - 1 → wp_X3_ripeBy (fun r_5 => ∀ v_6 : Int32, v_6 = v_3 &&& (r_5 ^^^ (-1)) → post v_6) v_4 bZ qA)) p0 bZ qA) bZ jC eO eW
set_option maxHeartbeats 4000000 in
set_option maxRecDepth 100000 in
theorem c_X0_ripeFirst (l : Launch) (dC : Nat → ClassId) (dI : Nat → Nat → Nat) (cI cC cZ cB cJ : ClassId) (wY wJ wQ xH tX jE mX pD oO oQ eG sz : Nat) (p0 bZ bD bI aI : Int32) (qA : Nat → Int32) (jC eO eW dO fJ fY jD nG : Int32) (post : Int32 → Prop) (hw : wp_X0_ripeFirst post p0 bZ qA jC eO eW jD) : Met l yX0_ripeFirst (gw yX0_ripeFirst cX0_ripeFirst 3 (some .int)) rm_X0_ripeFirst (va_Pc [.ref wY, .int p0] (gPre (dC, dI) (tyl cI cC cZ cB cJ) (wd_X0_ripeFirst cI cC cZ cB cJ wY wJ wQ xH tX jE mX pD oO oQ eG bZ bD bI aI qA jC eO eW dO fJ fY jD nG) sz)) (q_X0_ripeFirst dC dI cI cC cZ cB cJ (va_A (wd_X0_ripeFirst cI cC cZ cB cJ wY wJ wQ xH tX jE mX pD oO oQ eG bZ bD bI aI qA jC eO eW dO fJ fY jD nG) sz) wY wJ wQ xH tX jE mX pD oO oQ eG bZ bD bI aI qA jC eO eW dO fJ fY jD nG post) 0 0 (va_A (wd_X0_ripeFirst cI cC cZ cB cJ wY wJ wQ xH tX jE mX pD oO oQ eG bZ bD bI aI qA jC eO eW dO fJ fY jD nG) sz) := by
  refine g_enter (own := RX0) (dC, dI) (tyl cI cC cZ cB cJ) (wd_X0_ripeFirst cI cC cZ cB cJ wY wJ wQ xH tX jE mX pD oO oQ eG bZ bD bI aI qA jC eO eW dO fJ fY jD nG) sz [.ref wY, .int p0] (fun A => q_X0_ripeFirst dC dI cI cC cZ cB cJ A wY wJ wQ xH tX jE mX pD oO oQ eG bZ bD bI aI qA jC eO eW dO fJ fY jD nG post) pn_RX0 rfl (Nat.le_of_ble_eq_true rfl) ?_
  intro p e s m args below meth c A H locs ls C0 hP hD hS hl
  have hl : lv_has ls 3 [(0, .ref wY), (1, .int p0)] := hl
  obtain ⟨hx, hb, hr, hml, hown, hts, hlocks, hA, hK, hN, tL, tM, hZL, hTL, hZM, hTM, hZX⟩ := id C0
  have hp := hw
  unfold wp_X0_ripeFirst at hp
  refine lv_aload_n hx hb eX0_ripeFirst_0.1 rfl (lv_at hl 0 rfl) ?_
  have hm := mgk (wc := (wd_X0_hanging cI cC cZ cB cJ wY wJ wQ xH tX jE mX pD oO oQ eG bZ bD bI aI jC eO eW dO fJ fY jD nG)) hP mk_180 4 rfl rfl rfl
  refine g_calli hP hD hS hA (mixT mk_180) (mixF mk_180) hm.1 hm.2 (nd_F _) (dis_g _) (g_runV (As := []) (rest := []) C0 hP hD hS (mixT mk_180) hm.1 (nd_T _) 0 0 rfl rfl (c_X0_hanging l dC dI cI cC cZ cB cJ wY wJ wQ xH tX jE mX pD oO oQ eG H.size bZ bD bI aI jC eO eW dO fJ fY jD nG _ hp) q_186 q_309 q_188 q_189 q_187 h_X0_hanging rfl rfl ⟨Nat.le_of_ble_eq_true rfl, Nat.le_of_ble_eq_true rfl⟩ rfl rfl hl.1 rfl (lv_room (Nat.le_of_ble_eq_true rfl)) eX0_ripeFirst_0.2.1 ⟨Nat.zero_le _, Nat.zero_le _⟩) (fun r_1 u H locs hp hP hD hS => ?_)
  have hPD := PDm (ws' := (wd_X0_ripeFirst cI cC cZ cB cJ wY wJ wQ xH tX jE mX pD oO oQ eG bZ bD bI aI qA jC eO eW dO fJ fY jD nG)) hP hD 4 rfl rfl rfl
  have hP := hPD.1
  have hD := hPD.2
  refine lv_aload_n hx hb eX0_ripeFirst_0.2.2.1 rfl (lv_at hl 0 rfl) ?_
  refine va_get (D := (dC, dI)) (ci := 0) (v := .ref wJ) (C := RX0) (T := TX0) (N := 3) hx hb hts i_X0 hown hK hP 0 rfl rfl 0 (Nat.le_of_ble_eq_true rfl) (hts _ q_156) (fun _ h9 => h9) rfl eX0_ripeFirst_0.2.2.2.1 ?_
  refine lv_iload_n hx hb eX0_ripeFirst_0.2.2.2.2.1 rfl (lv_at hl 1 rfl) ?_
  have hm := mgk (wc := (wd_X3_ripeBy cI cC cZ cB cJ wJ tX jE mX pD oO oQ eG bZ bD bI aI qA)) hP mk_49 4 rfl rfl rfl
  refine g_calli hP hD hS hA (mixT mk_49) (mixF mk_49) hm.1 hm.2 (nd_F _) (dis_g _) (g_runV (As := [.int p0]) (rest := [.int r_1]) C0 hP hD hS (mixT mk_49) hm.1 (nd_T _) 1 3 rfl rfl (c_X3_ripeBy l dC dI cI cC cZ cB cJ wJ tX jE mX pD oO oQ eG H.size p0 bZ bD bI aI qA _ hp) q_343 q_346 q_344 q_345 q_48 h_X3_ripeBy rfl rfl ⟨Nat.le_of_ble_eq_true rfl, Nat.le_of_ble_eq_true rfl⟩ rfl rfl hl.1 rfl (lv_room (Nat.le_of_ble_eq_true rfl)) eX0_ripeFirst_0.2.2.2.2.2.1 ⟨Nat.zero_le _, Nat.zero_le _⟩) (fun r_2 u H locs hp hP hD hS => ?_)
  have hPD := PDm (ws' := (wd_X0_ripeFirst cI cC cZ cB cJ wY wJ wQ xH tX jE mX pD oO oQ eG bZ bD bI aI qA jC eO eW dO fJ fY jD nG)) hP hD 4 rfl rfl rfl
  have hP := hPD.1
  have hD := hPD.2
  refine lv_iand hx hb eX0_ripeFirst_0.2.2.2.2.2.2.1 ?_
  refine lv_topi (fun v_3 ev_3 => ?_)
  have hp := hp v_3 ev_3
  refine lv_istore_n (lv' := [(2, .int v_3), (0, .ref wY), (1, .int p0)]) hx hb eX0_ripeFirst_0.2.2.2.2.2.2.2.1 rfl hl (by decide) rfl (fun ls hl => ?_)
  refine lv_iload_n hx hb eX0_ripeFirst_0.2.2.2.2.2.2.2.2.1 rfl (lv_at hl 2 rfl) ?_
  refine lv_aload_n hx hb eX0_ripeFirst_0.2.2.2.2.2.2.2.2.2.1 rfl (lv_at hl 1 rfl) ?_
  refine va_get (D := (dC, dI)) (ci := 0) (v := .ref wQ) (C := RX0) (T := TX0) (N := 3) hx hb hts i_X0 hown hK hP 0 rfl rfl 1 (Nat.le_of_ble_eq_true rfl) (hts _ q_161) (fun _ h9 => h9) rfl eX0_ripeFirst_0.2.2.2.2.2.2.2.2.2.2.1 ?_
  refine va_get (D := (dC, dI)) (ci := 2) (v := .int jD) (C := RX2) (T := TX2) (N := 8) hx hb hts i_X2 hown hK hP 3 rfl rfl 6 (Nat.le_of_ble_eq_true rfl) (hts _ q_311) (fun _ h9 => h9) rfl eX0_ripeFirst_0.2.2.2.2.2.2.2.2.2.2.2.1 ?_
  refine lv_icmp_le (tgt := 42) hx hb eX0_ripeFirst_0.2.2.2.2.2.2.2.2.2.2.2.2.1 (by decide) (fun hc => ?_) (fun hc => ?_)
  · have hp := hp.1 hc
    refine lv_iload_n hx hb eX0_ripeFirst_30.2.2.2.2.2.2.2.2.1 rfl (lv_at hl 0 rfl) ?_
    exact W.iret (v := v_3) hx hb hr (fun t ht hW => ⟨⟨v_3, (), rfl, hp, by rw [ht]; exact hP, va_K.moved hW.alike hK, hD⟩, hS.F ht⟩) hS.2.2 eX0_ripeFirst_30.2.2.2.2.2.2.2.2.2
  · have hp := hp.2 hc
    refine lv_iload_n hx hb eX0_ripeFirst_0.2.2.2.2.2.2.2.2.2.2.2.2.2.1 rfl (lv_at hl 0 rfl) ?_
    refine lv_aload_n hx hb eX0_ripeFirst_0.2.2.2.2.2.2.2.2.2.2.2.2.2.2.1 rfl (lv_at hl 1 rfl) ?_
    refine va_get (D := (dC, dI)) (ci := 0) (v := .ref wJ) (C := RX0) (T := TX0) (N := 3) hx hb hts i_X0 hown hK hP 0 rfl rfl 0 (Nat.le_of_ble_eq_true rfl) (hts _ q_156) (fun _ h9 => h9) rfl eX0_ripeFirst_0.2.2.2.2.2.2.2.2.2.2.2.2.2.2.2 ?_
    refine lv_iload_n hx hb eX0_ripeFirst_30.1 rfl (lv_at hl 2 rfl) ?_
    refine lv_iconst (v := 1) hx hb eX0_ripeFirst_30.2.1 ic_1 ?_
    refine lv_isub hx hb eX0_ripeFirst_30.2.2.1 ?_
    refine lv_topi (fun v_4 ev_4 => ?_)
    have hp := hp v_4 ev_4
    have hm := mgk (wc := (wd_X3_ripeBy cI cC cZ cB cJ wJ tX jE mX pD oO oQ eG bZ bD bI aI qA)) hP mk_49 4 rfl rfl rfl
    refine g_calli hP hD hS hA (mixT mk_49) (mixF mk_49) hm.1 hm.2 (nd_F _) (dis_g _) (g_runV (As := [.int v_4]) (rest := [.int v_3]) C0 hP hD hS (mixT mk_49) hm.1 (nd_T _) 1 3 rfl rfl (c_X3_ripeBy l dC dI cI cC cZ cB cJ wJ tX jE mX pD oO oQ eG H.size v_4 bZ bD bI aI qA _ hp) q_343 q_346 q_344 q_345 q_48 h_X3_ripeBy rfl rfl ⟨Nat.le_of_ble_eq_true rfl, Nat.le_of_ble_eq_true rfl⟩ rfl rfl hl.1 rfl (lv_room (Nat.le_of_ble_eq_true rfl)) eX0_ripeFirst_30.2.2.2.1 ⟨Nat.zero_le _, Nat.zero_le _⟩) (fun r_5 u H locs hp hP hD hS => ?_)
    have hPD := PDm (ws' := (wd_X0_ripeFirst cI cC cZ cB cJ wY wJ wQ xH tX jE mX pD oO oQ eG bZ bD bI aI qA jC eO eW dO fJ fY jD nG)) hP hD 4 rfl rfl rfl
    have hP := hPD.1
    have hD := hPD.2
    refine lv_iconst (v := (-1)) hx hb eX0_ripeFirst_30.2.2.2.2.1 ic_m1 ?_
    refine lv_ixor hx hb eX0_ripeFirst_30.2.2.2.2.2.1 ?_
    refine lv_iand hx hb eX0_ripeFirst_30.2.2.2.2.2.2.1 ?_
    refine lv_topi (fun v_6 ev_6 => ?_)
    have hp := hp v_6 ev_6
    refine lv_goto (tgt := 43) hx hb eX0_ripeFirst_30.2.2.2.2.2.2.2.1 (by decide) ?_
    exact W.iret (v := v_6) hx hb hr (fun t ht hW => ⟨⟨v_6, (), rfl, hp, by rw [ht]; exact hP, va_K.moved hW.alike hK, hD⟩, hS.F ht⟩) hS.2.2 eX0_ripeFirst_30.2.2.2.2.2.2.2.2.2
noncomputable abbrev wd_X9_ripens (cI cC cZ cB cJ : ClassId) (a_x xG xD wY wJ wQ xI xK xJ tW uE qU uJ uL uI xH tX jE mX pD oO oQ eG qT : Nat) (oX rJ pN rP : Int32) (rX : Nat → Int32) (bZ bD bI aI : Int32) (wD gF qA nJ nY dQ : Nat → Int32) (jC eO eW dO fJ fY jD nG qF : Int32) (jJ : Nat → Int32) : va_W := [(a_x, .inr (9, [.ref xG, .ref xD, .ref wY, .ref wJ, .ref wQ, .ref xI, .ref xK, .ref xJ, .ref tW])), (xD, .inr (5, [.ref wY, .ref wJ, .ref uE, .ref qU, .ref uJ, .ref uL, .ref uI, .int oX, .int rJ, .int pN, .int rP])), (uE, .inl (cI, 8, .inl rX)), (wY, .inr (0, [.ref wJ, .ref wQ, .ref xH])), (wJ, .inr (3, [.ref tX, .ref jE, .ref mX, .ref pD, .ref oO, .ref oQ, .ref eG, .int bZ, .int bD, .int bI, .int aI])), (tX, .inl (cI, 16, .inl wD)), (jE, .inl (cI, 16, .inl gF)), (pD, .inl (cI, 16, .inl qA)), (oO, .inl (cI, 8, .inl nJ)), (oQ, .inl (cI, 8, .inl nY)), (eG, .inl (cI, 5, .inl dQ)), (wQ, .inr (2, [.int jC, .int eO, .int eW, .int dO, .int fJ, .int fY, .int jD, .int nG])), (xK, .inr (6, [.ref qT, .int qF])), (qT, .inl (cI, 16, .inl jJ))]
noncomputable abbrev q_X9_ripens (dC : Nat → ClassId) (dI : Nat → Nat → Nat) (cI cC cZ cB cJ : ClassId) (A : Nat → Prop) (a_x xG xD wY wJ wQ xI xK xJ tW uE qU uJ uL uI xH tX jE mX pD oO oQ eG qT : Nat) (rJ pN rP bZ bD bI aI : Int32) (wD gF qA nJ nY dQ : Nat → Int32) (jC eO eW dO fJ fY jD nG : Int32) (post : Int32 → Int32 → (Nat → Int32) → Int32 → (Nat → Int32) → Prop) : Array Value → State → Outcome → State → Prop := va_Qi (fun (r : Int32) (u : Int32 × (Nat → Int32) × Int32 × (Nat → Int32)) => post r u.1 u.2.1 u.2.2.1 u.2.2.2) (fun u t => gB (dC, dI) (tyl cI cC cZ cB cJ) A (wd_X9_ripens cI cC cZ cB cJ a_x xG xD wY wJ wQ xI xK xJ tW uE qU uJ uL uI xH tX jE mX pD oO oQ eG qT u.1 rJ pN rP u.2.1 bZ bD bI aI wD gF qA nJ nY dQ jC eO eW dO fJ fY jD nG u.2.2.1 u.2.2.2) t) A
noncomputable abbrev rm_X9_ripens : Room := { frames := 4, cells := 0, slots := 0, locals := 95 }
section S_X9_ripens
variable {p : Program} {l : Launch} {e : Env} {s : State} {m : MethodId} {args : Array Value} {below : List Frame} {meth : Method} {c : Code} {dC : Nat → ClassId} {dI : Nat → Nat → Nat} {cI cC cZ cB cJ : ClassId} {A : Nat → Prop} {a_x xG xD wY wJ wQ xI xK xJ tW uE qU uJ uL uI xH tX jE mX pD oO oQ eG qT : Nat} {rJ pN rP bZ bD bI aI : Int32} {wD gF qA nJ nY dQ : Nat → Int32} {jC eO eW dO fJ fY jD nG : Int32} {post : Int32 → Int32 → (Nat → Int32) → Int32 → (Nat → Int32) → Prop}
noncomputable def ws_X9_ripens_48 (post : Int32 → Int32 → (Nat → Int32) → Int32 → (Nat → Int32) → Prop) (K18 : Int32 → Int32 → Int32 → Int32 → (Nat → Int32) → Int32 → (Nat → Int32) → Prop) (bZ bD : Int32) (wD gF qA nJ nY dQ : Nat → Int32) (jC eO eW fY jD x1 x2 x3 oX : Int32) (rX : Nat → Int32) (qF : Int32) (jJ : Nat → Int32) : Prop := ∀ v_10 : Int32, v_10 = x3 + 1 → K18 x1 x2 v_10 oX rX qF jJ
set_option maxHeartbeats 4000000 in
set_option maxRecDepth 100000 in
theorem ks_X9_ripens_48 (C0 : gc cX9_ripens (some .int) 5 RX9 (dC, dI) (tyl cI cC cZ cB cJ) A p s m args meth c) {K18 : Int32 → Int32 → Int32 → Int32 → (Nat → Int32) → Int32 → (Nat → Int32) → Prop} (hK18 : ∀ (x1 : Int32) (x2 : Int32) (x3 : Int32) (oX : Int32) (rX : Nat → Int32) (qF : Int32) (jJ : Nat → Int32) (H : Heap) (locs : List Loc) (ls : Array Slot), K18 x1 x2 x3 oX rX qF jJ → va_P (dC, dI) classes (wd_X9_ripens cI cC cZ cB cJ a_x xG xD wY wJ wQ xI xK xJ tW uE qU uJ uL uI xH tX jE mX pD oO oQ eG qT oX rJ pN rP rX bZ bD bI aI wD gF qA nJ nY dQ jC eO eW dO fJ fY jD nG qF jJ) H → va_D A (wd_X9_ripens cI cC cZ cB cJ a_x xG xD wY wJ wQ xI xK xJ tW uE qU uJ uL uI xH tX jE mX pD oO oQ eG qT oX rJ pN rP rX bZ bD bI aI wD gF qA nJ nY dQ jC eO eW dO fJ fY jD nG qF jJ) → va_S A s.heap H locs → lv_has ls 5 [(0, .ref a_x), (1, .int x1), (2, .int x2), (3, .int x3)] → W p l e rm_X9_ripens s m args below meth c H locs 0 0 (MQ below (q_X9_ripens dC dI cI cC cZ cB cJ A a_x xG xD wY wJ wQ xI xK xJ tW uE qU uJ uL uI xH tX jE mX pD oO oQ eG qT rJ pN rP bZ bD bI aI wD gF qA nJ nY dQ jC eO eW dO fJ fY jD nG post) args s 0 0 A) (F0 m 18 ls [])) : ∀ (x1 x2 x3 oX : Int32) (rX : Nat → Int32) (qF : Int32) (jJ : Nat → Int32) (H : Heap) (locs : List Loc) (ls : Array Slot), (ws_X9_ripens_48 post K18 bZ bD wD gF qA nJ nY dQ jC eO eW fY jD) x1 x2 x3 oX rX qF jJ → va_P (dC, dI) classes (wd_X9_ripens cI cC cZ cB cJ a_x xG xD wY wJ wQ xI xK xJ tW uE qU uJ uL uI xH tX jE mX pD oO oQ eG qT oX rJ pN rP rX bZ bD bI aI wD gF qA nJ nY dQ jC eO eW dO fJ fY jD nG qF jJ) H → va_D A (wd_X9_ripens cI cC cZ cB cJ a_x xG xD wY wJ wQ xI xK xJ tW uE qU uJ uL uI xH tX jE mX pD oO oQ eG qT oX rJ pN rP rX bZ bD bI aI wD gF qA nJ nY dQ jC eO eW dO fJ fY jD nG qF jJ) → va_S A s.heap H locs → lv_has ls 5 [(0, .ref a_x), (1, .int x1), (2, .int x2), (3, .int x3)] → W p l e rm_X9_ripens s m args below meth c H locs 0 0 (MQ below (q_X9_ripens dC dI cI cC cZ cB cJ A a_x xG xD wY wJ wQ xI xK xJ tW uE qU uJ uL uI xH tX jE mX pD oO oQ eG qT rJ pN rP bZ bD bI aI wD gF qA nJ nY dQ jC eO eW dO fJ fY jD nG post) args s 0 0 A) (F0 m 48 ls []) := by
  obtain ⟨hx, hb, hr, hml, hown, hts, hlocks, hA, hK, hN, tL, tM, hZL, hTL, hZM, hTM, hZX⟩ := id C0
  intro x1 x2 x3 oX rX qF jJ H locs ls hp hP hD hS hl
  unfold ws_X9_ripens_48 at hp
  obtain ⟨v_10, ev_10⟩ : ∃ y : Int32, y = x3 + 1 := ⟨_, rfl⟩
  refine lv_iinc (v := v_10) (lv' := [(3, .int v_10), (0, .ref a_x), (1, .int x1), (2, .int x2)]) hx hb eX9_ripens_29.2.2.2.2.2.2.2.2.2.2.1 hl (k := 3) rfl (by rw [ev_10]; rfl) (by decide) rfl (fun ls hl => ?_)
  have hp := hp v_10 ev_10
  refine lv_goto (tgt := 18) hx hb eX9_ripens_29.2.2.2.2.2.2.2.2.2.2.2.1 (by decide) ?_
  exact hK18 x1 x2 v_10 oX rX qF jJ H locs ls hp hP hD hS (lv_sub hl [1, 2, 3, 0] rfl)
noncomputable def ws_X9_ripens_18 (post : Int32 → Int32 → (Nat → Int32) → Int32 → (Nat → Int32) → Prop) (next : Int32 → Int32 → Int32 → Int32 → (Nat → Int32) → Int32 → (Nat → Int32) → Prop) (bZ bD : Int32) (wD gF qA nJ nY dQ : Nat → Int32) (jC eO eW fY jD x1 x2 x3 oX : Int32) (rX : Nat → Int32) (qF : Int32) (jJ : Nat → Int32) : Prop := (9 < x3 → wp_X5_lookAs (fun xM xQ => wp_X3_allStandings (fun r_3 => wp_X5_smallestCover (fun r_4 => wp_J6_bitCount_0f7a4 (fun r_5 => wp_X9_tell_ (fun zW yO => post x2 xM xQ zW yO) x1 r_5 qF jJ) r_4) xM r_3 xQ bD) bD) fY 9 oX rX bZ bD wD gF qA nJ nY dQ jC eO eW) ∧ (¬ 9 < x3 → wp_X0_ripeFirst (fun r_8 => wp_J6_bitCount_0f7a4 (fun r_9 => (r_9 ≤ x2 → ws_X9_ripens_48 post next bZ bD wD gF qA nJ nY dQ jC eO eW fY jD x1 x2 x3 oX rX qF jJ) ∧ (¬ r_9 ≤ x2 → ws_X9_ripens_48 post next bZ bD wD gF qA nJ nY dQ jC eO eW fY jD x3 r_9 x3 oX rX qF jJ)) r_8) x3 bZ qA jC eO eW jD)
noncomputable def wb_X9_ripens_18 (post : Int32 → Int32 → (Nat → Int32) → Int32 → (Nat → Int32) → Prop) (bZ bD : Int32) (wD gF qA nJ nY dQ : Nat → Int32) (jC eO eW fY jD : Int32) : Nat → Int32 → Int32 → Int32 → Int32 → (Nat → Int32) → Int32 → (Nat → Int32) → Prop := fun n => Nat.rec (motive := fun _ => Int32 → Int32 → Int32 → Int32 → (Nat → Int32) → Int32 → (Nat → Int32) → Prop) (fun _ _ _ _ _ _ _ => False) (fun _ ih => ws_X9_ripens_18 post ih bZ bD wD gF qA nJ nY dQ jC eO eW fY jD) n
set_option maxHeartbeats 4000000 in
set_option maxRecDepth 100000 in
theorem ks_X9_ripens_18 (C0 : gc cX9_ripens (some .int) 5 RX9 (dC, dI) (tyl cI cC cZ cB cJ) A p s m args meth c) {next : Int32 → Int32 → Int32 → Int32 → (Nat → Int32) → Int32 → (Nat → Int32) → Prop} (hKn : ∀ (x1 : Int32) (x2 : Int32) (x3 : Int32) (oX : Int32) (rX : Nat → Int32) (qF : Int32) (jJ : Nat → Int32) (H : Heap) (locs : List Loc) (ls : Array Slot), next x1 x2 x3 oX rX qF jJ → va_P (dC, dI) classes (wd_X9_ripens cI cC cZ cB cJ a_x xG xD wY wJ wQ xI xK xJ tW uE qU uJ uL uI xH tX jE mX pD oO oQ eG qT oX rJ pN rP rX bZ bD bI aI wD gF qA nJ nY dQ jC eO eW dO fJ fY jD nG qF jJ) H → va_D A (wd_X9_ripens cI cC cZ cB cJ a_x xG xD wY wJ wQ xI xK xJ tW uE qU uJ uL uI xH tX jE mX pD oO oQ eG qT oX rJ pN rP rX bZ bD bI aI wD gF qA nJ nY dQ jC eO eW dO fJ fY jD nG qF jJ) → va_S A s.heap H locs → lv_has ls 5 [(0, .ref a_x), (1, .int x1), (2, .int x2), (3, .int x3)] → W p l e rm_X9_ripens s m args below meth c H locs 0 0 (MQ below (q_X9_ripens dC dI cI cC cZ cB cJ A a_x xG xD wY wJ wQ xI xK xJ tW uE qU uJ uL uI xH tX jE mX pD oO oQ eG qT rJ pN rP bZ bD bI aI wD gF qA nJ nY dQ jC eO eW dO fJ fY jD nG post) args s 0 0 A) (F0 m 18 ls [])) : ∀ (x1 x2 x3 oX : Int32) (rX : Nat → Int32) (qF : Int32) (jJ : Nat → Int32) (H : Heap) (locs : List Loc) (ls : Array Slot), (ws_X9_ripens_18 post next bZ bD wD gF qA nJ nY dQ jC eO eW fY jD) x1 x2 x3 oX rX qF jJ → va_P (dC, dI) classes (wd_X9_ripens cI cC cZ cB cJ a_x xG xD wY wJ wQ xI xK xJ tW uE qU uJ uL uI xH tX jE mX pD oO oQ eG qT oX rJ pN rP rX bZ bD bI aI wD gF qA nJ nY dQ jC eO eW dO fJ fY jD nG qF jJ) H → va_D A (wd_X9_ripens cI cC cZ cB cJ a_x xG xD wY wJ wQ xI xK xJ tW uE qU uJ uL uI xH tX jE mX pD oO oQ eG qT oX rJ pN rP rX bZ bD bI aI wD gF qA nJ nY dQ jC eO eW dO fJ fY jD nG qF jJ) → va_S A s.heap H locs → lv_has ls 5 [(0, .ref a_x), (1, .int x1), (2, .int x2), (3, .int x3)] → W p l e rm_X9_ripens s m args below meth c H locs 0 0 (MQ below (q_X9_ripens dC dI cI cC cZ cB cJ A a_x xG xD wY wJ wQ xI xK xJ tW uE qU uJ uL uI xH tX jE mX pD oO oQ eG qT rJ pN rP bZ bD bI aI wD gF qA nJ nY dQ jC eO eW dO fJ fY jD nG post) args s 0 0 A) (F0 m 18 ls []) := by
  obtain ⟨hx, hb, hr, hml, hown, hts, hlocks, hA, hK, hN, tL, tM, hZL, hTL, hZM, hTM, hZX⟩ := id C0
  intro x1 x2 x3 oX rX qF jJ H locs ls hp hP hD hS hl
  unfold ws_X9_ripens_18 at hp
  refine lv_iload_n hx hb eX9_ripens_0.2.2.2.2.2.2.2.2.2.2.1 rfl (lv_at hl 3 rfl) ?_
  refine lv_bipush (v := 9) hx hb eX9_ripens_0.2.2.2.2.2.2.2.2.2.2.2.1 bp_9 ?_
  refine lv_icmp_gt (tgt := 54) hx hb eX9_ripens_0.2.2.2.2.2.2.2.2.2.2.2.2.1 (by decide) (fun hc => ?_) (fun hc => ?_)
  · have hp := hp.1 hc
    refine lv_aload_n hx hb eX9_ripens_29.2.2.2.2.2.2.2.2.2.2.2.2.1 rfl (lv_at hl 0 rfl) ?_
    refine va_get (D := (dC, dI)) (ci := 9) (v := .ref xD) (C := RX9) (T := TX9) (N := 9) hx hb hts i_X9 hown hK hP 0 rfl rfl 1 (Nat.le_of_ble_eq_true rfl) (hts _ q_444) (fun _ h9 => h9) rfl eX9_ripens_29.2.2.2.2.2.2.2.2.2.2.2.2.2.1 ?_
    refine lv_aload_n hx hb eX9_ripens_29.2.2.2.2.2.2.2.2.2.2.2.2.2.2.1 rfl (lv_at hl 0 rfl) ?_
    refine va_get (D := (dC, dI)) (ci := 9) (v := .ref wQ) (C := RX9) (T := TX9) (N := 9) hx hb hts i_X9 hown hK hP 0 rfl rfl 4 (Nat.le_of_ble_eq_true rfl) (hts _ q_179) (fun _ h9 => h9) rfl eX9_ripens_29.2.2.2.2.2.2.2.2.2.2.2.2.2.2.2 ?_
    refine va_get (D := (dC, dI)) (ci := 2) (v := .int fY) (C := RX2) (T := TX2) (N := 8) hx hb hts i_X2 hown hK hP 11 rfl rfl 5 (Nat.le_of_ble_eq_true rfl) (hts _ q_414) (fun _ h9 => h9) rfl eX9_ripens_62.1 ?_
    refine lv_bipush (v := 9) hx hb eX9_ripens_62.2.1 bp_9 ?_
    have hm := mgk (wc := (wd_X5_lookAs cI cC cZ cB cJ xD wY wJ uE qU uJ uL uI wQ xH tX jE mX pD oO oQ eG oX rJ pN rP rX bZ bD bI aI wD gF qA nJ nY dQ jC eO eW dO fJ fY jD nG)) hP aA9 14 rfl rfl rfl
    refine g_callv hP hD hS hA (mixT aA9) (mixF aA9) hm.1 hm.2 (nd_F _) (dis_g _) (g_runV (As := [.int fY, .int 9]) (rest := []) C0 hP hD hS (mixT aA9) hm.1 (nd_T _) 1 5 rfl rfl (c_X5_lookAs l dC dI cI cC cZ cB cJ xD wY wJ uE qU uJ uL uI wQ xH tX jE mX pD oO oQ eG H.size fY 9 oX rJ pN rP rX bZ bD bI aI wD gF qA nJ nY dQ jC eO eW dO fJ fY jD nG _ hp) q_440 q_543 q_441 q_442 q_431 h_X5_lookAs rfl rfl ⟨Nat.le_of_ble_eq_true rfl, Nat.le_of_ble_eq_true rfl⟩ rfl rfl hl.1 rfl (lv_room (Nat.le_of_ble_eq_true rfl)) eX9_ripens_62.2.2.1 ⟨Nat.zero_le _, Nat.zero_le _⟩) (fun u H locs hp hP hD hS => ?_)
    obtain ⟨xM, xQ⟩ := u
    have hPD := PDm (ws' := (wd_X9_ripens cI cC cZ cB cJ a_x xG xD wY wJ wQ xI xK xJ tW uE qU uJ uL uI xH tX jE mX pD oO oQ eG qT xM rJ pN rP xQ bZ bD bI aI wD gF qA nJ nY dQ jC eO eW dO fJ fY jD nG qF jJ)) hP hD 14 rfl rfl rfl
    have hP := hPD.1
    have hD := hPD.2
    refine lv_aload_n hx hb eX9_ripens_62.2.2.2.1 rfl (lv_at hl 0 rfl) ?_
    refine lv_iload_n hx hb eX9_ripens_62.2.2.2.2.1 rfl (lv_at hl 1 rfl) ?_
    refine lv_aload_n hx hb eX9_ripens_62.2.2.2.2.2.1 rfl (lv_at hl 0 rfl) ?_
    refine va_get (D := (dC, dI)) (ci := 9) (v := .ref xD) (C := RX9) (T := TX9) (N := 9) hx hb hts i_X9 hown hK hP 0 rfl rfl 1 (Nat.le_of_ble_eq_true rfl) (hts _ q_444) (fun _ h9 => h9) rfl eX9_ripens_62.2.2.2.2.2.2.1 ?_
    refine lv_aload_n hx hb eX9_ripens_62.2.2.2.2.2.2.2.1 rfl (lv_at hl 0 rfl) ?_
    refine va_get (D := (dC, dI)) (ci := 9) (v := .ref xD) (C := RX9) (T := TX9) (N := 9) hx hb hts i_X9 hown hK hP 0 rfl rfl 1 (Nat.le_of_ble_eq_true rfl) (hts _ q_444) (fun _ h9 => h9) rfl eX9_ripens_62.2.2.2.2.2.2.2.2.1 ?_
    refine va_get (D := (dC, dI)) (ci := 5) (v := .int xM) (C := RX5) (T := TX5) (N := 11) hx hb hts i_X5 hown hK hP 1 rfl rfl 7 (Nat.le_of_ble_eq_true rfl) (hts _ q_462) (fun _ h9 => h9) rfl eX9_ripens_62.2.2.2.2.2.2.2.2.2.1 ?_
    refine lv_aload_n hx hb eX9_ripens_62.2.2.2.2.2.2.2.2.2.2.1 rfl (lv_at hl 0 rfl) ?_
    refine va_get (D := (dC, dI)) (ci := 9) (v := .ref wJ) (C := RX9) (T := TX9) (N := 9) hx hb hts i_X9 hown hK hP 0 rfl rfl 3 (Nat.le_of_ble_eq_true rfl) (hts _ q_74) (fun _ h9 => h9) rfl eX9_ripens_62.2.2.2.2.2.2.2.2.2.2.2.1 ?_
    have hm := mgk (wc := (wd_X3_allStandings cI cC cZ cB cJ wJ tX jE mX pD oO oQ eG bZ bD bI aI)) hP aAB 14 rfl rfl rfl
    refine g_calli hP hD hS hA (mixT aAB) (mixF aAB) hm.1 hm.2 (nd_F _) (dis_g _) (g_runV (As := []) (rest := [.int xM, .ref xD, .int x1, .ref a_x]) C0 hP hD hS (mixT aAB) hm.1 (nd_T _) 4 3 rfl rfl (c_X3_allStandings l dC dI cI cC cZ cB cJ wJ tX jE mX pD oO oQ eG H.size bZ bD bI aI _ hp) q_426 q_463 q_427 q_428 q_48 h_X3_allStandings rfl rfl ⟨Nat.le_of_ble_eq_true rfl, Nat.le_of_ble_eq_true rfl⟩ rfl rfl hl.1 rfl (lv_room (Nat.le_of_ble_eq_true rfl)) eX9_ripens_62.2.2.2.2.2.2.2.2.2.2.2.2.1 ⟨Nat.zero_le _, Nat.zero_le _⟩) (fun r_3 u H locs hp hP hD hS => ?_)
    have hPD := PDm (ws' := (wd_X9_ripens cI cC cZ cB cJ a_x xG xD wY wJ wQ xI xK xJ tW uE qU uJ uL uI xH tX jE mX pD oO oQ eG qT xM rJ pN rP xQ bZ bD bI aI wD gF qA nJ nY dQ jC eO eW dO fJ fY jD nG qF jJ)) hP hD 14 rfl rfl rfl
    have hP := hPD.1
    have hD := hPD.2
    have hm := mgk (wc := (wd_X5_smallestCover cI cC cZ cB cJ xD wY wJ uE qU uJ uL uI tX jE mX pD oO oQ eG xM rJ pN rP xQ bZ bD bI aI)) hP aBq 14 rfl rfl rfl
    refine g_calli hP hD hS hA (mixT aBq) (mixF aBq) hm.1 hm.2 (nd_F _) (dis_g _) (g_runV (As := [.int xM, .int r_3]) (rest := [.int x1, .ref a_x]) C0 hP hD hS (mixT aBq) hm.1 (nd_T _) 1 5 rfl rfl (c_X5_smallestCover l dC dI cI cC cZ cB cJ xD wY wJ uE qU uJ uL uI tX jE mX pD oO oQ eG H.size xM r_3 xM rJ pN rP xQ bZ bD bI aI _ hp) q_464 q_467 q_465 q_466 q_431 h_X5_smallestCover rfl rfl ⟨Nat.le_of_ble_eq_true rfl, Nat.le_of_ble_eq_true rfl⟩ rfl rfl hl.1 rfl (lv_room (Nat.le_of_ble_eq_true rfl)) eX9_ripens_62.2.2.2.2.2.2.2.2.2.2.2.2.2.1 ⟨Nat.zero_le _, Nat.zero_le _⟩) (fun r_4 u H locs hp hP hD hS => ?_)
    have hPD := PDm (ws' := (wd_X9_ripens cI cC cZ cB cJ a_x xG xD wY wJ wQ xI xK xJ tW uE qU uJ uL uI xH tX jE mX pD oO oQ eG qT xM rJ pN rP xQ bZ bD bI aI wD gF qA nJ nY dQ jC eO eW dO fJ fY jD nG qF jJ)) hP hD 14 rfl rfl rfl
    have hP := hPD.1
    have hD := hPD.2
    have hm := mgk (wc := (wd_J6_bitCount_0f7a4 cI cC cZ cB cJ)) hP aAy 14 rfl rfl rfl
    refine g_calli hP hD hS hA (mixT aAy) (mixF aAy) hm.1 hm.2 (nd_F _) (dis_g _) (g_runS (As := [.int r_4]) (rest := [.int x1, .ref a_x]) C0 hP hD hS (mixT aAy) hm.1 (nd_T _) (c_J6_bitCount_0f7a4 l dC dI cI cC cZ cB cJ H.size r_4 _ hp) q_320 q_474 q_322 q_321 h_J6_bitCount_0f7a4 rfl rfl ⟨Nat.le_of_ble_eq_true rfl, Nat.le_of_ble_eq_true rfl⟩ rfl rfl hl.1 rfl (lv_room (Nat.le_of_ble_eq_true rfl)) eX9_ripens_62.2.2.2.2.2.2.2.2.2.2.2.2.2.2.1 ⟨Nat.zero_le _, Nat.zero_le _⟩) (fun r_5 u H locs hp hP hD hS => ?_)
    have hPD := PDm (ws' := (wd_X9_ripens cI cC cZ cB cJ a_x xG xD wY wJ wQ xI xK xJ tW uE qU uJ uL uI xH tX jE mX pD oO oQ eG qT xM rJ pN rP xQ bZ bD bI aI wD gF qA nJ nY dQ jC eO eW dO fJ fY jD nG qF jJ)) hP hD 14 rfl rfl rfl
    have hP := hPD.1
    have hD := hPD.2
    have hm := mgk (wc := (wd_X9_tell_ cI cC cZ cB cJ a_x xG xD wY wJ wQ xI xK xJ tW qT qF jJ)) hP aBp 14 rfl rfl rfl
    refine g_callv hP hD hS hA (mixT aBp) (mixF aBp) hm.1 hm.2 (nd_F _) (dis_g _) (g_runV (As := [.int x1, .int r_5]) (rest := []) C0 hP hD hS (mixT aBp) hm.1 (nd_T _) 0 9 rfl rfl (c_X9_tell_ l dC dI cI cC cZ cB cJ a_x xG xD wY wJ wQ xI xK xJ tW qT H.size x1 r_5 qF jJ _ hp) q_377 q_380 q_378 q_379 q_256 h_X9_tell_ rfl rfl ⟨Nat.le_of_ble_eq_true rfl, Nat.le_of_ble_eq_true rfl⟩ rfl rfl hl.1 rfl (lv_room (Nat.le_of_ble_eq_true rfl)) eX9_ripens_62.2.2.2.2.2.2.2.2.2.2.2.2.2.2.2 ⟨Nat.zero_le _, Nat.zero_le _⟩) (fun u H locs hp hP hD hS => ?_)
    obtain ⟨zW, yO⟩ := u
    have hPD := PDm (ws' := (wd_X9_ripens cI cC cZ cB cJ a_x xG xD wY wJ wQ xI xK xJ tW uE qU uJ uL uI xH tX jE mX pD oO oQ eG qT xM rJ pN rP xQ bZ bD bI aI wD gF qA nJ nY dQ jC eO eW dO fJ fY jD nG zW yO)) hP hD 14 rfl rfl rfl
    have hP := hPD.1
    have hD := hPD.2
    refine lv_iload_n hx hb eX9_ripens_99.1 rfl (lv_at hl 2 rfl) ?_
    exact W.iret (v := x2) hx hb hr (fun t ht hW => ⟨⟨x2, (xM, xQ, zW, yO), rfl, hp, by rw [ht]; exact hP, va_K.moved hW.alike hK, hD⟩, hS.F ht⟩) hS.2.2 eX9_ripens_99.2
  · have hp := hp.2 hc
    refine lv_aload_n hx hb eX9_ripens_0.2.2.2.2.2.2.2.2.2.2.2.2.2.1 rfl (lv_at hl 0 rfl) ?_
    refine va_get (D := (dC, dI)) (ci := 9) (v := .ref wY) (C := RX9) (T := TX9) (N := 9) hx hb hts i_X9 hown hK hP 0 rfl rfl 2 (Nat.le_of_ble_eq_true rfl) (hts _ q_146) (fun _ h9 => h9) rfl eX9_ripens_0.2.2.2.2.2.2.2.2.2.2.2.2.2.2.1 ?_
    refine lv_iload_n hx hb eX9_ripens_0.2.2.2.2.2.2.2.2.2.2.2.2.2.2.2 rfl (lv_at hl 3 rfl) ?_
    have hm := mgk (wc := (wd_X0_ripeFirst cI cC cZ cB cJ wY wJ wQ xH tX jE mX pD oO oQ eG bZ bD bI aI qA jC eO eW dO fJ fY jD nG)) hP mk_181 14 rfl rfl rfl
    refine g_calli hP hD hS hA (mixT mk_181) (mixF mk_181) hm.1 hm.2 (nd_F _) (dis_g _) (g_runV (As := [.int x3]) (rest := []) C0 hP hD hS (mixT mk_181) hm.1 (nd_T _) 3 0 rfl rfl (c_X0_ripeFirst l dC dI cI cC cZ cB cJ wY wJ wQ xH tX jE mX pD oO oQ eG H.size x3 bZ bD bI aI qA jC eO eW dO fJ fY jD nG _ hp) q_584 q_587 q_585 q_586 q_187 h_X0_ripeFirst rfl rfl ⟨Nat.le_of_ble_eq_true rfl, Nat.le_of_ble_eq_true rfl⟩ rfl rfl hl.1 rfl (lv_room (Nat.le_of_ble_eq_true rfl)) eX9_ripens_29.1 ⟨Nat.zero_le _, Nat.zero_le _⟩) (fun r_8 u H locs hp hP hD hS => ?_)
    have hPD := PDm (ws' := (wd_X9_ripens cI cC cZ cB cJ a_x xG xD wY wJ wQ xI xK xJ tW uE qU uJ uL uI xH tX jE mX pD oO oQ eG qT oX rJ pN rP rX bZ bD bI aI wD gF qA nJ nY dQ jC eO eW dO fJ fY jD nG qF jJ)) hP hD 14 rfl rfl rfl
    have hP := hPD.1
    have hD := hPD.2
    have hm := mgk (wc := (wd_J6_bitCount_0f7a4 cI cC cZ cB cJ)) hP aAy 14 rfl rfl rfl
    refine g_calli hP hD hS hA (mixT aAy) (mixF aAy) hm.1 hm.2 (nd_F _) (dis_g _) (g_runS (As := [.int r_8]) (rest := []) C0 hP hD hS (mixT aAy) hm.1 (nd_T _) (c_J6_bitCount_0f7a4 l dC dI cI cC cZ cB cJ H.size r_8 _ hp) q_320 q_474 q_322 q_321 h_J6_bitCount_0f7a4 rfl rfl ⟨Nat.le_of_ble_eq_true rfl, Nat.le_of_ble_eq_true rfl⟩ rfl rfl hl.1 rfl (lv_room (Nat.le_of_ble_eq_true rfl)) eX9_ripens_29.2.1 ⟨Nat.zero_le _, Nat.zero_le _⟩) (fun r_9 u H locs hp hP hD hS => ?_)
    have hPD := PDm (ws' := (wd_X9_ripens cI cC cZ cB cJ a_x xG xD wY wJ wQ xI xK xJ tW uE qU uJ uL uI xH tX jE mX pD oO oQ eG qT oX rJ pN rP rX bZ bD bI aI wD gF qA nJ nY dQ jC eO eW dO fJ fY jD nG qF jJ)) hP hD 14 rfl rfl rfl
    have hP := hPD.1
    have hD := hPD.2
    refine lv_istore (lv' := [(4, .int r_9), (0, .ref a_x), (1, .int x1), (2, .int x2), (3, .int x3)]) hx hb eX9_ripens_29.2.2.1 hl (by decide) rfl (fun ls hl => ?_)
    refine lv_iload hx hb eX9_ripens_29.2.2.2.1 (lv_at hl 0 rfl) ?_
    refine lv_iload_n hx hb eX9_ripens_29.2.2.2.2.1 rfl (lv_at hl 3 rfl) ?_
    refine lv_icmp_le (tgt := 48) hx hb eX9_ripens_29.2.2.2.2.2.1 (by decide) (fun hc => ?_) (fun hc => ?_)
    · have hp := hp.1 hc
      exact ks_X9_ripens_48 C0 hKn x1 x2 x3 oX rX qF jJ H locs ls hp hP hD hS (lv_sub hl [1, 2, 3, 4] rfl)
    · have hp := hp.2 hc
      refine lv_iload_n hx hb eX9_ripens_29.2.2.2.2.2.2.1 rfl (lv_at hl 4 rfl) ?_
      refine lv_istore_n (lv' := [(1, .int x3), (4, .int r_9), (0, .ref a_x), (2, .int x2), (3, .int x3)]) hx hb eX9_ripens_29.2.2.2.2.2.2.2.1 rfl hl (by decide) rfl (fun ls hl => ?_)
      refine lv_iload hx hb eX9_ripens_29.2.2.2.2.2.2.2.2.1 (lv_at hl 1 rfl) ?_
      refine lv_istore_n (lv' := [(2, .int r_9), (1, .int x3), (4, .int r_9), (0, .ref a_x), (3, .int x3)]) hx hb eX9_ripens_29.2.2.2.2.2.2.2.2.2.1 rfl hl (by decide) rfl (fun ls hl => ?_)
      exact ks_X9_ripens_48 C0 hKn x3 r_9 x3 oX rX qF jJ H locs ls hp hP hD hS (lv_sub hl [3, 1, 0, 4] rfl)
set_option maxHeartbeats 4000000 in
set_option maxRecDepth 100000 in
theorem kb_X9_ripens_18 (C0 : gc cX9_ripens (some .int) 5 RX9 (dC, dI) (tyl cI cC cZ cB cJ) A p s m args meth c) : ∀ (n : Nat), ∀ (x1 x2 x3 oX : Int32) (rX : Nat → Int32) (qF : Int32) (jJ : Nat → Int32) (H : Heap) (locs : List Loc) (ls : Array Slot), (wb_X9_ripens_18 post bZ bD wD gF qA nJ nY dQ jC eO eW fY jD n) x1 x2 x3 oX rX qF jJ → va_P (dC, dI) classes (wd_X9_ripens cI cC cZ cB cJ a_x xG xD wY wJ wQ xI xK xJ tW uE qU uJ uL uI xH tX jE mX pD oO oQ eG qT oX rJ pN rP rX bZ bD bI aI wD gF qA nJ nY dQ jC eO eW dO fJ fY jD nG qF jJ) H → va_D A (wd_X9_ripens cI cC cZ cB cJ a_x xG xD wY wJ wQ xI xK xJ tW uE qU uJ uL uI xH tX jE mX pD oO oQ eG qT oX rJ pN rP rX bZ bD bI aI wD gF qA nJ nY dQ jC eO eW dO fJ fY jD nG qF jJ) → va_S A s.heap H locs → lv_has ls 5 [(0, .ref a_x), (1, .int x1), (2, .int x2), (3, .int x3)] → W p l e rm_X9_ripens s m args below meth c H locs 0 0 (MQ below (q_X9_ripens dC dI cI cC cZ cB cJ A a_x xG xD wY wJ wQ xI xK xJ tW uE qU uJ uL uI xH tX jE mX pD oO oQ eG qT rJ pN rP bZ bD bI aI wD gF qA nJ nY dQ jC eO eW dO fJ fY jD nG post) args s 0 0 A) (F0 m 18 ls []) := by
  intro n
  induction n with
  | zero =>
    intro x1 x2 x3 oX rX qF jJ H locs ls hp
    exact False.elim hp
  | succ n ih =>
    intro x1 x2 x3 oX rX qF jJ H locs ls hp
    exact ks_X9_ripens_18 C0 ih x1 x2 x3 oX rX qF jJ H locs ls hp
end S_X9_ripens
noncomputable def wp_X9_ripens (post : Int32 → Int32 → (Nat → Int32) → Int32 → (Nat → Int32) → Prop) (oX : Int32) (rX : Nat → Int32) (bZ bD : Int32) (wD gF qA nJ nY dQ : Nat → Int32) (jC eO eW fY jD qF : Int32) (jJ : Nat → Int32) : Prop := ∃ n : Nat, wb_X9_ripens_18 post bZ bD wD gF qA nJ nY dQ jC eO eW fY jD n jD 0 jD oX rX qF jJ
set_option maxHeartbeats 4000000 in
set_option maxRecDepth 100000 in
theorem c_X9_ripens (l : Launch) (dC : Nat → ClassId) (dI : Nat → Nat → Nat) (cI cC cZ cB cJ : ClassId) (a_x xG xD wY wJ wQ xI xK xJ tW uE qU uJ uL uI xH tX jE mX pD oO oQ eG qT sz : Nat) (oX rJ pN rP : Int32) (rX : Nat → Int32) (bZ bD bI aI : Int32) (wD gF qA nJ nY dQ : Nat → Int32) (jC eO eW dO fJ fY jD nG qF : Int32) (jJ : Nat → Int32) (post : Int32 → Int32 → (Nat → Int32) → Int32 → (Nat → Int32) → Prop) (hw : wp_X9_ripens post oX rX bZ bD wD gF qA nJ nY dQ jC eO eW fY jD qF jJ) : Met l yX9_ripens (gw yX9_ripens cX9_ripens 5 (some .int)) rm_X9_ripens (va_Pc [.ref a_x] (gPre (dC, dI) (tyl cI cC cZ cB cJ) (wd_X9_ripens cI cC cZ cB cJ a_x xG xD wY wJ wQ xI xK xJ tW uE qU uJ uL uI xH tX jE mX pD oO oQ eG qT oX rJ pN rP rX bZ bD bI aI wD gF qA nJ nY dQ jC eO eW dO fJ fY jD nG qF jJ) sz)) (q_X9_ripens dC dI cI cC cZ cB cJ (va_A (wd_X9_ripens cI cC cZ cB cJ a_x xG xD wY wJ wQ xI xK xJ tW uE qU uJ uL uI xH tX jE mX pD oO oQ eG qT oX rJ pN rP rX bZ bD bI aI wD gF qA nJ nY dQ jC eO eW dO fJ fY jD nG qF jJ) sz) a_x xG xD wY wJ wQ xI xK xJ tW uE qU uJ uL uI xH tX jE mX pD oO oQ eG qT rJ pN rP bZ bD bI aI wD gF qA nJ nY dQ jC eO eW dO fJ fY jD nG post) 0 0 (va_A (wd_X9_ripens cI cC cZ cB cJ a_x xG xD wY wJ wQ xI xK xJ tW uE qU uJ uL uI xH tX jE mX pD oO oQ eG qT oX rJ pN rP rX bZ bD bI aI wD gF qA nJ nY dQ jC eO eW dO fJ fY jD nG qF jJ) sz) := by
  refine g_enter (own := RX9) (dC, dI) (tyl cI cC cZ cB cJ) (wd_X9_ripens cI cC cZ cB cJ a_x xG xD wY wJ wQ xI xK xJ tW uE qU uJ uL uI xH tX jE mX pD oO oQ eG qT oX rJ pN rP rX bZ bD bI aI wD gF qA nJ nY dQ jC eO eW dO fJ fY jD nG qF jJ) sz [.ref a_x] (fun A => q_X9_ripens dC dI cI cC cZ cB cJ A a_x xG xD wY wJ wQ xI xK xJ tW uE qU uJ uL uI xH tX jE mX pD oO oQ eG qT rJ pN rP bZ bD bI aI wD gF qA nJ nY dQ jC eO eW dO fJ fY jD nG post) pn_RX9 rfl (Nat.le_of_ble_eq_true rfl) ?_
  intro p e s m args below meth c A H locs ls C0 hP hD hS hl
  have hl : lv_has ls 5 [(0, .ref a_x)] := hl
  obtain ⟨hx, hb, hr, hml, hown, hts, hlocks, hA, hK, hN, tL, tM, hZL, hTL, hZM, hTM, hZX⟩ := id C0
  have hp := hw
  unfold wp_X9_ripens at hp
  refine lv_aload_n hx hb eX9_ripens_0.1 rfl (lv_at hl 0 rfl) ?_
  refine va_get (D := (dC, dI)) (ci := 9) (v := .ref wQ) (C := RX9) (T := TX9) (N := 9) hx hb hts i_X9 hown hK hP 0 rfl rfl 4 (Nat.le_of_ble_eq_true rfl) (hts _ q_179) (fun _ h9 => h9) rfl eX9_ripens_0.2.1 ?_
  refine va_get (D := (dC, dI)) (ci := 2) (v := .int jD) (C := RX2) (T := TX2) (N := 8) hx hb hts i_X2 hown hK hP 11 rfl rfl 6 (Nat.le_of_ble_eq_true rfl) (hts _ q_542) (fun _ h9 => h9) rfl eX9_ripens_0.2.2.1 ?_
  refine lv_istore_n (lv' := [(1, .int jD), (0, .ref a_x)]) hx hb eX9_ripens_0.2.2.2.1 rfl hl (by decide) rfl (fun ls hl => ?_)
  refine lv_iconst (v := 0) hx hb eX9_ripens_0.2.2.2.2.1 ic_0 ?_
  refine lv_istore_n (lv' := [(2, .int 0), (1, .int jD), (0, .ref a_x)]) hx hb eX9_ripens_0.2.2.2.2.2.1 rfl hl (by decide) rfl (fun ls hl => ?_)
  refine lv_aload_n hx hb eX9_ripens_0.2.2.2.2.2.2.1 rfl (lv_at hl 2 rfl) ?_
  refine va_get (D := (dC, dI)) (ci := 9) (v := .ref wQ) (C := RX9) (T := TX9) (N := 9) hx hb hts i_X9 hown hK hP 0 rfl rfl 4 (Nat.le_of_ble_eq_true rfl) (hts _ q_179) (fun _ h9 => h9) rfl eX9_ripens_0.2.2.2.2.2.2.2.1 ?_
  refine va_get (D := (dC, dI)) (ci := 2) (v := .int jD) (C := RX2) (T := TX2) (N := 8) hx hb hts i_X2 hown hK hP 11 rfl rfl 6 (Nat.le_of_ble_eq_true rfl) (hts _ q_542) (fun _ h9 => h9) rfl eX9_ripens_0.2.2.2.2.2.2.2.2.1 ?_
  refine lv_istore_n (lv' := [(3, .int jD), (2, .int 0), (1, .int jD), (0, .ref a_x)]) hx hb eX9_ripens_0.2.2.2.2.2.2.2.2.2.1 rfl hl (by decide) rfl (fun ls hl => ?_)
  obtain ⟨n9, hp⟩ := hp
  exact kb_X9_ripens_18 C0 n9 jD 0 jD oX rX qF jJ H locs ls hp hP hD hS (lv_sub hl [3, 2, 1, 0] rfl)
noncomputable abbrev wd_X9_ondays (cI cC cZ cB cJ : ClassId) (a_x xG xD wY wJ wQ xI xK xJ tW uE qU uJ uL uI xH tX jE mX pD oO oQ eG qT : Nat) (oX rJ pN rP : Int32) (rX : Nat → Int32) (bZ bD bI aI : Int32) (wD gF qA nJ nY dQ : Nat → Int32) (jC eO eW dO fJ fY jD nG qF : Int32) (jJ : Nat → Int32) : va_W := [(a_x, .inr (9, [.ref xG, .ref xD, .ref wY, .ref wJ, .ref wQ, .ref xI, .ref xK, .ref xJ, .ref tW])), (xD, .inr (5, [.ref wY, .ref wJ, .ref uE, .ref qU, .ref uJ, .ref uL, .ref uI, .int oX, .int rJ, .int pN, .int rP])), (uE, .inl (cI, 8, .inl rX)), (wY, .inr (0, [.ref wJ, .ref wQ, .ref xH])), (wJ, .inr (3, [.ref tX, .ref jE, .ref mX, .ref pD, .ref oO, .ref oQ, .ref eG, .int bZ, .int bD, .int bI, .int aI])), (tX, .inl (cI, 16, .inl wD)), (jE, .inl (cI, 16, .inl gF)), (pD, .inl (cI, 16, .inl qA)), (oO, .inl (cI, 8, .inl nJ)), (oQ, .inl (cI, 8, .inl nY)), (eG, .inl (cI, 5, .inl dQ)), (wQ, .inr (2, [.int jC, .int eO, .int eW, .int dO, .int fJ, .int fY, .int jD, .int nG])), (xK, .inr (6, [.ref qT, .int qF])), (qT, .inl (cI, 16, .inl jJ))]
noncomputable abbrev q_X9_ondays (dC : Nat → ClassId) (dI : Nat → Nat → Nat) (cI cC cZ cB cJ : ClassId) (A : Nat → Prop) (a_x xG xD wY wJ wQ xI xK xJ tW uE qU uJ uL uI xH tX jE mX pD oO oQ eG qT : Nat) (rJ pN rP bZ bD bI aI : Int32) (wD gF qA nJ nY dQ : Nat → Int32) (jC eO eW dO fJ fY jD nG : Int32) (post : Int32 → Int32 → (Nat → Int32) → Int32 → (Nat → Int32) → Prop) : Array Value → State → Outcome → State → Prop := va_Qi (fun (r : Int32) (u : Int32 × (Nat → Int32) × Int32 × (Nat → Int32)) => post r u.1 u.2.1 u.2.2.1 u.2.2.2) (fun u t => gB (dC, dI) (tyl cI cC cZ cB cJ) A (wd_X9_ondays cI cC cZ cB cJ a_x xG xD wY wJ wQ xI xK xJ tW uE qU uJ uL uI xH tX jE mX pD oO oQ eG qT u.1 rJ pN rP u.2.1 bZ bD bI aI wD gF qA nJ nY dQ jC eO eW dO fJ fY jD nG u.2.2.1 u.2.2.2) t) A
noncomputable abbrev rm_X9_ondays : Room := { frames := 5, cells := 0, slots := 0, locals := 115 }
noncomputable def wp_X9_ondays (post : Int32 → Int32 → (Nat → Int32) → Int32 → (Nat → Int32) → Prop) (p0 oX : Int32) (rX : Nat → Int32) (bZ bD : Int32) (wD gF qA nJ nY dQ : Nat → Int32) (jC eO eW fY jD qF : Int32) (jJ : Nat → Int32) : Prop := (p0 < jD → post (-1) oX rX qF jJ) ∧ (¬ p0 < jD → (p0 ≤ 9 → wp_X5_look (fun xM xQ => wp_X0_ripeFirst (fun r_3 => wp_X3_allStandings (fun r_4 => wp_X5_reachedBy (fun r_5 => ∀ v_6 : Int32, v_6 = r_3 &&& r_5 → wp_X3_allStandings (fun r_7 => wp_X5_smallestCover (fun r_8 => wp_X9_tellMembers (fun r_9 aHN aCi => post r_9 xM xQ aHN aCi) r_8 qF jJ) v_6 r_7 xQ bD) bD) r_4 xQ bD) bD) p0 bZ qA jC eO eW jD) oX rX bZ bD wD gF qA nJ nY dQ jC eO eW fY jD) ∧ (¬ p0 ≤ 9 → post (-1) oX rX qF jJ))
set_option maxHeartbeats 4000000 in
set_option maxRecDepth 100000 in
theorem c_X9_ondays (l : Launch) (dC : Nat → ClassId) (dI : Nat → Nat → Nat) (cI cC cZ cB cJ : ClassId) (a_x xG xD wY wJ wQ xI xK xJ tW uE qU uJ uL uI xH tX jE mX pD oO oQ eG qT sz : Nat) (p0 oX rJ pN rP : Int32) (rX : Nat → Int32) (bZ bD bI aI : Int32) (wD gF qA nJ nY dQ : Nat → Int32) (jC eO eW dO fJ fY jD nG qF : Int32) (jJ : Nat → Int32) (post : Int32 → Int32 → (Nat → Int32) → Int32 → (Nat → Int32) → Prop) (hw : wp_X9_ondays post p0 oX rX bZ bD wD gF qA nJ nY dQ jC eO eW fY jD qF jJ) : Met l yX9_ondays (gw yX9_ondays cX9_ondays 3 (some .int)) rm_X9_ondays (va_Pc [.ref a_x, .int p0] (gPre (dC, dI) (tyl cI cC cZ cB cJ) (wd_X9_ondays cI cC cZ cB cJ a_x xG xD wY wJ wQ xI xK xJ tW uE qU uJ uL uI xH tX jE mX pD oO oQ eG qT oX rJ pN rP rX bZ bD bI aI wD gF qA nJ nY dQ jC eO eW dO fJ fY jD nG qF jJ) sz)) (q_X9_ondays dC dI cI cC cZ cB cJ (va_A (wd_X9_ondays cI cC cZ cB cJ a_x xG xD wY wJ wQ xI xK xJ tW uE qU uJ uL uI xH tX jE mX pD oO oQ eG qT oX rJ pN rP rX bZ bD bI aI wD gF qA nJ nY dQ jC eO eW dO fJ fY jD nG qF jJ) sz) a_x xG xD wY wJ wQ xI xK xJ tW uE qU uJ uL uI xH tX jE mX pD oO oQ eG qT rJ pN rP bZ bD bI aI wD gF qA nJ nY dQ jC eO eW dO fJ fY jD nG post) 0 0 (va_A (wd_X9_ondays cI cC cZ cB cJ a_x xG xD wY wJ wQ xI xK xJ tW uE qU uJ uL uI xH tX jE mX pD oO oQ eG qT oX rJ pN rP rX bZ bD bI aI wD gF qA nJ nY dQ jC eO eW dO fJ fY jD nG qF jJ) sz) := by
  refine g_enter (own := RX9) (dC, dI) (tyl cI cC cZ cB cJ) (wd_X9_ondays cI cC cZ cB cJ a_x xG xD wY wJ wQ xI xK xJ tW uE qU uJ uL uI xH tX jE mX pD oO oQ eG qT oX rJ pN rP rX bZ bD bI aI wD gF qA nJ nY dQ jC eO eW dO fJ fY jD nG qF jJ) sz [.ref a_x, .int p0] (fun A => q_X9_ondays dC dI cI cC cZ cB cJ A a_x xG xD wY wJ wQ xI xK xJ tW uE qU uJ uL uI xH tX jE mX pD oO oQ eG qT rJ pN rP bZ bD bI aI wD gF qA nJ nY dQ jC eO eW dO fJ fY jD nG post) pn_RX9 rfl (Nat.le_of_ble_eq_true rfl) ?_
  intro p e s m args below meth c A H locs ls C0 hP hD hS hl
  have hl : lv_has ls 3 [(0, .ref a_x), (1, .int p0)] := hl
  obtain ⟨hx, hb, hr, hml, hown, hts, hlocks, hA, hK, hN, tL, tM, hZL, hTL, hZM, hTM, hZX⟩ := id C0
  have hp := hw
  unfold wp_X9_ondays at hp
  refine lv_iload_n hx hb eX9_ondays_0.1 rfl (lv_at hl 1 rfl) ?_
  refine lv_aload_n hx hb eX9_ondays_0.2.1 rfl (lv_at hl 0 rfl) ?_
  refine va_get (D := (dC, dI)) (ci := 9) (v := .ref wQ) (C := RX9) (T := TX9) (N := 9) hx hb hts i_X9 hown hK hP 0 rfl rfl 4 (Nat.le_of_ble_eq_true rfl) (hts _ q_179) (fun _ h9 => h9) rfl eX9_ondays_0.2.2.1 ?_
  refine va_get (D := (dC, dI)) (ci := 2) (v := .int jD) (C := RX2) (T := TX2) (N := 8) hx hb hts i_X2 hown hK hP 11 rfl rfl 6 (Nat.le_of_ble_eq_true rfl) (hts _ q_542) (fun _ h9 => h9) rfl eX9_ondays_0.2.2.2.1 ?_
  refine lv_icmp_lt (tgt := 17) hx hb eX9_ondays_0.2.2.2.2.1 (by decide) (fun hc => ?_) (fun hc => ?_)
  · have hp := hp.1 hc
    refine lv_iconst (v := (-1)) hx hb eX9_ondays_0.2.2.2.2.2.2.2.2.1 ic_m1 ?_
    exact W.iret (v := (-1)) hx hb hr (fun t ht hW => ⟨⟨(-1), (oX, rX, qF, jJ), rfl, hp, by rw [ht]; exact hP, va_K.moved hW.alike hK, hD⟩, hS.F ht⟩) hS.2.2 eX9_ondays_0.2.2.2.2.2.2.2.2.2.1
  · have hp := hp.2 hc
    refine lv_iload_n hx hb eX9_ondays_0.2.2.2.2.2.1 rfl (lv_at hl 1 rfl) ?_
    refine lv_bipush (v := 9) hx hb eX9_ondays_0.2.2.2.2.2.2.1 bp_9 ?_
    refine lv_icmp_le (tgt := 19) hx hb eX9_ondays_0.2.2.2.2.2.2.2.1 (by decide) (fun hc => ?_) (fun hc => ?_)
    · have hp := hp.1 hc
      refine lv_aload_n hx hb eX9_ondays_0.2.2.2.2.2.2.2.2.2.2.1 rfl (lv_at hl 0 rfl) ?_
      refine va_get (D := (dC, dI)) (ci := 9) (v := .ref xD) (C := RX9) (T := TX9) (N := 9) hx hb hts i_X9 hown hK hP 0 rfl rfl 1 (Nat.le_of_ble_eq_true rfl) (hts _ q_444) (fun _ h9 => h9) rfl eX9_ondays_0.2.2.2.2.2.2.2.2.2.2.2.1 ?_
      have hm := mgk (wc := (wd_X5_look cI cC cZ cB cJ xD wY wJ uE qU uJ uL uI wQ xH tX jE mX pD oO oQ eG oX rJ pN rP rX bZ bD bI aI wD gF qA nJ nY dQ jC eO eW dO fJ fY jD nG)) hP aA9 14 rfl rfl rfl
      refine g_callv hP hD hS hA (mixT aA9) (mixF aA9) hm.1 hm.2 (nd_F _) (dis_g _) (g_runV (As := []) (rest := []) C0 hP hD hS (mixT aA9) hm.1 (nd_T _) 1 5 rfl rfl (c_X5_look l dC dI cI cC cZ cB cJ xD wY wJ uE qU uJ uL uI wQ xH tX jE mX pD oO oQ eG H.size oX rJ pN rP rX bZ bD bI aI wD gF qA nJ nY dQ jC eO eW dO fJ fY jD nG _ hp) q_445 q_448 q_446 q_447 q_431 h_X5_look rfl rfl ⟨Nat.le_of_ble_eq_true rfl, Nat.le_of_ble_eq_true rfl⟩ rfl rfl hl.1 rfl (lv_room (Nat.le_of_ble_eq_true rfl)) eX9_ondays_0.2.2.2.2.2.2.2.2.2.2.2.2.1 ⟨Nat.zero_le _, Nat.zero_le _⟩) (fun u H locs hp hP hD hS => ?_)
      obtain ⟨xM, xQ⟩ := u
      have hPD := PDm (ws' := (wd_X9_ondays cI cC cZ cB cJ a_x xG xD wY wJ wQ xI xK xJ tW uE qU uJ uL uI xH tX jE mX pD oO oQ eG qT xM rJ pN rP xQ bZ bD bI aI wD gF qA nJ nY dQ jC eO eW dO fJ fY jD nG qF jJ)) hP hD 14 rfl rfl rfl
      have hP := hPD.1
      have hD := hPD.2
      refine lv_aload_n hx hb eX9_ondays_0.2.2.2.2.2.2.2.2.2.2.2.2.2.1 rfl (lv_at hl 0 rfl) ?_
      refine va_get (D := (dC, dI)) (ci := 9) (v := .ref wY) (C := RX9) (T := TX9) (N := 9) hx hb hts i_X9 hown hK hP 0 rfl rfl 2 (Nat.le_of_ble_eq_true rfl) (hts _ q_146) (fun _ h9 => h9) rfl eX9_ondays_0.2.2.2.2.2.2.2.2.2.2.2.2.2.2.1 ?_
      refine lv_iload_n hx hb eX9_ondays_0.2.2.2.2.2.2.2.2.2.2.2.2.2.2.2 rfl (lv_at hl 1 rfl) ?_
      have hm := mgk (wc := (wd_X0_ripeFirst cI cC cZ cB cJ wY wJ wQ xH tX jE mX pD oO oQ eG bZ bD bI aI qA jC eO eW dO fJ fY jD nG)) hP mk_181 14 rfl rfl rfl
      refine g_calli hP hD hS hA (mixT mk_181) (mixF mk_181) hm.1 hm.2 (nd_F _) (dis_g _) (g_runV (As := [.int p0]) (rest := []) C0 hP hD hS (mixT mk_181) hm.1 (nd_T _) 3 0 rfl rfl (c_X0_ripeFirst l dC dI cI cC cZ cB cJ wY wJ wQ xH tX jE mX pD oO oQ eG H.size p0 bZ bD bI aI qA jC eO eW dO fJ fY jD nG _ hp) q_584 q_587 q_585 q_586 q_187 h_X0_ripeFirst rfl rfl ⟨Nat.le_of_ble_eq_true rfl, Nat.le_of_ble_eq_true rfl⟩ rfl rfl hl.1 rfl (lv_room (Nat.le_of_ble_eq_true rfl)) eX9_ondays_31.1 ⟨Nat.zero_le _, Nat.zero_le _⟩) (fun r_3 u H locs hp hP hD hS => ?_)
      have hPD := PDm (ws' := (wd_X9_ondays cI cC cZ cB cJ a_x xG xD wY wJ wQ xI xK xJ tW uE qU uJ uL uI xH tX jE mX pD oO oQ eG qT xM rJ pN rP xQ bZ bD bI aI wD gF qA nJ nY dQ jC eO eW dO fJ fY jD nG qF jJ)) hP hD 14 rfl rfl rfl
      have hP := hPD.1
      have hD := hPD.2
      refine lv_aload_n hx hb eX9_ondays_31.2.1 rfl (lv_at hl 0 rfl) ?_
      refine va_get (D := (dC, dI)) (ci := 9) (v := .ref xD) (C := RX9) (T := TX9) (N := 9) hx hb hts i_X9 hown hK hP 0 rfl rfl 1 (Nat.le_of_ble_eq_true rfl) (hts _ q_444) (fun _ h9 => h9) rfl eX9_ondays_31.2.2.1 ?_
      refine lv_aload_n hx hb eX9_ondays_31.2.2.2.1 rfl (lv_at hl 0 rfl) ?_
      refine va_get (D := (dC, dI)) (ci := 9) (v := .ref wJ) (C := RX9) (T := TX9) (N := 9) hx hb hts i_X9 hown hK hP 0 rfl rfl 3 (Nat.le_of_ble_eq_true rfl) (hts _ q_74) (fun _ h9 => h9) rfl eX9_ondays_31.2.2.2.2.1 ?_
      have hm := mgk (wc := (wd_X3_allStandings cI cC cZ cB cJ wJ tX jE mX pD oO oQ eG bZ bD bI aI)) hP aAB 14 rfl rfl rfl
      refine g_calli hP hD hS hA (mixT aAB) (mixF aAB) hm.1 hm.2 (nd_F _) (dis_g _) (g_runV (As := []) (rest := [.ref xD, .int r_3]) C0 hP hD hS (mixT aAB) hm.1 (nd_T _) 4 3 rfl rfl (c_X3_allStandings l dC dI cI cC cZ cB cJ wJ tX jE mX pD oO oQ eG H.size bZ bD bI aI _ hp) q_426 q_463 q_427 q_428 q_48 h_X3_allStandings rfl rfl ⟨Nat.le_of_ble_eq_true rfl, Nat.le_of_ble_eq_true rfl⟩ rfl rfl hl.1 rfl (lv_room (Nat.le_of_ble_eq_true rfl)) eX9_ondays_31.2.2.2.2.2.1 ⟨Nat.zero_le _, Nat.zero_le _⟩) (fun r_4 u H locs hp hP hD hS => ?_)
      have hPD := PDm (ws' := (wd_X9_ondays cI cC cZ cB cJ a_x xG xD wY wJ wQ xI xK xJ tW uE qU uJ uL uI xH tX jE mX pD oO oQ eG qT xM rJ pN rP xQ bZ bD bI aI wD gF qA nJ nY dQ jC eO eW dO fJ fY jD nG qF jJ)) hP hD 14 rfl rfl rfl
      have hP := hPD.1
      have hD := hPD.2
      have hm := mgk (wc := (wd_X5_reachedBy cI cC cZ cB cJ xD wY wJ uE qU uJ uL uI tX jE mX pD oO oQ eG xM rJ pN rP xQ bZ bD bI aI)) hP aBq 14 rfl rfl rfl
      refine g_calli hP hD hS hA (mixT aBq) (mixF aBq) hm.1 hm.2 (nd_F _) (dis_g _) (g_runV (As := [.int r_4]) (rest := [.int r_3]) C0 hP hD hS (mixT aBq) hm.1 (nd_T _) 1 5 rfl rfl (c_X5_reachedBy l dC dI cI cC cZ cB cJ xD wY wJ uE qU uJ uL uI tX jE mX pD oO oQ eG H.size r_4 xM rJ pN rP xQ bZ bD bI aI _ hp) q_430 q_472 q_432 q_433 q_431 h_X5_reachedBy rfl rfl ⟨Nat.le_of_ble_eq_true rfl, Nat.le_of_ble_eq_true rfl⟩ rfl rfl hl.1 rfl (lv_room (Nat.le_of_ble_eq_true rfl)) eX9_ondays_31.2.2.2.2.2.2.1 ⟨Nat.zero_le _, Nat.zero_le _⟩) (fun r_5 u H locs hp hP hD hS => ?_)
      have hPD := PDm (ws' := (wd_X9_ondays cI cC cZ cB cJ a_x xG xD wY wJ wQ xI xK xJ tW uE qU uJ uL uI xH tX jE mX pD oO oQ eG qT xM rJ pN rP xQ bZ bD bI aI wD gF qA nJ nY dQ jC eO eW dO fJ fY jD nG qF jJ)) hP hD 14 rfl rfl rfl
      have hP := hPD.1
      have hD := hPD.2
      refine lv_iand hx hb eX9_ondays_31.2.2.2.2.2.2.2.1 ?_
      refine lv_topi (fun v_6 ev_6 => ?_)
      have hp := hp v_6 ev_6
      refine lv_istore_n (lv' := [(2, .int v_6), (0, .ref a_x), (1, .int p0)]) hx hb eX9_ondays_31.2.2.2.2.2.2.2.2.1 rfl hl (by decide) rfl (fun ls hl => ?_)
      refine lv_aload_n hx hb eX9_ondays_31.2.2.2.2.2.2.2.2.2.1 rfl (lv_at hl 1 rfl) ?_
      refine lv_aload_n hx hb eX9_ondays_31.2.2.2.2.2.2.2.2.2.2.1 rfl (lv_at hl 1 rfl) ?_
      refine va_get (D := (dC, dI)) (ci := 9) (v := .ref xD) (C := RX9) (T := TX9) (N := 9) hx hb hts i_X9 hown hK hP 0 rfl rfl 1 (Nat.le_of_ble_eq_true rfl) (hts _ q_444) (fun _ h9 => h9) rfl eX9_ondays_31.2.2.2.2.2.2.2.2.2.2.2.1 ?_
      refine lv_iload_n hx hb eX9_ondays_31.2.2.2.2.2.2.2.2.2.2.2.2.1 rfl (lv_at hl 0 rfl) ?_
      refine lv_aload_n hx hb eX9_ondays_31.2.2.2.2.2.2.2.2.2.2.2.2.2.1 rfl (lv_at hl 1 rfl) ?_
      refine va_get (D := (dC, dI)) (ci := 9) (v := .ref wJ) (C := RX9) (T := TX9) (N := 9) hx hb hts i_X9 hown hK hP 0 rfl rfl 3 (Nat.le_of_ble_eq_true rfl) (hts _ q_74) (fun _ h9 => h9) rfl eX9_ondays_31.2.2.2.2.2.2.2.2.2.2.2.2.2.2.1 ?_
      have hm := mgk (wc := (wd_X3_allStandings cI cC cZ cB cJ wJ tX jE mX pD oO oQ eG bZ bD bI aI)) hP aAB 14 rfl rfl rfl
      refine g_calli hP hD hS hA (mixT aAB) (mixF aAB) hm.1 hm.2 (nd_F _) (dis_g _) (g_runV (As := []) (rest := [.int v_6, .ref xD, .ref a_x]) C0 hP hD hS (mixT aAB) hm.1 (nd_T _) 4 3 rfl rfl (c_X3_allStandings l dC dI cI cC cZ cB cJ wJ tX jE mX pD oO oQ eG H.size bZ bD bI aI _ hp) q_426 q_463 q_427 q_428 q_48 h_X3_allStandings rfl rfl ⟨Nat.le_of_ble_eq_true rfl, Nat.le_of_ble_eq_true rfl⟩ rfl rfl hl.1 rfl (lv_room (Nat.le_of_ble_eq_true rfl)) eX9_ondays_31.2.2.2.2.2.2.2.2.2.2.2.2.2.2.2 ⟨Nat.zero_le _, Nat.zero_le _⟩) (fun r_7 u H locs hp hP hD hS => ?_)
      have hPD := PDm (ws' := (wd_X9_ondays cI cC cZ cB cJ a_x xG xD wY wJ wQ xI xK xJ tW uE qU uJ uL uI xH tX jE mX pD oO oQ eG qT xM rJ pN rP xQ bZ bD bI aI wD gF qA nJ nY dQ jC eO eW dO fJ fY jD nG qF jJ)) hP hD 14 rfl rfl rfl
      have hP := hPD.1
      have hD := hPD.2
      have hm := mgk (wc := (wd_X5_smallestCover cI cC cZ cB cJ xD wY wJ uE qU uJ uL uI tX jE mX pD oO oQ eG xM rJ pN rP xQ bZ bD bI aI)) hP aBq 14 rfl rfl rfl
      refine g_calli hP hD hS hA (mixT aBq) (mixF aBq) hm.1 hm.2 (nd_F _) (dis_g _) (g_runV (As := [.int v_6, .int r_7]) (rest := [.ref a_x]) C0 hP hD hS (mixT aBq) hm.1 (nd_T _) 1 5 rfl rfl (c_X5_smallestCover l dC dI cI cC cZ cB cJ xD wY wJ uE qU uJ uL uI tX jE mX pD oO oQ eG H.size v_6 r_7 xM rJ pN rP xQ bZ bD bI aI _ hp) q_464 q_467 q_465 q_466 q_431 h_X5_smallestCover rfl rfl ⟨Nat.le_of_ble_eq_true rfl, Nat.le_of_ble_eq_true rfl⟩ rfl rfl hl.1 rfl (lv_room (Nat.le_of_ble_eq_true rfl)) eX9_ondays_63.1 ⟨Nat.zero_le _, Nat.zero_le _⟩) (fun r_8 u H locs hp hP hD hS => ?_)
      have hPD := PDm (ws' := (wd_X9_ondays cI cC cZ cB cJ a_x xG xD wY wJ wQ xI xK xJ tW uE qU uJ uL uI xH tX jE mX pD oO oQ eG qT xM rJ pN rP xQ bZ bD bI aI wD gF qA nJ nY dQ jC eO eW dO fJ fY jD nG qF jJ)) hP hD 14 rfl rfl rfl
      have hP := hPD.1
      have hD := hPD.2
      have hm := mgk (wc := (wd_X9_tellMembers cI cC cZ cB cJ a_x xG xD wY wJ wQ xI xK xJ tW qT qF jJ)) hP aBp 14 rfl rfl rfl
      refine g_calli hP hD hS hA (mixT aBp) (mixF aBp) hm.1 hm.2 (nd_F _) (dis_g _) (g_runV (As := [.int r_8]) (rest := []) C0 hP hD hS (mixT aBp) hm.1 (nd_T _) 0 9 rfl rfl (c_X9_tellMembers l dC dI cI cC cZ cB cJ a_x xG xD wY wJ wQ xI xK xJ tW qT H.size r_8 qF jJ _ hp) q_468 q_471 q_469 q_470 q_256 h_X9_tellMembers rfl rfl ⟨Nat.le_of_ble_eq_true rfl, Nat.le_of_ble_eq_true rfl⟩ rfl rfl hl.1 rfl (lv_room (Nat.le_of_ble_eq_true rfl)) eX9_ondays_63.2.1 ⟨Nat.zero_le _, Nat.zero_le _⟩) (fun r_9 u H locs hp hP hD hS => ?_)
      obtain ⟨aHN, aCi⟩ := u
      have hPD := PDm (ws' := (wd_X9_ondays cI cC cZ cB cJ a_x xG xD wY wJ wQ xI xK xJ tW uE qU uJ uL uI xH tX jE mX pD oO oQ eG qT xM rJ pN rP xQ bZ bD bI aI wD gF qA nJ nY dQ jC eO eW dO fJ fY jD nG aHN aCi)) hP hD 14 rfl rfl rfl
      have hP := hPD.1
      have hD := hPD.2
      exact W.iret (v := r_9) hx hb hr (fun t ht hW => ⟨⟨r_9, (xM, xQ, aHN, aCi), rfl, hp, by rw [ht]; exact hP, va_K.moved hW.alike hK, hD⟩, hS.F ht⟩) hS.2.2 eX9_ondays_63.2.2
    · have hp := hp.2 hc
      refine lv_iconst (v := (-1)) hx hb eX9_ondays_0.2.2.2.2.2.2.2.2.1 ic_m1 ?_
      exact W.iret (v := (-1)) hx hb hr (fun t ht hW => ⟨⟨(-1), (oX, rX, qF, jJ), rfl, hp, by rw [ht]; exact hP, va_K.moved hW.alike hK, hD⟩, hS.F ht⟩) hS.2.2 eX9_ondays_0.2.2.2.2.2.2.2.2.2.1
noncomputable abbrev wd_X9_allripe (cI cC cZ cB cJ : ClassId) (a_x xG xD wY wJ wQ xI xK xJ tW xH tX jE mX pD oO oQ eG qT : Nat) (bZ bD bI aI : Int32) (pE qA : Nat → Int32) (jC eO eW dO fJ fY jD nG qF : Int32) (jJ : Nat → Int32) : va_W := [(a_x, .inr (9, [.ref xG, .ref xD, .ref wY, .ref wJ, .ref wQ, .ref xI, .ref xK, .ref xJ, .ref tW])), (wY, .inr (0, [.ref wJ, .ref wQ, .ref xH])), (wJ, .inr (3, [.ref tX, .ref jE, .ref mX, .ref pD, .ref oO, .ref oQ, .ref eG, .int bZ, .int bD, .int bI, .int aI])), (mX, .inl (cI, 16, .inl pE)), (pD, .inl (cI, 16, .inl qA)), (wQ, .inr (2, [.int jC, .int eO, .int eW, .int dO, .int fJ, .int fY, .int jD, .int nG])), (xK, .inr (6, [.ref qT, .int qF])), (qT, .inl (cI, 16, .inl jJ))]
noncomputable abbrev q_X9_allripe (dC : Nat → ClassId) (dI : Nat → Nat → Nat) (cI cC cZ cB cJ : ClassId) (A : Nat → Prop) (a_x xG xD wY wJ wQ xI xK xJ tW xH tX jE mX pD oO oQ eG qT : Nat) (bZ bD bI aI : Int32) (pE qA : Nat → Int32) (jC eO eW dO fJ fY jD nG : Int32) (post : Int32 → Int32 → (Nat → Int32) → Prop) : Array Value → State → Outcome → State → Prop := va_Qi (fun (r : Int32) (u : Int32 × (Nat → Int32)) => post r u.1 u.2) (fun u t => gB (dC, dI) (tyl cI cC cZ cB cJ) A (wd_X9_allripe cI cC cZ cB cJ a_x xG xD wY wJ wQ xI xK xJ tW xH tX jE mX pD oO oQ eG qT bZ bD bI aI pE qA jC eO eW dO fJ fY jD nG u.1 u.2) t) A
noncomputable abbrev rm_X9_allripe : Room := { frames := 3, cells := 0, slots := 0, locals := 64 }
section S_X9_allripe
variable {p : Program} {l : Launch} {e : Env} {s : State} {m : MethodId} {args : Array Value} {below : List Frame} {meth : Method} {c : Code} {dC : Nat → ClassId} {dI : Nat → Nat → Nat} {cI cC cZ cB cJ : ClassId} {A : Nat → Prop} {a_x xG xD wY wJ wQ xI xK xJ tW xH tX jE mX pD oO oQ eG qT : Nat} {bZ bD bI aI : Int32} {pE qA : Nat → Int32} {jC eO eW dO fJ fY jD nG : Int32} {post : Int32 → Int32 → (Nat → Int32) → Prop}
noncomputable def ws_X9_allripe_62 (post : Int32 → Int32 → (Nat → Int32) → Prop) (bZ : Int32) (pE qA : Nat → Int32) (jC eO eW dO jD x2 x3 qF : Int32) (jJ : Nat → Int32) : Prop := wp_J6_bitCount_0f7a4 (fun r_4 => wp_X0_worthOf (fun r_5 => wp_X9_tell_ (fun zW yO => post x3 zW yO) r_4 r_5 qF jJ) x2 bZ pE dO) x2
set_option maxHeartbeats 4000000 in
set_option maxRecDepth 100000 in
theorem ks_X9_allripe_62 (C0 : gc cX9_allripe (some .int) 4 RX9 (dC, dI) (tyl cI cC cZ cB cJ) A p s m args meth c) : ∀ (x2 x3 qF : Int32) (jJ : Nat → Int32) (H : Heap) (locs : List Loc) (ls : Array Slot), (ws_X9_allripe_62 post bZ pE qA jC eO eW dO jD) x2 x3 qF jJ → va_P (dC, dI) classes (wd_X9_allripe cI cC cZ cB cJ a_x xG xD wY wJ wQ xI xK xJ tW xH tX jE mX pD oO oQ eG qT bZ bD bI aI pE qA jC eO eW dO fJ fY jD nG qF jJ) H → va_D A (wd_X9_allripe cI cC cZ cB cJ a_x xG xD wY wJ wQ xI xK xJ tW xH tX jE mX pD oO oQ eG qT bZ bD bI aI pE qA jC eO eW dO fJ fY jD nG qF jJ) → va_S A s.heap H locs → lv_has ls 4 [(0, .ref a_x), (2, .int x2), (3, .int x3)] → W p l e rm_X9_allripe s m args below meth c H locs 0 0 (MQ below (q_X9_allripe dC dI cI cC cZ cB cJ A a_x xG xD wY wJ wQ xI xK xJ tW xH tX jE mX pD oO oQ eG qT bZ bD bI aI pE qA jC eO eW dO fJ fY jD nG post) args s 0 0 A) (F0 m 62 ls []) := by
  obtain ⟨hx, hb, hr, hml, hown, hts, hlocks, hA, hK, hN, tL, tM, hZL, hTL, hZM, hTM, hZX⟩ := id C0
  intro x2 x3 qF jJ H locs ls hp hP hD hS hl
  unfold ws_X9_allripe_62 at hp
  refine lv_aload_n hx hb eX9_allripe_59.2.1 rfl (lv_at hl 0 rfl) ?_
  refine lv_iload_n hx hb eX9_allripe_59.2.2.1 rfl (lv_at hl 1 rfl) ?_
  have hm := mgk (wc := (wd_J6_bitCount_0f7a4 cI cC cZ cB cJ)) hP aAW 8 rfl rfl rfl
  refine g_calli hP hD hS hA (mixT aAW) (mixF aAW) hm.1 hm.2 (nd_F _) (dis_g _) (g_runS (As := [.int x2]) (rest := [.ref a_x]) C0 hP hD hS (mixT aAW) hm.1 (nd_T _) (c_J6_bitCount_0f7a4 l dC dI cI cC cZ cB cJ H.size x2 _ hp) q_320 q_474 q_322 q_321 h_J6_bitCount_0f7a4 rfl rfl ⟨Nat.le_of_ble_eq_true rfl, Nat.le_of_ble_eq_true rfl⟩ rfl rfl hl.1 rfl (lv_room (Nat.le_of_ble_eq_true rfl)) eX9_allripe_59.2.2.2.1 ⟨Nat.zero_le _, Nat.zero_le _⟩) (fun r_4 u H locs hp hP hD hS => ?_)
  have hPD := PDm (ws' := (wd_X9_allripe cI cC cZ cB cJ a_x xG xD wY wJ wQ xI xK xJ tW xH tX jE mX pD oO oQ eG qT bZ bD bI aI pE qA jC eO eW dO fJ fY jD nG qF jJ)) hP hD 8 rfl rfl rfl
  have hP := hPD.1
  have hD := hPD.2
  refine lv_aload_n hx hb eX9_allripe_59.2.2.2.2.1 rfl (lv_at hl 0 rfl) ?_
  refine va_get (D := (dC, dI)) (ci := 9) (v := .ref wY) (C := RX9) (T := TX9) (N := 9) hx hb hts i_X9 hown hK hP 0 rfl rfl 2 (Nat.le_of_ble_eq_true rfl) (hts _ q_146) (fun _ h9 => h9) rfl eX9_allripe_59.2.2.2.2.2.1 ?_
  refine lv_iload_n hx hb eX9_allripe_59.2.2.2.2.2.2.1 rfl (lv_at hl 1 rfl) ?_
  have hm := mgk (wc := (wd_X0_worthOf cI cC cZ cB cJ wY wJ wQ xH tX jE mX pD oO oQ eG bZ bD bI aI pE jC eO eW dO fJ fY jD nG)) hP mk_182 8 rfl rfl rfl
  refine g_calli hP hD hS hA (mixT mk_182) (mixF mk_182) hm.1 hm.2 (nd_F _) (dis_g _) (g_runV (As := [.int x2]) (rest := [.int r_4, .ref a_x]) C0 hP hD hS (mixT mk_182) hm.1 (nd_T _) 1 0 rfl rfl (c_X0_worthOf l dC dI cI cC cZ cB cJ wY wJ wQ xH tX jE mX pD oO oQ eG H.size x2 bZ bD bI aI pE jC eO eW dO fJ fY jD nG _ hp) q_297 q_417 q_298 q_299 q_187 h_X0_worthOf rfl rfl ⟨Nat.le_of_ble_eq_true rfl, Nat.le_of_ble_eq_true rfl⟩ rfl rfl hl.1 rfl (lv_room (Nat.le_of_ble_eq_true rfl)) eX9_allripe_59.2.2.2.2.2.2.2.1 ⟨Nat.zero_le _, Nat.zero_le _⟩) (fun r_5 u H locs hp hP hD hS => ?_)
  have hPD := PDm (ws' := (wd_X9_allripe cI cC cZ cB cJ a_x xG xD wY wJ wQ xI xK xJ tW xH tX jE mX pD oO oQ eG qT bZ bD bI aI pE qA jC eO eW dO fJ fY jD nG qF jJ)) hP hD 8 rfl rfl rfl
  have hP := hPD.1
  have hD := hPD.2
  have hm := mgk (wc := (wd_X9_tell_ cI cC cZ cB cJ a_x xG xD wY wJ wQ xI xK xJ tW qT qF jJ)) hP aAt 8 rfl rfl rfl
  refine g_callv hP hD hS hA (mixT aAt) (mixF aAt) hm.1 hm.2 (nd_F _) (dis_g _) (g_runV (As := [.int r_4, .int r_5]) (rest := []) C0 hP hD hS (mixT aAt) hm.1 (nd_T _) 0 9 rfl rfl (c_X9_tell_ l dC dI cI cC cZ cB cJ a_x xG xD wY wJ wQ xI xK xJ tW qT H.size r_4 r_5 qF jJ _ hp) q_377 q_380 q_378 q_379 q_256 h_X9_tell_ rfl rfl ⟨Nat.le_of_ble_eq_true rfl, Nat.le_of_ble_eq_true rfl⟩ rfl rfl hl.1 rfl (lv_room (Nat.le_of_ble_eq_true rfl)) eX9_allripe_59.2.2.2.2.2.2.2.2.1 ⟨Nat.zero_le _, Nat.zero_le _⟩) (fun u H locs hp hP hD hS => ?_)
  obtain ⟨zW, yO⟩ := u
  have hPD := PDm (ws' := (wd_X9_allripe cI cC cZ cB cJ a_x xG xD wY wJ wQ xI xK xJ tW xH tX jE mX pD oO oQ eG qT bZ bD bI aI pE qA jC eO eW dO fJ fY jD nG zW yO)) hP hD 8 rfl rfl rfl
  have hP := hPD.1
  have hD := hPD.2
  refine lv_iload_n hx hb eX9_allripe_59.2.2.2.2.2.2.2.2.2.1 rfl (lv_at hl 2 rfl) ?_
  exact W.iret (v := x3) hx hb hr (fun t ht hW => ⟨⟨x3, (zW, yO), rfl, hp, by rw [ht]; exact hP, va_K.moved hW.alike hK, hD⟩, hS.F ht⟩) hS.2.2 eX9_allripe_59.2.2.2.2.2.2.2.2.2.2
noncomputable def ws_X9_allripe_35 (post : Int32 → Int32 → (Nat → Int32) → Prop) (next : Int32 → Int32 → Int32 → Int32 → (Nat → Int32) → Prop) (bZ : Int32) (pE qA : Nat → Int32) (jC eO eW dO jD x1 x2 x3 qF : Int32) (jJ : Nat → Int32) : Prop := (9 ≤ x3 → ws_X9_allripe_62 post bZ pE qA jC eO eW dO jD x2 x3 qF jJ) ∧ (¬ 9 ≤ x3 → wp_X3_ripeBy (fun r_8 => ((x1 &&& (r_8 ^^^ (-1))) = 0 → ws_X9_allripe_62 post bZ pE qA jC eO eW dO jD x2 x3 qF jJ) ∧ (¬ (x1 &&& (r_8 ^^^ (-1))) = 0 → ∀ v_9 : Int32, v_9 = x3 + 1 → next x1 x2 v_9 qF jJ)) x3 bZ qA)
noncomputable def wb_X9_allripe_35 (post : Int32 → Int32 → (Nat → Int32) → Prop) (bZ : Int32) (pE qA : Nat → Int32) (jC eO eW dO jD : Int32) : Nat → Int32 → Int32 → Int32 → Int32 → (Nat → Int32) → Prop := fun n => Nat.rec (motive := fun _ => Int32 → Int32 → Int32 → Int32 → (Nat → Int32) → Prop) (fun _ _ _ _ _ => False) (fun _ ih => ws_X9_allripe_35 post ih bZ pE qA jC eO eW dO jD) n
set_option maxHeartbeats 4000000 in
set_option maxRecDepth 100000 in
theorem ks_X9_allripe_35 (C0 : gc cX9_allripe (some .int) 4 RX9 (dC, dI) (tyl cI cC cZ cB cJ) A p s m args meth c) {next : Int32 → Int32 → Int32 → Int32 → (Nat → Int32) → Prop} (hKn : ∀ (x1 : Int32) (x2 : Int32) (x3 : Int32) (qF : Int32) (jJ : Nat → Int32) (H : Heap) (locs : List Loc) (ls : Array Slot), next x1 x2 x3 qF jJ → va_P (dC, dI) classes (wd_X9_allripe cI cC cZ cB cJ a_x xG xD wY wJ wQ xI xK xJ tW xH tX jE mX pD oO oQ eG qT bZ bD bI aI pE qA jC eO eW dO fJ fY jD nG qF jJ) H → va_D A (wd_X9_allripe cI cC cZ cB cJ a_x xG xD wY wJ wQ xI xK xJ tW xH tX jE mX pD oO oQ eG qT bZ bD bI aI pE qA jC eO eW dO fJ fY jD nG qF jJ) → va_S A s.heap H locs → lv_has ls 4 [(0, .ref a_x), (1, .int x1), (2, .int x2), (3, .int x3)] → W p l e rm_X9_allripe s m args below meth c H locs 0 0 (MQ below (q_X9_allripe dC dI cI cC cZ cB cJ A a_x xG xD wY wJ wQ xI xK xJ tW xH tX jE mX pD oO oQ eG qT bZ bD bI aI pE qA jC eO eW dO fJ fY jD nG post) args s 0 0 A) (F0 m 35 ls [])) : ∀ (x1 x2 x3 qF : Int32) (jJ : Nat → Int32) (H : Heap) (locs : List Loc) (ls : Array Slot), (ws_X9_allripe_35 post next bZ pE qA jC eO eW dO jD) x1 x2 x3 qF jJ → va_P (dC, dI) classes (wd_X9_allripe cI cC cZ cB cJ a_x xG xD wY wJ wQ xI xK xJ tW xH tX jE mX pD oO oQ eG qT bZ bD bI aI pE qA jC eO eW dO fJ fY jD nG qF jJ) H → va_D A (wd_X9_allripe cI cC cZ cB cJ a_x xG xD wY wJ wQ xI xK xJ tW xH tX jE mX pD oO oQ eG qT bZ bD bI aI pE qA jC eO eW dO fJ fY jD nG qF jJ) → va_S A s.heap H locs → lv_has ls 4 [(0, .ref a_x), (1, .int x1), (2, .int x2), (3, .int x3)] → W p l e rm_X9_allripe s m args below meth c H locs 0 0 (MQ below (q_X9_allripe dC dI cI cC cZ cB cJ A a_x xG xD wY wJ wQ xI xK xJ tW xH tX jE mX pD oO oQ eG qT bZ bD bI aI pE qA jC eO eW dO fJ fY jD nG post) args s 0 0 A) (F0 m 35 ls []) := by
  obtain ⟨hx, hb, hr, hml, hown, hts, hlocks, hA, hK, hN, tL, tM, hZL, hTL, hZM, hTM, hZX⟩ := id C0
  intro x1 x2 x3 qF jJ H locs ls hp hP hD hS hl
  unfold ws_X9_allripe_35 at hp
  refine lv_iload_n hx hb eX9_allripe_28.2.2.2.1 rfl (lv_at hl 3 rfl) ?_
  refine lv_bipush (v := 9) hx hb eX9_allripe_28.2.2.2.2.1 bp_9 ?_
  refine lv_icmp_ge (tgt := 62) hx hb eX9_allripe_28.2.2.2.2.2.1 (by decide) (fun hc => ?_) (fun hc => ?_)
  · have hp := hp.1 hc
    exact ks_X9_allripe_62 C0 x2 x3 qF jJ H locs ls hp hP hD hS (lv_sub hl [0, 2, 3] rfl)
  · have hp := hp.2 hc
    refine lv_iload_n hx hb eX9_allripe_28.2.2.2.2.2.2.1 rfl (lv_at hl 1 rfl) ?_
    refine lv_aload_n hx hb eX9_allripe_28.2.2.2.2.2.2.2.1 rfl (lv_at hl 0 rfl) ?_
    refine va_get (D := (dC, dI)) (ci := 9) (v := .ref wJ) (C := RX9) (T := TX9) (N := 9) hx hb hts i_X9 hown hK hP 0 rfl rfl 3 (Nat.le_of_ble_eq_true rfl) (hts _ q_74) (fun _ h9 => h9) rfl eX9_allripe_28.2.2.2.2.2.2.2.2.1 ?_
    refine lv_iload_n hx hb eX9_allripe_28.2.2.2.2.2.2.2.2.2.1 rfl (lv_at hl 3 rfl) ?_
    have hm := mgk (wc := (wd_X3_ripeBy cI cC cZ cB cJ wJ tX jE mX pD oO oQ eG bZ bD bI aI qA)) hP mk_184 8 rfl rfl rfl
    refine g_calli hP hD hS hA (mixT mk_184) (mixF mk_184) hm.1 hm.2 (nd_F _) (dis_g _) (g_runV (As := [.int x3]) (rest := [.int x1]) C0 hP hD hS (mixT mk_184) hm.1 (nd_T _) 2 3 rfl rfl (c_X3_ripeBy l dC dI cI cC cZ cB cJ wJ tX jE mX pD oO oQ eG H.size x3 bZ bD bI aI qA _ hp) q_343 q_544 q_344 q_345 q_48 h_X3_ripeBy rfl rfl ⟨Nat.le_of_ble_eq_true rfl, Nat.le_of_ble_eq_true rfl⟩ rfl rfl hl.1 rfl (lv_room (Nat.le_of_ble_eq_true rfl)) eX9_allripe_28.2.2.2.2.2.2.2.2.2.2.1 ⟨Nat.zero_le _, Nat.zero_le _⟩) (fun r_8 u H locs hp hP hD hS => ?_)
    have hPD := PDm (ws' := (wd_X9_allripe cI cC cZ cB cJ a_x xG xD wY wJ wQ xI xK xJ tW xH tX jE mX pD oO oQ eG qT bZ bD bI aI pE qA jC eO eW dO fJ fY jD nG qF jJ)) hP hD 8 rfl rfl rfl
    have hP := hPD.1
    have hD := hPD.2
    refine lv_iconst (v := (-1)) hx hb eX9_allripe_28.2.2.2.2.2.2.2.2.2.2.2.1 ic_m1 ?_
    refine lv_ixor hx hb eX9_allripe_28.2.2.2.2.2.2.2.2.2.2.2.2.1 ?_
    refine lv_iand hx hb eX9_allripe_28.2.2.2.2.2.2.2.2.2.2.2.2.2.1 ?_
    refine lv_if_eq (tgt := 62) hx hb eX9_allripe_28.2.2.2.2.2.2.2.2.2.2.2.2.2.2.1 (by decide) (fun hc => ?_) (fun hc => ?_)
    · have hp := hp.1 hc
      exact ks_X9_allripe_62 C0 x2 x3 qF jJ H locs ls hp hP hD hS (lv_sub hl [0, 2, 3] rfl)
    · have hp := hp.2 hc
      obtain ⟨v_9, ev_9⟩ : ∃ y : Int32, y = x3 + 1 := ⟨_, rfl⟩
      refine lv_iinc (v := v_9) (lv' := [(3, .int v_9), (0, .ref a_x), (1, .int x1), (2, .int x2)]) hx hb eX9_allripe_28.2.2.2.2.2.2.2.2.2.2.2.2.2.2.2 hl (k := 3) rfl (by rw [ev_9]; rfl) (by decide) rfl (fun ls hl => ?_)
      have hp := hp v_9 ev_9
      refine lv_goto (tgt := 35) hx hb eX9_allripe_59.1 (by decide) ?_
      exact hKn x1 x2 v_9 qF jJ H locs ls hp hP hD hS (lv_sub hl [1, 2, 3, 0] rfl)
set_option maxHeartbeats 4000000 in
set_option maxRecDepth 100000 in
theorem kb_X9_allripe_35 (C0 : gc cX9_allripe (some .int) 4 RX9 (dC, dI) (tyl cI cC cZ cB cJ) A p s m args meth c) : ∀ (n : Nat), ∀ (x1 x2 x3 qF : Int32) (jJ : Nat → Int32) (H : Heap) (locs : List Loc) (ls : Array Slot), (wb_X9_allripe_35 post bZ pE qA jC eO eW dO jD n) x1 x2 x3 qF jJ → va_P (dC, dI) classes (wd_X9_allripe cI cC cZ cB cJ a_x xG xD wY wJ wQ xI xK xJ tW xH tX jE mX pD oO oQ eG qT bZ bD bI aI pE qA jC eO eW dO fJ fY jD nG qF jJ) H → va_D A (wd_X9_allripe cI cC cZ cB cJ a_x xG xD wY wJ wQ xI xK xJ tW xH tX jE mX pD oO oQ eG qT bZ bD bI aI pE qA jC eO eW dO fJ fY jD nG qF jJ) → va_S A s.heap H locs → lv_has ls 4 [(0, .ref a_x), (1, .int x1), (2, .int x2), (3, .int x3)] → W p l e rm_X9_allripe s m args below meth c H locs 0 0 (MQ below (q_X9_allripe dC dI cI cC cZ cB cJ A a_x xG xD wY wJ wQ xI xK xJ tW xH tX jE mX pD oO oQ eG qT bZ bD bI aI pE qA jC eO eW dO fJ fY jD nG post) args s 0 0 A) (F0 m 35 ls []) := by
  intro n
  induction n with
  | zero =>
    intro x1 x2 x3 qF jJ H locs ls hp
    exact False.elim hp
  | succ n ih =>
    intro x1 x2 x3 qF jJ H locs ls hp
    exact ks_X9_allripe_35 C0 ih x1 x2 x3 qF jJ H locs ls hp
end S_X9_allripe
noncomputable def wp_X9_allripe (post : Int32 → Int32 → (Nat → Int32) → Prop) (bZ : Int32) (pE qA : Nat → Int32) (jC eO eW dO jD qF : Int32) (jJ : Nat → Int32) : Prop := wp_X0_hanging (fun r_1 => wp_X3_ripeBy (fun r_2 => ∀ v_3 : Int32, v_3 = r_1 &&& (r_2 ^^^ (-1)) → ∃ n : Nat, wb_X9_allripe_35 post bZ pE qA jC eO eW dO jD n r_1 v_3 jD qF jJ) jD bZ qA) bZ jC eO eW
set_option maxHeartbeats 4000000 in
set_option maxRecDepth 100000 in
theorem c_X9_allripe (l : Launch) (dC : Nat → ClassId) (dI : Nat → Nat → Nat) (cI cC cZ cB cJ : ClassId) (a_x xG xD wY wJ wQ xI xK xJ tW xH tX jE mX pD oO oQ eG qT sz : Nat) (bZ bD bI aI : Int32) (pE qA : Nat → Int32) (jC eO eW dO fJ fY jD nG qF : Int32) (jJ : Nat → Int32) (post : Int32 → Int32 → (Nat → Int32) → Prop) (hw : wp_X9_allripe post bZ pE qA jC eO eW dO jD qF jJ) : Met l yX9_allripe (gw yX9_allripe cX9_allripe 4 (some .int)) rm_X9_allripe (va_Pc [.ref a_x] (gPre (dC, dI) (tyl cI cC cZ cB cJ) (wd_X9_allripe cI cC cZ cB cJ a_x xG xD wY wJ wQ xI xK xJ tW xH tX jE mX pD oO oQ eG qT bZ bD bI aI pE qA jC eO eW dO fJ fY jD nG qF jJ) sz)) (q_X9_allripe dC dI cI cC cZ cB cJ (va_A (wd_X9_allripe cI cC cZ cB cJ a_x xG xD wY wJ wQ xI xK xJ tW xH tX jE mX pD oO oQ eG qT bZ bD bI aI pE qA jC eO eW dO fJ fY jD nG qF jJ) sz) a_x xG xD wY wJ wQ xI xK xJ tW xH tX jE mX pD oO oQ eG qT bZ bD bI aI pE qA jC eO eW dO fJ fY jD nG post) 0 0 (va_A (wd_X9_allripe cI cC cZ cB cJ a_x xG xD wY wJ wQ xI xK xJ tW xH tX jE mX pD oO oQ eG qT bZ bD bI aI pE qA jC eO eW dO fJ fY jD nG qF jJ) sz) := by
  refine g_enter (own := RX9) (dC, dI) (tyl cI cC cZ cB cJ) (wd_X9_allripe cI cC cZ cB cJ a_x xG xD wY wJ wQ xI xK xJ tW xH tX jE mX pD oO oQ eG qT bZ bD bI aI pE qA jC eO eW dO fJ fY jD nG qF jJ) sz [.ref a_x] (fun A => q_X9_allripe dC dI cI cC cZ cB cJ A a_x xG xD wY wJ wQ xI xK xJ tW xH tX jE mX pD oO oQ eG qT bZ bD bI aI pE qA jC eO eW dO fJ fY jD nG post) pn_RX9 rfl (Nat.le_of_ble_eq_true rfl) ?_
  intro p e s m args below meth c A H locs ls C0 hP hD hS hl
  have hl : lv_has ls 4 [(0, .ref a_x)] := hl
  obtain ⟨hx, hb, hr, hml, hown, hts, hlocks, hA, hK, hN, tL, tM, hZL, hTL, hZM, hTM, hZX⟩ := id C0
  have hp := hw
  unfold wp_X9_allripe at hp
  refine lv_aload_n hx hb eX9_allripe_0.1 rfl (lv_at hl 0 rfl) ?_
  refine va_get (D := (dC, dI)) (ci := 9) (v := .ref wY) (C := RX9) (T := TX9) (N := 9) hx hb hts i_X9 hown hK hP 0 rfl rfl 2 (Nat.le_of_ble_eq_true rfl) (hts _ q_146) (fun _ h9 => h9) rfl eX9_allripe_0.2.1 ?_
  have hm := mgk (wc := (wd_X0_hanging cI cC cZ cB cJ wY wJ wQ xH tX jE mX pD oO oQ eG bZ bD bI aI jC eO eW dO fJ fY jD nG)) hP mk_185 8 rfl rfl rfl
  refine g_calli hP hD hS hA (mixT mk_185) (mixF mk_185) hm.1 hm.2 (nd_F _) (dis_g _) (g_runV (As := []) (rest := []) C0 hP hD hS (mixT mk_185) hm.1 (nd_T _) 1 0 rfl rfl (c_X0_hanging l dC dI cI cC cZ cB cJ wY wJ wQ xH tX jE mX pD oO oQ eG H.size bZ bD bI aI jC eO eW dO fJ fY jD nG _ hp) q_186 q_190 q_188 q_189 q_187 h_X0_hanging rfl rfl ⟨Nat.le_of_ble_eq_true rfl, Nat.le_of_ble_eq_true rfl⟩ rfl rfl hl.1 rfl (lv_room (Nat.le_of_ble_eq_true rfl)) eX9_allripe_0.2.2.1 ⟨Nat.zero_le _, Nat.zero_le _⟩) (fun r_1 u H locs hp hP hD hS => ?_)
  have hPD := PDm (ws' := (wd_X9_allripe cI cC cZ cB cJ a_x xG xD wY wJ wQ xI xK xJ tW xH tX jE mX pD oO oQ eG qT bZ bD bI aI pE qA jC eO eW dO fJ fY jD nG qF jJ)) hP hD 8 rfl rfl rfl
  have hP := hPD.1
  have hD := hPD.2
  refine lv_istore_n (lv' := [(1, .int r_1), (0, .ref a_x)]) hx hb eX9_allripe_0.2.2.2.1 rfl hl (by decide) rfl (fun ls hl => ?_)
  refine lv_iload_n hx hb eX9_allripe_0.2.2.2.2.1 rfl (lv_at hl 0 rfl) ?_
  refine lv_aload_n hx hb eX9_allripe_0.2.2.2.2.2.1 rfl (lv_at hl 1 rfl) ?_
  refine va_get (D := (dC, dI)) (ci := 9) (v := .ref wJ) (C := RX9) (T := TX9) (N := 9) hx hb hts i_X9 hown hK hP 0 rfl rfl 3 (Nat.le_of_ble_eq_true rfl) (hts _ q_74) (fun _ h9 => h9) rfl eX9_allripe_0.2.2.2.2.2.2.1 ?_
  refine lv_aload_n hx hb eX9_allripe_0.2.2.2.2.2.2.2.1 rfl (lv_at hl 1 rfl) ?_
  refine va_get (D := (dC, dI)) (ci := 9) (v := .ref wQ) (C := RX9) (T := TX9) (N := 9) hx hb hts i_X9 hown hK hP 0 rfl rfl 4 (Nat.le_of_ble_eq_true rfl) (hts _ q_179) (fun _ h9 => h9) rfl eX9_allripe_0.2.2.2.2.2.2.2.2.1 ?_
  refine va_get (D := (dC, dI)) (ci := 2) (v := .int jD) (C := RX2) (T := TX2) (N := 8) hx hb hts i_X2 hown hK hP 5 rfl rfl 6 (Nat.le_of_ble_eq_true rfl) (hts _ q_542) (fun _ h9 => h9) rfl eX9_allripe_0.2.2.2.2.2.2.2.2.2.1 ?_
  have hm := mgk (wc := (wd_X3_ripeBy cI cC cZ cB cJ wJ tX jE mX pD oO oQ eG bZ bD bI aI qA)) hP mk_184 8 rfl rfl rfl
  refine g_calli hP hD hS hA (mixT mk_184) (mixF mk_184) hm.1 hm.2 (nd_F _) (dis_g _) (g_runV (As := [.int jD]) (rest := [.int r_1]) C0 hP hD hS (mixT mk_184) hm.1 (nd_T _) 2 3 rfl rfl (c_X3_ripeBy l dC dI cI cC cZ cB cJ wJ tX jE mX pD oO oQ eG H.size jD bZ bD bI aI qA _ hp) q_343 q_544 q_344 q_345 q_48 h_X3_ripeBy rfl rfl ⟨Nat.le_of_ble_eq_true rfl, Nat.le_of_ble_eq_true rfl⟩ rfl rfl hl.1 rfl (lv_room (Nat.le_of_ble_eq_true rfl)) eX9_allripe_0.2.2.2.2.2.2.2.2.2.2.1 ⟨Nat.zero_le _, Nat.zero_le _⟩) (fun r_2 u H locs hp hP hD hS => ?_)
  have hPD := PDm (ws' := (wd_X9_allripe cI cC cZ cB cJ a_x xG xD wY wJ wQ xI xK xJ tW xH tX jE mX pD oO oQ eG qT bZ bD bI aI pE qA jC eO eW dO fJ fY jD nG qF jJ)) hP hD 8 rfl rfl rfl
  have hP := hPD.1
  have hD := hPD.2
  refine lv_iconst (v := (-1)) hx hb eX9_allripe_0.2.2.2.2.2.2.2.2.2.2.2.1 ic_m1 ?_
  refine lv_ixor hx hb eX9_allripe_0.2.2.2.2.2.2.2.2.2.2.2.2.1 ?_
  refine lv_iand hx hb eX9_allripe_0.2.2.2.2.2.2.2.2.2.2.2.2.2.1 ?_
  refine lv_topi (fun v_3 ev_3 => ?_)
  have hp := hp v_3 ev_3
  refine lv_istore_n (lv' := [(2, .int v_3), (1, .int r_1), (0, .ref a_x)]) hx hb eX9_allripe_0.2.2.2.2.2.2.2.2.2.2.2.2.2.2.1 rfl hl (by decide) rfl (fun ls hl => ?_)
  refine lv_aload_n hx hb eX9_allripe_0.2.2.2.2.2.2.2.2.2.2.2.2.2.2.2 rfl (lv_at hl 2 rfl) ?_
  refine va_get (D := (dC, dI)) (ci := 9) (v := .ref wQ) (C := RX9) (T := TX9) (N := 9) hx hb hts i_X9 hown hK hP 0 rfl rfl 4 (Nat.le_of_ble_eq_true rfl) (hts _ q_179) (fun _ h9 => h9) rfl eX9_allripe_28.1 ?_
  refine va_get (D := (dC, dI)) (ci := 2) (v := .int jD) (C := RX2) (T := TX2) (N := 8) hx hb hts i_X2 hown hK hP 5 rfl rfl 6 (Nat.le_of_ble_eq_true rfl) (hts _ q_542) (fun _ h9 => h9) rfl eX9_allripe_28.2.1 ?_
  refine lv_istore_n (lv' := [(3, .int jD), (2, .int v_3), (1, .int r_1), (0, .ref a_x)]) hx hb eX9_allripe_28.2.2.1 rfl hl (by decide) rfl (fun ls hl => ?_)
  obtain ⟨n9, hp⟩ := hp
  exact kb_X9_allripe_35 C0 n9 r_1 v_3 jD qF jJ H locs ls hp hP hD hS (lv_sub hl [3, 2, 1, 0] rfl)
noncomputable abbrev wd_X3_standingsAt (cI cC cZ cB cJ : ClassId) (wJ tX jE mX pD oO oQ eG : Nat) (bZ bD bI aI : Int32) (nJ : Nat → Int32) : va_W := [(wJ, .inr (3, [.ref tX, .ref jE, .ref mX, .ref pD, .ref oO, .ref oQ, .ref eG, .int bZ, .int bD, .int bI, .int aI])), (oO, .inl (cI, 8, .inl nJ))]
noncomputable abbrev q_X3_standingsAt (dC : Nat → ClassId) (dI : Nat → Nat → Nat) (cI cC cZ cB cJ : ClassId) (A : Nat → Prop) (wJ tX jE mX pD oO oQ eG : Nat) (bZ bD bI aI : Int32) (nJ : Nat → Int32) (post : Int32 → Prop) : Array Value → State → Outcome → State → Prop := va_Qi (fun (r : Int32) (u : Unit) => post r) (fun u t => gB (dC, dI) (tyl cI cC cZ cB cJ) A (wd_X3_standingsAt cI cC cZ cB cJ wJ tX jE mX pD oO oQ eG bZ bD bI aI nJ) t) A
noncomputable abbrev rm_X3_standingsAt : Room := { frames := 1, cells := 0, slots := 0, locals := 21 }
section S_X3_standingsAt
variable {p : Program} {l : Launch} {e : Env} {s : State} {m : MethodId} {args : Array Value} {below : List Frame} {meth : Method} {c : Code} {dC : Nat → ClassId} {dI : Nat → Nat → Nat} {cI cC cZ cB cJ : ClassId} {A : Nat → Prop} {wJ tX jE mX pD oO oQ eG : Nat} {bZ bD bI aI : Int32} {nJ : Nat → Int32} {post : Int32 → Prop}
noncomputable def ws_X3_standingsAt_37 (post : Int32 → Prop) (K5 : Int32 → Int32 → Int32 → Int32 → Prop) (bD : Int32) (nJ : Nat → Int32) (x1 x2 x3 x4 : Int32) : Prop := ∀ v_4 : Int32, v_4 = x4 + 1 → K5 x1 x2 x3 v_4
set_option maxHeartbeats 4000000 in
set_option maxRecDepth 100000 in
theorem ks_X3_standingsAt_37 (C0 : gc cX3_standingsAt (some .int) 5 RX3 (dC, dI) (tyl cI cC cZ cB cJ) A p s m args meth c) {K5 : Int32 → Int32 → Int32 → Int32 → Prop} (hK5 : ∀ (x1 : Int32) (x2 : Int32) (x3 : Int32) (x4 : Int32) (H : Heap) (locs : List Loc) (ls : Array Slot), K5 x1 x2 x3 x4 → va_P (dC, dI) classes (wd_X3_standingsAt cI cC cZ cB cJ wJ tX jE mX pD oO oQ eG bZ bD bI aI nJ) H → va_D A (wd_X3_standingsAt cI cC cZ cB cJ wJ tX jE mX pD oO oQ eG bZ bD bI aI nJ) → va_S A s.heap H locs → lv_has ls 5 [(0, .ref wJ), (1, .int x1), (2, .int x2), (3, .int x3), (4, .int x4)] → W p l e rm_X3_standingsAt s m args below meth c H locs 0 0 (MQ below (q_X3_standingsAt dC dI cI cC cZ cB cJ A wJ tX jE mX pD oO oQ eG bZ bD bI aI nJ post) args s 0 0 A) (F0 m 5 ls [])) : ∀ (x1 x2 x3 x4 : Int32) (H : Heap) (locs : List Loc) (ls : Array Slot), (ws_X3_standingsAt_37 post K5 bD nJ) x1 x2 x3 x4 → va_P (dC, dI) classes (wd_X3_standingsAt cI cC cZ cB cJ wJ tX jE mX pD oO oQ eG bZ bD bI aI nJ) H → va_D A (wd_X3_standingsAt cI cC cZ cB cJ wJ tX jE mX pD oO oQ eG bZ bD bI aI nJ) → va_S A s.heap H locs → lv_has ls 5 [(0, .ref wJ), (1, .int x1), (2, .int x2), (3, .int x3), (4, .int x4)] → W p l e rm_X3_standingsAt s m args below meth c H locs 0 0 (MQ below (q_X3_standingsAt dC dI cI cC cZ cB cJ A wJ tX jE mX pD oO oQ eG bZ bD bI aI nJ post) args s 0 0 A) (F0 m 37 ls []) := by
  obtain ⟨hx, hb, hr, hml, hown, hts, hlocks, hA, hK, hN, tL, tM, hZL, hTL, hZM, hTM, hZX⟩ := id C0
  intro x1 x2 x3 x4 H locs ls hp hP hD hS hl
  unfold ws_X3_standingsAt_37 at hp
  obtain ⟨v_4, ev_4⟩ : ∃ y : Int32, y = x4 + 1 := ⟨_, rfl⟩
  refine lv_iinc (v := v_4) (lv' := [(4, .int v_4), (0, .ref wJ), (1, .int x1), (2, .int x2), (3, .int x3)]) hx hb eX3_standingsAt_27.2.2.2.2.2.2.2.1 hl (k := 4) rfl (by rw [ev_4]; rfl) (by decide) rfl (fun ls hl => ?_)
  have hp := hp v_4 ev_4
  refine lv_goto (tgt := 5) hx hb eX3_standingsAt_27.2.2.2.2.2.2.2.2.1 (by decide) ?_
  exact hK5 x1 x2 x3 v_4 H locs ls hp hP hD hS (lv_sub hl [1, 2, 3, 4, 0] rfl)
noncomputable def ws_X3_standingsAt_5 (post : Int32 → Prop) (next : Int32 → Int32 → Int32 → Int32 → Prop) (bD : Int32) (nJ : Nat → Int32) (x1 x2 x3 x4 : Int32) : Prop := (bD ≤ x4 → post x3) ∧ (¬ bD ≤ x4 → vp_in x4 8 ∧ (∀ v_1 : Int32, v_1 = nJ x4.toNatClampNeg → ∀ v_2 : Int32, v_2 = v_1 - x1 → ∀ v_3 : Int32, v_3 = (if 0 ≤ v_2 then v_2 else 0 - v_2) → (x2 < v_3 → ws_X3_standingsAt_37 post next bD nJ x1 x2 x3 x4) ∧ (¬ x2 < v_3 → ∀ v_5 : Int32, v_5 = x3 ||| (1 <<< (x4 &&& 31)) → ws_X3_standingsAt_37 post next bD nJ x1 x2 v_5 x4)))
noncomputable def wb_X3_standingsAt_5 (post : Int32 → Prop) (bD : Int32) (nJ : Nat → Int32) : Nat → Int32 → Int32 → Int32 → Int32 → Prop := fun n => Nat.rec (motive := fun _ => Int32 → Int32 → Int32 → Int32 → Prop) (fun _ _ _ _ => False) (fun _ ih => ws_X3_standingsAt_5 post ih bD nJ) n
set_option maxHeartbeats 4000000 in
set_option maxRecDepth 100000 in
theorem ks_X3_standingsAt_5 (C0 : gc cX3_standingsAt (some .int) 5 RX3 (dC, dI) (tyl cI cC cZ cB cJ) A p s m args meth c) {next : Int32 → Int32 → Int32 → Int32 → Prop} (hKn : ∀ (x1 : Int32) (x2 : Int32) (x3 : Int32) (x4 : Int32) (H : Heap) (locs : List Loc) (ls : Array Slot), next x1 x2 x3 x4 → va_P (dC, dI) classes (wd_X3_standingsAt cI cC cZ cB cJ wJ tX jE mX pD oO oQ eG bZ bD bI aI nJ) H → va_D A (wd_X3_standingsAt cI cC cZ cB cJ wJ tX jE mX pD oO oQ eG bZ bD bI aI nJ) → va_S A s.heap H locs → lv_has ls 5 [(0, .ref wJ), (1, .int x1), (2, .int x2), (3, .int x3), (4, .int x4)] → W p l e rm_X3_standingsAt s m args below meth c H locs 0 0 (MQ below (q_X3_standingsAt dC dI cI cC cZ cB cJ A wJ tX jE mX pD oO oQ eG bZ bD bI aI nJ post) args s 0 0 A) (F0 m 5 ls [])) : ∀ (x1 x2 x3 x4 : Int32) (H : Heap) (locs : List Loc) (ls : Array Slot), (ws_X3_standingsAt_5 post next bD nJ) x1 x2 x3 x4 → va_P (dC, dI) classes (wd_X3_standingsAt cI cC cZ cB cJ wJ tX jE mX pD oO oQ eG bZ bD bI aI nJ) H → va_D A (wd_X3_standingsAt cI cC cZ cB cJ wJ tX jE mX pD oO oQ eG bZ bD bI aI nJ) → va_S A s.heap H locs → lv_has ls 5 [(0, .ref wJ), (1, .int x1), (2, .int x2), (3, .int x3), (4, .int x4)] → W p l e rm_X3_standingsAt s m args below meth c H locs 0 0 (MQ below (q_X3_standingsAt dC dI cI cC cZ cB cJ A wJ tX jE mX pD oO oQ eG bZ bD bI aI nJ post) args s 0 0 A) (F0 m 5 ls []) := by
  obtain ⟨hx, hb, hr, hml, hown, hts, hlocks, hA, hK, hN, tL, tM, hZL, hTL, hZM, hTM, hZX⟩ := id C0
  intro x1 x2 x3 x4 H locs ls hp hP hD hS hl
  unfold ws_X3_standingsAt_5 at hp
  refine lv_iload hx hb eX3_standingsAt_0.2.2.2.2.1 (lv_at hl 4 rfl) ?_
  refine lv_aload_n hx hb eX3_standingsAt_0.2.2.2.2.2.1 rfl (lv_at hl 0 rfl) ?_
  refine va_get (D := (dC, dI)) (ci := 3) (v := .int bD) (C := RX3) (T := TX3) (N := 11) hx hb hts i_X3 hown hK hP 0 rfl rfl 8 (Nat.le_of_ble_eq_true rfl) (hts _ q_22) (fun _ h9 => h9) rfl eX3_standingsAt_0.2.2.2.2.2.2.1 ?_
  refine lv_icmp_ge (tgt := 43) hx hb eX3_standingsAt_0.2.2.2.2.2.2.2.1 (by decide) (fun hc => ?_) (fun hc => ?_)
  · have hp := hp.1 hc
    refine lv_iload_n hx hb eX3_standingsAt_27.2.2.2.2.2.2.2.2.2.1 rfl (lv_at hl 3 rfl) ?_
    exact W.iret (v := x3) hx hb hr (fun t ht hW => ⟨⟨x3, (), rfl, hp, by rw [ht]; exact hP, va_K.moved hW.alike hK, hD⟩, hS.F ht⟩) hS.2.2 eX3_standingsAt_27.2.2.2.2.2.2.2.2.2.2
  · have hp := hp.2 hc
    refine lv_aload_n hx hb eX3_standingsAt_0.2.2.2.2.2.2.2.2.1 rfl (lv_at hl 0 rfl) ?_
    refine va_get (D := (dC, dI)) (ci := 3) (v := .ref oO) (C := RX3) (T := TX3) (N := 11) hx hb hts i_X3 hown hK hP 0 rfl rfl 4 (Nat.le_of_ble_eq_true rfl) (hts _ q_53) (fun _ h9 => h9) rfl eX3_standingsAt_0.2.2.2.2.2.2.2.2.2.1 ?_
    refine lv_iload hx hb eX3_standingsAt_0.2.2.2.2.2.2.2.2.2.2.1 (lv_at hl 4 rfl) ?_
    have hin := hp.1
    have hp := hp.2
    refine va_iald hx hb hK hP 1 0 rfl rfl hin eX3_standingsAt_0.2.2.2.2.2.2.2.2.2.2.2.1 ?_
    refine lv_topi (fun v_1 ev_1 => ?_)
    have hp := hp v_1 ev_1
    refine lv_iload_n hx hb eX3_standingsAt_0.2.2.2.2.2.2.2.2.2.2.2.2.1 rfl (lv_at hl 1 rfl) ?_
    refine lv_isub hx hb eX3_standingsAt_0.2.2.2.2.2.2.2.2.2.2.2.2.2.1 ?_
    refine lv_topi (fun v_2 ev_2 => ?_)
    have hp := hp v_2 ev_2
    refine va_mabs hx hb (by rw [hml]; exact hl.1.symm) hown (hts _ q_165) (hts _ q_166) (hts _ q_16) (hts _ q_167) (Nat.le_of_ble_eq_true rfl) (Nat.le_of_ble_eq_true rfl) (Nat.zero_le _) (Nat.zero_le _) eX3_standingsAt_0.2.2.2.2.2.2.2.2.2.2.2.2.2.2.1 ?_
    refine lv_topi (fun v_3 ev_3 => ?_)
    have hp := hp v_3 ev_3
    refine lv_iload_n hx hb eX3_standingsAt_0.2.2.2.2.2.2.2.2.2.2.2.2.2.2.2 rfl (lv_at hl 2 rfl) ?_
    refine lv_icmp_gt (tgt := 37) hx hb eX3_standingsAt_27.1 (by decide) (fun hc => ?_) (fun hc => ?_)
    · have hp := hp.1 hc
      exact ks_X3_standingsAt_37 C0 hKn x1 x2 x3 x4 H locs ls hp hP hD hS (lv_sub hl [0, 1, 2, 3, 4] rfl)
    · have hp := hp.2 hc
      refine lv_iload_n hx hb eX3_standingsAt_27.2.1 rfl (lv_at hl 3 rfl) ?_
      refine lv_iconst (v := 1) hx hb eX3_standingsAt_27.2.2.1 ic_1 ?_
      refine lv_iload hx hb eX3_standingsAt_27.2.2.2.1 (lv_at hl 4 rfl) ?_
      refine lv_ishl hx hb eX3_standingsAt_27.2.2.2.2.1 ?_
      refine lv_ior hx hb eX3_standingsAt_27.2.2.2.2.2.1 ?_
      refine lv_topi (fun v_5 ev_5 => ?_)
      have hp := hp v_5 ev_5
      refine lv_istore_n (lv' := [(3, .int v_5), (0, .ref wJ), (1, .int x1), (2, .int x2), (4, .int x4)]) hx hb eX3_standingsAt_27.2.2.2.2.2.2.1 rfl hl (by decide) rfl (fun ls hl => ?_)
      exact ks_X3_standingsAt_37 C0 hKn x1 x2 v_5 x4 H locs ls hp hP hD hS (lv_sub hl [1, 2, 3, 0, 4] rfl)
set_option maxHeartbeats 4000000 in
set_option maxRecDepth 100000 in
theorem kb_X3_standingsAt_5 (C0 : gc cX3_standingsAt (some .int) 5 RX3 (dC, dI) (tyl cI cC cZ cB cJ) A p s m args meth c) : ∀ (n : Nat), ∀ (x1 x2 x3 x4 : Int32) (H : Heap) (locs : List Loc) (ls : Array Slot), (wb_X3_standingsAt_5 post bD nJ n) x1 x2 x3 x4 → va_P (dC, dI) classes (wd_X3_standingsAt cI cC cZ cB cJ wJ tX jE mX pD oO oQ eG bZ bD bI aI nJ) H → va_D A (wd_X3_standingsAt cI cC cZ cB cJ wJ tX jE mX pD oO oQ eG bZ bD bI aI nJ) → va_S A s.heap H locs → lv_has ls 5 [(0, .ref wJ), (1, .int x1), (2, .int x2), (3, .int x3), (4, .int x4)] → W p l e rm_X3_standingsAt s m args below meth c H locs 0 0 (MQ below (q_X3_standingsAt dC dI cI cC cZ cB cJ A wJ tX jE mX pD oO oQ eG bZ bD bI aI nJ post) args s 0 0 A) (F0 m 5 ls []) := by
  intro n
  induction n with
  | zero =>
    intro x1 x2 x3 x4 H locs ls hp
    exact False.elim hp
  | succ n ih =>
    intro x1 x2 x3 x4 H locs ls hp
    exact ks_X3_standingsAt_5 C0 ih x1 x2 x3 x4 H locs ls hp
end S_X3_standingsAt
noncomputable def wp_X3_standingsAt (post : Int32 → Prop) (p0 p1 bD : Int32) (nJ : Nat → Int32) : Prop := ∃ n : Nat, wb_X3_standingsAt_5 post bD nJ n p0 p1 0 0
set_option maxHeartbeats 4000000 in
set_option maxRecDepth 100000 in
theorem c_X3_standingsAt (l : Launch) (dC : Nat → ClassId) (dI : Nat → Nat → Nat) (cI cC cZ cB cJ : ClassId) (wJ tX jE mX pD oO oQ eG sz : Nat) (p0 p1 bZ bD bI aI : Int32) (nJ : Nat → Int32) (post : Int32 → Prop) (hw : wp_X3_standingsAt post p0 p1 bD nJ) : Met l yX3_standingsAt (gw yX3_standingsAt cX3_standingsAt 5 (some .int)) rm_X3_standingsAt (va_Pc [.ref wJ, .int p0, .int p1] (gPre (dC, dI) (tyl cI cC cZ cB cJ) (wd_X3_standingsAt cI cC cZ cB cJ wJ tX jE mX pD oO oQ eG bZ bD bI aI nJ) sz)) (q_X3_standingsAt dC dI cI cC cZ cB cJ (va_A (wd_X3_standingsAt cI cC cZ cB cJ wJ tX jE mX pD oO oQ eG bZ bD bI aI nJ) sz) wJ tX jE mX pD oO oQ eG bZ bD bI aI nJ post) 0 0 (va_A (wd_X3_standingsAt cI cC cZ cB cJ wJ tX jE mX pD oO oQ eG bZ bD bI aI nJ) sz) := by
  refine g_enter (own := RX3) (dC, dI) (tyl cI cC cZ cB cJ) (wd_X3_standingsAt cI cC cZ cB cJ wJ tX jE mX pD oO oQ eG bZ bD bI aI nJ) sz [.ref wJ, .int p0, .int p1] (fun A => q_X3_standingsAt dC dI cI cC cZ cB cJ A wJ tX jE mX pD oO oQ eG bZ bD bI aI nJ post) pn_RX3 rfl (Nat.le_of_ble_eq_true rfl) ?_
  intro p e s m args below meth c A H locs ls C0 hP hD hS hl
  have hl : lv_has ls 5 [(0, .ref wJ), (1, .int p0), (2, .int p1)] := hl
  obtain ⟨hx, hb, hr, hml, hown, hts, hlocks, hA, hK, hN, tL, tM, hZL, hTL, hZM, hTM, hZX⟩ := id C0
  have hp := hw
  unfold wp_X3_standingsAt at hp
  refine lv_iconst (v := 0) hx hb eX3_standingsAt_0.1 ic_0 ?_
  refine lv_istore_n (lv' := [(3, .int 0), (0, .ref wJ), (1, .int p0), (2, .int p1)]) hx hb eX3_standingsAt_0.2.1 rfl hl (by decide) rfl (fun ls hl => ?_)
  refine lv_iconst (v := 0) hx hb eX3_standingsAt_0.2.2.1 ic_0 ?_
  refine lv_istore (lv' := [(4, .int 0), (3, .int 0), (0, .ref wJ), (1, .int p0), (2, .int p1)]) hx hb eX3_standingsAt_0.2.2.2.1 hl (by decide) rfl (fun ls hl => ?_)
  obtain ⟨n9, hp⟩ := hp
  exact kb_X3_standingsAt_5 C0 n9 p0 p1 0 0 H locs ls hp hP hD hS (lv_sub hl [2, 3, 4, 1, 0] rfl)
noncomputable abbrev wd_X9_marks (cI cC cZ cB cJ : ClassId) (a_x xG xD wY wJ wQ xI xK xJ tW tX jE mX pD oO oQ eG : Nat) (bZ bD bI aI : Int32) (nJ : Nat → Int32) : va_W := [(a_x, .inr (9, [.ref xG, .ref xD, .ref wY, .ref wJ, .ref wQ, .ref xI, .ref xK, .ref xJ, .ref tW])), (wJ, .inr (3, [.ref tX, .ref jE, .ref mX, .ref pD, .ref oO, .ref oQ, .ref eG, .int bZ, .int bD, .int bI, .int aI])), (oO, .inl (cI, 8, .inl nJ))]
noncomputable abbrev q_X9_marks (dC : Nat → ClassId) (dI : Nat → Nat → Nat) (cI cC cZ cB cJ : ClassId) (A : Nat → Prop) (a_x xG xD wY wJ wQ xI xK xJ tW tX jE mX pD oO oQ eG : Nat) (bZ bD bI aI : Int32) (nJ : Nat → Int32) (post : Int32 → Prop) : Array Value → State → Outcome → State → Prop := va_Qi (fun (r : Int32) (u : Unit) => post r) (fun u t => gB (dC, dI) (tyl cI cC cZ cB cJ) A (wd_X9_marks cI cC cZ cB cJ a_x xG xD wY wJ wQ xI xK xJ tW tX jE mX pD oO oQ eG bZ bD bI aI nJ) t) A
noncomputable abbrev rm_X9_marks : Room := { frames := 2, cells := 0, slots := 0, locals := 45 }
noncomputable def wp_X9_marks (post : Int32 → Prop) (p0 p1 bD : Int32) (nJ : Nat → Int32) : Prop := (p0 < 0 → post (-1)) ∧ (¬ p0 < 0 → (99 < p0 → post (-1)) ∧ (¬ 99 < p0 → (p1 < 0 → post (-1)) ∧ (¬ p1 < 0 → (p1 ≤ 99 → wp_X3_standingsAt (fun r_1 => post r_1) p0 p1 bD nJ) ∧ (¬ p1 ≤ 99 → post (-1)))))
set_option maxHeartbeats 4000000 in
set_option maxRecDepth 100000 in
theorem c_X9_marks (l : Launch) (dC : Nat → ClassId) (dI : Nat → Nat → Nat) (cI cC cZ cB cJ : ClassId) (a_x xG xD wY wJ wQ xI xK xJ tW tX jE mX pD oO oQ eG sz : Nat) (p0 p1 bZ bD bI aI : Int32) (nJ : Nat → Int32) (post : Int32 → Prop) (hw : wp_X9_marks post p0 p1 bD nJ) : Met l yX9_marks (gw yX9_marks cX9_marks 3 (some .int)) rm_X9_marks (va_Pc [.ref a_x, .int p0, .int p1] (gPre (dC, dI) (tyl cI cC cZ cB cJ) (wd_X9_marks cI cC cZ cB cJ a_x xG xD wY wJ wQ xI xK xJ tW tX jE mX pD oO oQ eG bZ bD bI aI nJ) sz)) (q_X9_marks dC dI cI cC cZ cB cJ (va_A (wd_X9_marks cI cC cZ cB cJ a_x xG xD wY wJ wQ xI xK xJ tW tX jE mX pD oO oQ eG bZ bD bI aI nJ) sz) a_x xG xD wY wJ wQ xI xK xJ tW tX jE mX pD oO oQ eG bZ bD bI aI nJ post) 0 0 (va_A (wd_X9_marks cI cC cZ cB cJ a_x xG xD wY wJ wQ xI xK xJ tW tX jE mX pD oO oQ eG bZ bD bI aI nJ) sz) := by
  refine g_enter (own := RX9) (dC, dI) (tyl cI cC cZ cB cJ) (wd_X9_marks cI cC cZ cB cJ a_x xG xD wY wJ wQ xI xK xJ tW tX jE mX pD oO oQ eG bZ bD bI aI nJ) sz [.ref a_x, .int p0, .int p1] (fun A => q_X9_marks dC dI cI cC cZ cB cJ A a_x xG xD wY wJ wQ xI xK xJ tW tX jE mX pD oO oQ eG bZ bD bI aI nJ post) pn_RX9 rfl (Nat.le_of_ble_eq_true rfl) ?_
  intro p e s m args below meth c A H locs ls C0 hP hD hS hl
  have hl : lv_has ls 3 [(0, .ref a_x), (1, .int p0), (2, .int p1)] := hl
  obtain ⟨hx, hb, hr, hml, hown, hts, hlocks, hA, hK, hN, tL, tM, hZL, hTL, hZM, hTM, hZX⟩ := id C0
  have hp := hw
  unfold wp_X9_marks at hp
  refine lv_iload_n hx hb eX9_marks_0.1 rfl (lv_at hl 1 rfl) ?_
  refine lv_if_lt (tgt := 20) hx hb eX9_marks_0.2.1 (by decide) (fun hc => ?_) (fun hc => ?_)
  · have hp := hp.1 hc
    refine lv_iconst (v := (-1)) hx hb eX9_marks_0.2.2.2.2.2.2.2.2.2.2.1 ic_m1 ?_
    exact W.iret (v := (-1)) hx hb hr (fun t ht hW => ⟨⟨(-1), (), rfl, hp, by rw [ht]; exact hP, va_K.moved hW.alike hK, hD⟩, hS.F ht⟩) hS.2.2 eX9_marks_0.2.2.2.2.2.2.2.2.2.2.2.1
  · have hp := hp.2 hc
    refine lv_iload_n hx hb eX9_marks_0.2.2.1 rfl (lv_at hl 1 rfl) ?_
    refine lv_bipush (v := 99) hx hb eX9_marks_0.2.2.2.1 bp_99 ?_
    refine lv_icmp_gt (tgt := 20) hx hb eX9_marks_0.2.2.2.2.1 (by decide) (fun hc => ?_) (fun hc => ?_)
    · have hp := hp.1 hc
      refine lv_iconst (v := (-1)) hx hb eX9_marks_0.2.2.2.2.2.2.2.2.2.2.1 ic_m1 ?_
      exact W.iret (v := (-1)) hx hb hr (fun t ht hW => ⟨⟨(-1), (), rfl, hp, by rw [ht]; exact hP, va_K.moved hW.alike hK, hD⟩, hS.F ht⟩) hS.2.2 eX9_marks_0.2.2.2.2.2.2.2.2.2.2.2.1
    · have hp := hp.2 hc
      refine lv_iload_n hx hb eX9_marks_0.2.2.2.2.2.1 rfl (lv_at hl 2 rfl) ?_
      refine lv_if_lt (tgt := 20) hx hb eX9_marks_0.2.2.2.2.2.2.1 (by decide) (fun hc => ?_) (fun hc => ?_)
      · have hp := hp.1 hc
        refine lv_iconst (v := (-1)) hx hb eX9_marks_0.2.2.2.2.2.2.2.2.2.2.1 ic_m1 ?_
        exact W.iret (v := (-1)) hx hb hr (fun t ht hW => ⟨⟨(-1), (), rfl, hp, by rw [ht]; exact hP, va_K.moved hW.alike hK, hD⟩, hS.F ht⟩) hS.2.2 eX9_marks_0.2.2.2.2.2.2.2.2.2.2.2.1
      · have hp := hp.2 hc
        refine lv_iload_n hx hb eX9_marks_0.2.2.2.2.2.2.2.1 rfl (lv_at hl 2 rfl) ?_
        refine lv_bipush (v := 99) hx hb eX9_marks_0.2.2.2.2.2.2.2.2.1 bp_99 ?_
        refine lv_icmp_le (tgt := 22) hx hb eX9_marks_0.2.2.2.2.2.2.2.2.2.1 (by decide) (fun hc => ?_) (fun hc => ?_)
        · have hp := hp.1 hc
          refine lv_aload_n hx hb eX9_marks_0.2.2.2.2.2.2.2.2.2.2.2.2.1 rfl (lv_at hl 0 rfl) ?_
          refine va_get (D := (dC, dI)) (ci := 9) (v := .ref wJ) (C := RX9) (T := TX9) (N := 9) hx hb hts i_X9 hown hK hP 0 rfl rfl 3 (Nat.le_of_ble_eq_true rfl) (hts _ q_74) (fun _ h9 => h9) rfl eX9_marks_0.2.2.2.2.2.2.2.2.2.2.2.2.2.1 ?_
          refine lv_iload_n hx hb eX9_marks_0.2.2.2.2.2.2.2.2.2.2.2.2.2.2.1 rfl (lv_at hl 1 rfl) ?_
          refine lv_iload_n hx hb eX9_marks_0.2.2.2.2.2.2.2.2.2.2.2.2.2.2.2 rfl (lv_at hl 2 rfl) ?_
          have hm := mgk (wc := (wd_X3_standingsAt cI cC cZ cB cJ wJ tX jE mX pD oO oQ eG bZ bD bI aI nJ)) hP mk_0 3 rfl rfl rfl
          refine g_calli hP hD hS hA (mixT mk_0) (mixF mk_0) hm.1 hm.2 (nd_F _) (dis_g _) (g_runV (As := [.int p0, .int p1]) (rest := []) C0 hP hD hS (mixT mk_0) hm.1 (nd_T _) 1 3 rfl rfl (c_X3_standingsAt l dC dI cI cC cZ cB cJ wJ tX jE mX pD oO oQ eG H.size p0 p1 bZ bD bI aI nJ _ hp) q_588 q_591 q_589 q_590 q_48 h_X3_standingsAt rfl rfl ⟨Nat.le_of_ble_eq_true rfl, Nat.le_of_ble_eq_true rfl⟩ rfl rfl hl.1 rfl (lv_room (Nat.le_of_ble_eq_true rfl)) eX9_marks_28.1 ⟨Nat.zero_le _, Nat.zero_le _⟩) (fun r_1 u H locs hp hP hD hS => ?_)
          have hPD := PDm (ws' := (wd_X9_marks cI cC cZ cB cJ a_x xG xD wY wJ wQ xI xK xJ tW tX jE mX pD oO oQ eG bZ bD bI aI nJ)) hP hD 3 rfl rfl rfl
          have hP := hPD.1
          have hD := hPD.2
          exact W.iret (v := r_1) hx hb hr (fun t ht hW => ⟨⟨r_1, (), rfl, hp, by rw [ht]; exact hP, va_K.moved hW.alike hK, hD⟩, hS.F ht⟩) hS.2.2 eX9_marks_28.2
        · have hp := hp.2 hc
          refine lv_iconst (v := (-1)) hx hb eX9_marks_0.2.2.2.2.2.2.2.2.2.2.1 ic_m1 ?_
          exact W.iret (v := (-1)) hx hb hr (fun t ht hW => ⟨⟨(-1), (), rfl, hp, by rw [ht]; exact hP, va_K.moved hW.alike hK, hD⟩, hS.F ht⟩) hS.2.2 eX9_marks_0.2.2.2.2.2.2.2.2.2.2.2.1
noncomputable abbrev wd_X1_readAll (cI cC cZ cB cJ : ClassId) (xG uT xJ xL wX : Nat) (qI qJ rY : Int32) (qM : Nat → Int32) (vJ : Int32) (xB : Nat → Int32) : va_W := [(xG, .inr (8, [.ref uT, .int qI, .int qJ, .int rY])), (uT, .inl (cC, 80, .inl qM)), (xJ, .inr (1, [.ref xL, .ref wX, .int vJ])), (xL, .inl (cI, 6, .inl xB))]
noncomputable abbrev q_X1_readAll (dC : Nat → ClassId) (dI : Nat → Nat → Nat) (cI cC cZ cB cJ : ClassId) (A : Nat → Prop) (xG uT xJ xL wX : Nat) (qI rY : Int32) (qM : Nat → Int32) (post : Int32 → Int32 → Int32 → (Nat → Int32) → Prop) : Array Value → State → Outcome → State → Prop := va_Qi (fun (r : Int32) (u : Int32 × Int32 × (Nat → Int32)) => post r u.1 u.2.1 u.2.2) (fun u t => gB (dC, dI) (tyl cI cC cZ cB cJ) A (wd_X1_readAll cI cC cZ cB cJ xG uT xJ xL wX qI u.1 rY qM u.2.1 u.2.2) t) A
noncomputable abbrev rm_X1_readAll : Room := { frames := 2, cells := 0, slots := 0, locals := 45 }
section S_X1_readAll
variable {p : Program} {l : Launch} {e : Env} {s : State} {m : MethodId} {args : Array Value} {below : List Frame} {meth : Method} {c : Code} {dC : Nat → ClassId} {dI : Nat → Nat → Nat} {cI cC cZ cB cJ : ClassId} {A : Nat → Prop} {xG uT xJ xL wX : Nat} {qI rY : Int32} {qM : Nat → Int32} {post : Int32 → Int32 → Int32 → (Nat → Int32) → Prop}
noncomputable def ws_X1_readAll_5 (post : Int32 → Int32 → Int32 → (Nat → Int32) → Prop) (next : Int32 → Int32 → (Nat → Int32) → Prop) (qI rY : Int32) (qM : Nat → Int32) (qJ vJ : Int32) (xB : Nat → Int32) : Prop := (6 ≤ vJ → post 0 qJ vJ xB) ∧ (¬ 6 ≤ vJ → wp_X8_readNumber (fun r_1 xO => (¬ r_1 = (-1) → vp_in vJ 6 ∧ (wp_X8_take (fun r_3 xU => (¬ r_3 = 0 → ∀ v_5 : Int32, v_5 = vJ + 1 → next xU v_5 (upd xB vJ.toNatClampNeg r_1)) ∧ (r_3 = 0 → ∀ v_6 : Int32, v_6 = vJ + 1 → wp_X8_isThrough (fun r_7 => narrow .boolean (.int r_7) = .int r_7 ∧ post r_7 xU v_6 (upd xB vJ.toNatClampNeg r_1)) qI xU)) 44 xO rY qM)) ∧ (r_1 = (-1) → post 0 xO vJ xB)) 2 qJ rY qM)
noncomputable def wb_X1_readAll_5 (post : Int32 → Int32 → Int32 → (Nat → Int32) → Prop) (qI rY : Int32) (qM : Nat → Int32) : Nat → Int32 → Int32 → (Nat → Int32) → Prop := fun n => Nat.rec (motive := fun _ => Int32 → Int32 → (Nat → Int32) → Prop) (fun _ _ _ => False) (fun _ ih => ws_X1_readAll_5 post ih qI rY qM) n
set_option maxHeartbeats 4000000 in
set_option maxRecDepth 100000 in
theorem ks_X1_readAll_5 (C0 : gc cX1_readAll (some .boolean) 3 RX1 (dC, dI) (tyl cI cC cZ cB cJ) A p s m args meth c) {next : Int32 → Int32 → (Nat → Int32) → Prop} (hKn : ∀ (qJ : Int32) (vJ : Int32) (xB : Nat → Int32) (H : Heap) (locs : List Loc) (ls : Array Slot), next qJ vJ xB → va_P (dC, dI) classes (wd_X1_readAll cI cC cZ cB cJ xG uT xJ xL wX qI qJ rY qM vJ xB) H → va_D A (wd_X1_readAll cI cC cZ cB cJ xG uT xJ xL wX qI qJ rY qM vJ xB) → va_S A s.heap H locs → lv_has ls 3 [(0, .ref xJ), (1, .ref xG)] → W p l e rm_X1_readAll s m args below meth c H locs 0 0 (MQ below (q_X1_readAll dC dI cI cC cZ cB cJ A xG uT xJ xL wX qI rY qM post) args s 0 0 A) (F0 m 5 ls [])) : ∀ (qJ vJ : Int32) (xB : Nat → Int32) (H : Heap) (locs : List Loc) (ls : Array Slot), (ws_X1_readAll_5 post next qI rY qM) qJ vJ xB → va_P (dC, dI) classes (wd_X1_readAll cI cC cZ cB cJ xG uT xJ xL wX qI qJ rY qM vJ xB) H → va_D A (wd_X1_readAll cI cC cZ cB cJ xG uT xJ xL wX qI qJ rY qM vJ xB) → va_S A s.heap H locs → lv_has ls 3 [(0, .ref xJ), (1, .ref xG)] → W p l e rm_X1_readAll s m args below meth c H locs 0 0 (MQ below (q_X1_readAll dC dI cI cC cZ cB cJ A xG uT xJ xL wX qI rY qM post) args s 0 0 A) (F0 m 5 ls []) := by
  obtain ⟨hx, hb, hr, hml, hown, hts, hlocks, hA, hK, hN, tL, tM, hZL, hTL, hZM, hTM, hZX⟩ := id C0
  intro qJ vJ xB H locs ls hp hP hD hS hl
  unfold ws_X1_readAll_5 at hp
  refine lv_aload_n hx hb eX1_readAll_0.2.2.2.1 rfl (lv_at hl 0 rfl) ?_
  refine va_get (D := (dC, dI)) (ci := 1) (v := .int vJ) (C := RX1) (T := TX1) (N := 3) hx hb hts i_X1 hown hK hP 2 rfl rfl 2 (Nat.le_of_ble_eq_true rfl) (hts _ q_592) (fun _ h9 => h9) rfl eX1_readAll_0.2.2.2.2.1 ?_
  refine lv_bipush (v := 6) hx hb eX1_readAll_0.2.2.2.2.2.1 bp_6 ?_
  refine lv_icmp_ge (tgt := 74) hx hb eX1_readAll_0.2.2.2.2.2.2.1 (by decide) (fun hc => ?_) (fun hc => ?_)
  · have hp := hp.1 hc
    refine lv_iconst (v := 0) hx hb eX1_readAll_56.2.2.2.2.2.2.2.2.2.2.1 ic_0 ?_
    exact W.zret (v := 0) hx hb hr rfl (fun t ht hW => ⟨⟨0, (qJ, vJ, xB), rfl, hp, by rw [ht]; exact hP, va_K.moved hW.alike hK, hD⟩, hS.F ht⟩) hS.2.2 eX1_readAll_56.2.2.2.2.2.2.2.2.2.2.2
  · have hp := hp.2 hc
    refine lv_aload_n hx hb eX1_readAll_0.2.2.2.2.2.2.2.1 rfl (lv_at hl 1 rfl) ?_
    refine lv_iconst (v := 2) hx hb eX1_readAll_0.2.2.2.2.2.2.2.2.1 ic_2 ?_
    have hm := mgk (wc := (wd_X8_readNumber cI cC cZ cB cJ xG uT qI qJ rY qM)) hP mk_1 4 rfl rfl rfl
    refine g_calli hP hD hS hA (mixT mk_1) (mixF mk_1) hm.1 hm.2 (nd_F _) (dis_g _) (g_runV (As := [.int 2]) (rest := []) C0 hP hD hS (mixT mk_1) hm.1 (nd_T _) 0 8 rfl rfl (c_X8_readNumber l dC dI cI cC cZ cB cJ xG uT H.size 2 qI qJ rY qM _ hp) q_37 q_593 q_38 q_39 q_5 h_X8_readNumber rfl rfl ⟨Nat.le_of_ble_eq_true rfl, Nat.le_of_ble_eq_true rfl⟩ rfl rfl hl.1 rfl (lv_room (Nat.le_of_ble_eq_true rfl)) eX1_readAll_0.2.2.2.2.2.2.2.2.2.1 ⟨Nat.zero_le _, Nat.zero_le _⟩) (fun r_1 u H locs hp hP hD hS => ?_)
    obtain ⟨xO, rfl⟩ : ∃ z, z = u := ⟨_, rfl⟩
    have hPD := PDm (ws' := (wd_X1_readAll cI cC cZ cB cJ xG uT xJ xL wX qI xO rY qM vJ xB)) hP hD 4 rfl rfl rfl
    have hP := hPD.1
    have hD := hPD.2
    refine lv_istore_n (lv' := [(2, .int r_1), (0, .ref xJ), (1, .ref xG)]) hx hb eX1_readAll_0.2.2.2.2.2.2.2.2.2.2.1 rfl hl (by decide) rfl (fun ls hl => ?_)
    refine lv_iload_n hx hb eX1_readAll_0.2.2.2.2.2.2.2.2.2.2.2.1 rfl (lv_at hl 0 rfl) ?_
    refine lv_iconst (v := (-1)) hx hb eX1_readAll_0.2.2.2.2.2.2.2.2.2.2.2.2.1 ic_m1 ?_
    refine lv_icmp_ne (tgt := 27) hx hb eX1_readAll_0.2.2.2.2.2.2.2.2.2.2.2.2.2.1 (by decide) (fun hc => ?_) (fun hc => ?_)
    · have hp := hp.1 hc
      refine lv_aload_n hx hb eX1_readAll_27.1 rfl (lv_at hl 1 rfl) ?_
      refine va_get (D := (dC, dI)) (ci := 1) (v := .ref xL) (C := RX1) (T := TX1) (N := 3) hx hb hts i_X1 hown hK hP 2 rfl rfl 0 (Nat.le_of_ble_eq_true rfl) (hts _ q_594) (fun _ h9 => h9) rfl eX1_readAll_27.2.1 ?_
      refine lv_aload_n hx hb eX1_readAll_27.2.2.1 rfl (lv_at hl 1 rfl) ?_
      refine va_get (D := (dC, dI)) (ci := 1) (v := .int vJ) (C := RX1) (T := TX1) (N := 3) hx hb hts i_X1 hown hK hP 2 rfl rfl 2 (Nat.le_of_ble_eq_true rfl) (hts _ q_592) (fun _ h9 => h9) rfl eX1_readAll_27.2.2.2.1 ?_
      refine lv_iload_n hx hb eX1_readAll_27.2.2.2.2.1 rfl (lv_at hl 0 rfl) ?_
      have hin := hp.1
      have hp := hp.2
      refine va_iast hx hb hK hP hD hS 3 0 rfl rfl hin eX1_readAll_27.2.2.2.2.2.1 (fun H locs hP hD hS => ?_)
      have hP : va_P (dC, dI) classes (wd_X1_readAll cI cC cZ cB cJ xG uT xJ xL wX qI xO rY qM vJ (upd xB vJ.toNatClampNeg r_1)) H := hP
      have hD : va_D A (wd_X1_readAll cI cC cZ cB cJ xG uT xJ xL wX qI xO rY qM vJ (upd xB vJ.toNatClampNeg r_1)) := hD
      refine lv_aload_n hx hb eX1_readAll_27.2.2.2.2.2.2.1 rfl (lv_at hl 2 rfl) ?_
      refine lv_bipush (v := 44) hx hb eX1_readAll_27.2.2.2.2.2.2.2.1 bp_44 ?_
      have hm := mgk (wc := (wd_X8_take cI cC cZ cB cJ xG uT qI xO rY qM)) hP mk_1 4 rfl rfl rfl
      refine g_calli hP hD hS hA (mixT mk_1) (mixF mk_1) hm.1 hm.2 (nd_F _) (dis_g _) (g_runV (As := [.int 44]) (rest := []) C0 hP hD hS (mixT mk_1) hm.1 (nd_T _) 0 8 rfl rfl (c_X8_take l dC dI cI cC cZ cB cJ xG uT H.size 44 qI xO rY qM _ hp) q_41 q_595 q_42 q_43 q_5 h_X8_take rfl rfl ⟨Nat.le_of_ble_eq_true rfl, Nat.le_of_ble_eq_true rfl⟩ rfl rfl hl.1 rfl (lv_room (Nat.le_of_ble_eq_true rfl)) eX1_readAll_27.2.2.2.2.2.2.2.2.1 ⟨Nat.zero_le _, Nat.zero_le _⟩) (fun r_3 u H locs hp hP hD hS => ?_)
      obtain ⟨xU, rfl⟩ : ∃ z, z = u := ⟨_, rfl⟩
      have hPD := PDm (ws' := (wd_X1_readAll cI cC cZ cB cJ xG uT xJ xL wX qI xU rY qM vJ (upd xB vJ.toNatClampNeg r_1))) hP hD 4 rfl rfl rfl
      have hP := hPD.1
      have hD := hPD.2
      refine lv_if_ne (tgt := 61) hx hb eX1_readAll_27.2.2.2.2.2.2.2.2.2.1 (by decide) (fun hc => ?_) (fun hc => ?_)
      · have hp := hp.1 hc
        refine lv_aload_n hx hb eX1_readAll_56.2.2.2.1 rfl (lv_at hl 1 rfl) ?_
        refine lv_dup hx hb eX1_readAll_56.2.2.2.2.1 rfl ?_
        refine va_get (D := (dC, dI)) (ci := 1) (v := .int vJ) (C := RX1) (T := TX1) (N := 3) hx hb hts i_X1 hown hK hP 2 rfl rfl 2 (Nat.le_of_ble_eq_true rfl) (hts _ q_592) (fun _ h9 => h9) rfl eX1_readAll_56.2.2.2.2.2.1 ?_
        refine lv_iconst (v := 1) hx hb eX1_readAll_56.2.2.2.2.2.2.1 ic_1 ?_
        refine lv_iadd hx hb eX1_readAll_56.2.2.2.2.2.2.2.1 ?_
        refine lv_topi (fun v_5 ev_5 => ?_)
        have hp := hp v_5 ev_5
        refine va_put (D := (dC, dI)) (ci := 1) (v := .int v_5) (ty := .int) (C := RX1) (T := TX1) (N := 3) hx hb hts i_X1 tyX1 tyX1_ok nmX1 hown hK hP hD hS 2 rfl rfl 2 (Nat.le_of_ble_eq_true rfl) (hts _ q_592) (fun _ h9 => h9) rfl (tyX1_ok 2 (Nat.le_of_ble_eq_true rfl)) rfl rfl (Nat.le_of_ble_eq_true rfl) eX1_readAll_56.2.2.2.2.2.2.2.2.1 (fun H locs hP hD hS => ?_)
        have hP : va_P (dC, dI) classes (wd_X1_readAll cI cC cZ cB cJ xG uT xJ xL wX qI xU rY qM v_5 (upd xB vJ.toNatClampNeg r_1)) H := hP
        have hD : va_D A (wd_X1_readAll cI cC cZ cB cJ xG uT xJ xL wX qI xU rY qM v_5 (upd xB vJ.toNatClampNeg r_1)) := hD
        refine lv_goto (tgt := 5) hx hb eX1_readAll_56.2.2.2.2.2.2.2.2.2.1 (by decide) ?_
        exact hKn xU v_5 (upd xB vJ.toNatClampNeg r_1) H locs ls hp hP hD hS (lv_sub hl [1, 2] rfl)
      · have hp := hp.2 hc
        refine lv_aload_n hx hb eX1_readAll_27.2.2.2.2.2.2.2.2.2.2.1 rfl (lv_at hl 1 rfl) ?_
        refine lv_dup hx hb eX1_readAll_27.2.2.2.2.2.2.2.2.2.2.2.1 rfl ?_
        refine va_get (D := (dC, dI)) (ci := 1) (v := .int vJ) (C := RX1) (T := TX1) (N := 3) hx hb hts i_X1 hown hK hP 2 rfl rfl 2 (Nat.le_of_ble_eq_true rfl) (hts _ q_592) (fun _ h9 => h9) rfl eX1_readAll_27.2.2.2.2.2.2.2.2.2.2.2.2.1 ?_
        refine lv_iconst (v := 1) hx hb eX1_readAll_27.2.2.2.2.2.2.2.2.2.2.2.2.2.1 ic_1 ?_
        refine lv_iadd hx hb eX1_readAll_27.2.2.2.2.2.2.2.2.2.2.2.2.2.2.1 ?_
        refine lv_topi (fun v_6 ev_6 => ?_)
        have hp := hp v_6 ev_6
        refine va_put (D := (dC, dI)) (ci := 1) (v := .int v_6) (ty := .int) (C := RX1) (T := TX1) (N := 3) hx hb hts i_X1 tyX1 tyX1_ok nmX1 hown hK hP hD hS 2 rfl rfl 2 (Nat.le_of_ble_eq_true rfl) (hts _ q_592) (fun _ h9 => h9) rfl (tyX1_ok 2 (Nat.le_of_ble_eq_true rfl)) rfl rfl (Nat.le_of_ble_eq_true rfl) eX1_readAll_27.2.2.2.2.2.2.2.2.2.2.2.2.2.2.2 (fun H locs hP hD hS => ?_)
        have hP : va_P (dC, dI) classes (wd_X1_readAll cI cC cZ cB cJ xG uT xJ xL wX qI xU rY qM v_6 (upd xB vJ.toNatClampNeg r_1)) H := hP
        have hD : va_D A (wd_X1_readAll cI cC cZ cB cJ xG uT xJ xL wX qI xU rY qM v_6 (upd xB vJ.toNatClampNeg r_1)) := hD
        refine lv_aload_n hx hb eX1_readAll_56.1 rfl (lv_at hl 2 rfl) ?_
        have hm := mgk (wc := (wd_X8_isThrough cI cC cZ cB cJ xG uT qI xU rY)) hP mk_15 4 rfl rfl rfl
        refine g_calli hP hD hS hA (mixT mk_15) (mixF mk_15) hm.1 hm.2 (nd_F _) (dis_g _) (g_runV (As := []) (rest := []) C0 hP hD hS (mixT mk_15) hm.1 (nd_T _) 0 8 rfl rfl (c_X8_isThrough l dC dI cI cC cZ cB cJ xG uT H.size qI xU rY _ hp) q_97 q_596 q_98 q_99 q_5 h_X8_isThrough rfl rfl ⟨Nat.le_of_ble_eq_true rfl, Nat.le_of_ble_eq_true rfl⟩ rfl rfl hl.1 rfl (lv_room (Nat.le_of_ble_eq_true rfl)) eX1_readAll_56.2.1 ⟨Nat.zero_le _, Nat.zero_le _⟩) (fun r_7 u H locs hp hP hD hS => ?_)
        have hPD := PDm (ws' := (wd_X1_readAll cI cC cZ cB cJ xG uT xJ xL wX qI xU rY qM v_6 (upd xB vJ.toNatClampNeg r_1))) hP hD 4 rfl rfl rfl
        have hP := hPD.1
        have hD := hPD.2
        have hnz := hp.1
        have hp := hp.2
        exact W.zret (v := r_7) hx hb hr hnz (fun t ht hW => ⟨⟨r_7, (xU, v_6, (upd xB vJ.toNatClampNeg r_1)), rfl, hp, by rw [ht]; exact hP, va_K.moved hW.alike hK, hD⟩, hS.F ht⟩) hS.2.2 eX1_readAll_56.2.2.1
    · have hp := hp.2 hc
      refine lv_iconst (v := 0) hx hb eX1_readAll_0.2.2.2.2.2.2.2.2.2.2.2.2.2.2.1 ic_0 ?_
      exact W.zret (v := 0) hx hb hr rfl (fun t ht hW => ⟨⟨0, (xO, vJ, xB), rfl, hp, by rw [ht]; exact hP, va_K.moved hW.alike hK, hD⟩, hS.F ht⟩) hS.2.2 eX1_readAll_0.2.2.2.2.2.2.2.2.2.2.2.2.2.2.2
set_option maxHeartbeats 4000000 in
set_option maxRecDepth 100000 in
theorem kb_X1_readAll_5 (C0 : gc cX1_readAll (some .boolean) 3 RX1 (dC, dI) (tyl cI cC cZ cB cJ) A p s m args meth c) : ∀ (n : Nat), ∀ (qJ vJ : Int32) (xB : Nat → Int32) (H : Heap) (locs : List Loc) (ls : Array Slot), (wb_X1_readAll_5 post qI rY qM n) qJ vJ xB → va_P (dC, dI) classes (wd_X1_readAll cI cC cZ cB cJ xG uT xJ xL wX qI qJ rY qM vJ xB) H → va_D A (wd_X1_readAll cI cC cZ cB cJ xG uT xJ xL wX qI qJ rY qM vJ xB) → va_S A s.heap H locs → lv_has ls 3 [(0, .ref xJ), (1, .ref xG)] → W p l e rm_X1_readAll s m args below meth c H locs 0 0 (MQ below (q_X1_readAll dC dI cI cC cZ cB cJ A xG uT xJ xL wX qI rY qM post) args s 0 0 A) (F0 m 5 ls []) := by
  intro n
  induction n with
  | zero =>
    intro qJ vJ xB H locs ls hp
    exact False.elim hp
  | succ n ih =>
    intro qJ vJ xB H locs ls hp
    exact ks_X1_readAll_5 C0 ih qJ vJ xB H locs ls hp
end S_X1_readAll
noncomputable def wp_X1_readAll (post : Int32 → Int32 → Int32 → (Nat → Int32) → Prop) (qI qJ rY : Int32) (qM : Nat → Int32) (vJ : Int32) (xB : Nat → Int32) : Prop := ∃ n : Nat, wb_X1_readAll_5 post qI rY qM n qJ 0 xB
set_option maxHeartbeats 4000000 in
set_option maxRecDepth 100000 in
theorem c_X1_readAll (l : Launch) (dC : Nat → ClassId) (dI : Nat → Nat → Nat) (cI cC cZ cB cJ : ClassId) (xG uT xJ xL wX sz : Nat) (qI qJ rY : Int32) (qM : Nat → Int32) (vJ : Int32) (xB : Nat → Int32) (post : Int32 → Int32 → Int32 → (Nat → Int32) → Prop) (hw : wp_X1_readAll post qI qJ rY qM vJ xB) : Met l yX1_readAll (gw yX1_readAll cX1_readAll 3 (some .boolean)) rm_X1_readAll (va_Pc [.ref xJ, .ref xG] (gPre (dC, dI) (tyl cI cC cZ cB cJ) (wd_X1_readAll cI cC cZ cB cJ xG uT xJ xL wX qI qJ rY qM vJ xB) sz)) (q_X1_readAll dC dI cI cC cZ cB cJ (va_A (wd_X1_readAll cI cC cZ cB cJ xG uT xJ xL wX qI qJ rY qM vJ xB) sz) xG uT xJ xL wX qI rY qM post) 0 0 (va_A (wd_X1_readAll cI cC cZ cB cJ xG uT xJ xL wX qI qJ rY qM vJ xB) sz) := by
  refine g_enter (own := RX1) (dC, dI) (tyl cI cC cZ cB cJ) (wd_X1_readAll cI cC cZ cB cJ xG uT xJ xL wX qI qJ rY qM vJ xB) sz [.ref xJ, .ref xG] (fun A => q_X1_readAll dC dI cI cC cZ cB cJ A xG uT xJ xL wX qI rY qM post) pn_RX1 rfl (Nat.le_of_ble_eq_true rfl) ?_
  intro p e s m args below meth c A H locs ls C0 hP hD hS hl
  have hl : lv_has ls 3 [(0, .ref xJ), (1, .ref xG)] := hl
  obtain ⟨hx, hb, hr, hml, hown, hts, hlocks, hA, hK, hN, tL, tM, hZL, hTL, hZM, hTM, hZX⟩ := id C0
  have hp := hw
  unfold wp_X1_readAll at hp
  refine lv_aload_n hx hb eX1_readAll_0.1 rfl (lv_at hl 0 rfl) ?_
  refine lv_iconst (v := 0) hx hb eX1_readAll_0.2.1 ic_0 ?_
  refine va_put (D := (dC, dI)) (ci := 1) (v := .int 0) (ty := .int) (C := RX1) (T := TX1) (N := 3) hx hb hts i_X1 tyX1 tyX1_ok nmX1 hown hK hP hD hS 2 rfl rfl 2 (Nat.le_of_ble_eq_true rfl) (hts _ q_592) (fun _ h9 => h9) rfl (tyX1_ok 2 (Nat.le_of_ble_eq_true rfl)) rfl rfl (Nat.le_of_ble_eq_true rfl) eX1_readAll_0.2.2.1 (fun H locs hP hD hS => ?_)
  have hP : va_P (dC, dI) classes (wd_X1_readAll cI cC cZ cB cJ xG uT xJ xL wX qI qJ rY qM 0 xB) H := hP
  have hD : va_D A (wd_X1_readAll cI cC cZ cB cJ xG uT xJ xL wX qI qJ rY qM 0 xB) := hD
  obtain ⟨n9, hp⟩ := hp
  exact kb_X1_readAll_5 C0 n9 qJ 0 xB H locs ls hp hP hD hS (lv_sub hl [0, 1] rfl)
noncomputable abbrev wd_X1_countRows (cI cC cZ cB cJ : ClassId) (wJ tX jE mX pD oO oQ eG xJ xL wX : Nat) (bZ bD bI aI : Int32) (nJ : Nat → Int32) (vJ : Int32) (xB vR : Nat → Int32) : va_W := [(wJ, .inr (3, [.ref tX, .ref jE, .ref mX, .ref pD, .ref oO, .ref oQ, .ref eG, .int bZ, .int bD, .int bI, .int aI])), (oO, .inl (cI, 8, .inl nJ)), (xJ, .inr (1, [.ref xL, .ref wX, .int vJ])), (xL, .inl (cI, 6, .inl xB)), (wX, .inl (cI, 48, .inl vR))]
noncomputable abbrev q_X1_countRows (dC : Nat → ClassId) (dI : Nat → Nat → Nat) (cI cC cZ cB cJ : ClassId) (A : Nat → Prop) (wJ tX jE mX pD oO oQ eG xJ xL wX : Nat) (bZ bD bI aI : Int32) (nJ : Nat → Int32) (vJ : Int32) (xB : Nat → Int32) (post : Int32 → (Nat → Int32) → Prop) : Array Value → State → Outcome → State → Prop := va_Qi (fun (r : Int32) (u : (Nat → Int32)) => post r u) (fun u t => gB (dC, dI) (tyl cI cC cZ cB cJ) A (wd_X1_countRows cI cC cZ cB cJ wJ tX jE mX pD oO oQ eG xJ xL wX bZ bD bI aI nJ vJ xB u) t) A
noncomputable abbrev rm_X1_countRows : Room := { frames := 2, cells := 0, slots := 0, locals := 45 }
section S_X1_countRows
variable {p : Program} {l : Launch} {e : Env} {s : State} {m : MethodId} {args : Array Value} {below : List Frame} {meth : Method} {c : Code} {dC : Nat → ClassId} {dI : Nat → Nat → Nat} {cI cC cZ cB cJ : ClassId} {A : Nat → Prop} {wJ tX jE mX pD oO oQ eG xJ xL wX : Nat} {bZ bD bI aI : Int32} {nJ : Nat → Int32} {vJ : Int32} {xB : Nat → Int32} {post : Int32 → (Nat → Int32) → Prop}
noncomputable def ws_X1_countRows_92 (post : Int32 → (Nat → Int32) → Prop) (K10 : Int32 → Int32 → Int32 → (Nat → Int32) → Prop) (K37 : Int32 → Int32 → Int32 → Int32 → Int32 → Int32 → (Nat → Int32) → Prop) (bD : Int32) (nJ : Nat → Int32) (vJ : Int32) (xB : Nat → Int32) (x2 x3 x4 x5 x6 x7 x8 : Int32) (vR : Nat → Int32) : Prop := ∀ v_6 : Int32, v_6 = x4 * 8 → ∀ v_7 : Int32, v_7 = v_6 + x7 → vp_in v_7 48 ∧ (∀ v_8 : Int32, v_8 = x3 + x8 → ∀ v_9 : Int32, v_9 = x7 + 1 → K37 x2 v_8 x4 x5 x6 v_9 (upd vR v_7.toNatClampNeg x8))
set_option maxHeartbeats 4000000 in
set_option maxRecDepth 100000 in
theorem ks_X1_countRows_92 (C0 : gc cX1_countRows (some .int) 9 RX1 (dC, dI) (tyl cI cC cZ cB cJ) A p s m args meth c) {K10 : Int32 → Int32 → Int32 → (Nat → Int32) → Prop} {K37 : Int32 → Int32 → Int32 → Int32 → Int32 → Int32 → (Nat → Int32) → Prop} (hK10 : ∀ (x2 : Int32) (x3 : Int32) (x4 : Int32) (vR : Nat → Int32) (H : Heap) (locs : List Loc) (ls : Array Slot), K10 x2 x3 x4 vR → va_P (dC, dI) classes (wd_X1_countRows cI cC cZ cB cJ wJ tX jE mX pD oO oQ eG xJ xL wX bZ bD bI aI nJ vJ xB vR) H → va_D A (wd_X1_countRows cI cC cZ cB cJ wJ tX jE mX pD oO oQ eG xJ xL wX bZ bD bI aI nJ vJ xB vR) → va_S A s.heap H locs → lv_has ls 9 [(0, .ref xJ), (1, .ref wJ), (2, .int x2), (3, .int x3), (4, .int x4)] → W p l e rm_X1_countRows s m args below meth c H locs 0 0 (MQ below (q_X1_countRows dC dI cI cC cZ cB cJ A wJ tX jE mX pD oO oQ eG xJ xL wX bZ bD bI aI nJ vJ xB post) args s 0 0 A) (F0 m 10 ls [])) (hK37 : ∀ (x2 : Int32) (x3 : Int32) (x4 : Int32) (x5 : Int32) (x6 : Int32) (x7 : Int32) (vR : Nat → Int32) (H : Heap) (locs : List Loc) (ls : Array Slot), K37 x2 x3 x4 x5 x6 x7 vR → va_P (dC, dI) classes (wd_X1_countRows cI cC cZ cB cJ wJ tX jE mX pD oO oQ eG xJ xL wX bZ bD bI aI nJ vJ xB vR) H → va_D A (wd_X1_countRows cI cC cZ cB cJ wJ tX jE mX pD oO oQ eG xJ xL wX bZ bD bI aI nJ vJ xB vR) → va_S A s.heap H locs → lv_has ls 9 [(0, .ref xJ), (1, .ref wJ), (2, .int x2), (3, .int x3), (4, .int x4), (5, .int x5), (6, .int x6), (7, .int x7)] → W p l e rm_X1_countRows s m args below meth c H locs 0 0 (MQ below (q_X1_countRows dC dI cI cC cZ cB cJ A wJ tX jE mX pD oO oQ eG xJ xL wX bZ bD bI aI nJ vJ xB post) args s 0 0 A) (F0 m 37 ls [])) : ∀ (x2 x3 x4 x5 x6 x7 x8 : Int32) (vR : Nat → Int32) (H : Heap) (locs : List Loc) (ls : Array Slot), (ws_X1_countRows_92 post K10 K37 bD nJ vJ xB) x2 x3 x4 x5 x6 x7 x8 vR → va_P (dC, dI) classes (wd_X1_countRows cI cC cZ cB cJ wJ tX jE mX pD oO oQ eG xJ xL wX bZ bD bI aI nJ vJ xB vR) H → va_D A (wd_X1_countRows cI cC cZ cB cJ wJ tX jE mX pD oO oQ eG xJ xL wX bZ bD bI aI nJ vJ xB vR) → va_S A s.heap H locs → lv_has ls 9 [(0, .ref xJ), (1, .ref wJ), (2, .int x2), (3, .int x3), (4, .int x4), (5, .int x5), (6, .int x6), (7, .int x7), (8, .int x8)] → W p l e rm_X1_countRows s m args below meth c H locs 0 0 (MQ below (q_X1_countRows dC dI cI cC cZ cB cJ A wJ tX jE mX pD oO oQ eG xJ xL wX bZ bD bI aI nJ vJ xB post) args s 0 0 A) (F0 m 92 ls []) := by
  obtain ⟨hx, hb, hr, hml, hown, hts, hlocks, hA, hK, hN, tL, tM, hZL, hTL, hZM, hTM, hZX⟩ := id C0
  intro x2 x3 x4 x5 x6 x7 x8 vR H locs ls hp hP hD hS hl
  unfold ws_X1_countRows_92 at hp
  refine lv_aload_n hx hb eX1_countRows_82.2.2.2.2.2.2.2.1 rfl (lv_at hl 0 rfl) ?_
  refine va_get (D := (dC, dI)) (ci := 1) (v := .ref wX) (C := RX1) (T := TX1) (N := 3) hx hb hts i_X1 hown hK hP 2 rfl rfl 1 (Nat.le_of_ble_eq_true rfl) (hts _ q_598) (fun _ h9 => h9) rfl eX1_countRows_82.2.2.2.2.2.2.2.2.1 ?_
  refine lv_iload hx hb eX1_countRows_82.2.2.2.2.2.2.2.2.2.1 (lv_at hl 4 rfl) ?_
  refine lv_bipush (v := 8) hx hb eX1_countRows_82.2.2.2.2.2.2.2.2.2.2.1 bp_8 ?_
  refine lv_imul hx hb eX1_countRows_82.2.2.2.2.2.2.2.2.2.2.2.1 ?_
  refine lv_topi (fun v_6 ev_6 => ?_)
  have hp := hp v_6 ev_6
  refine lv_iload hx hb eX1_countRows_82.2.2.2.2.2.2.2.2.2.2.2.2.1 (lv_at hl 7 rfl) ?_
  refine lv_iadd hx hb eX1_countRows_82.2.2.2.2.2.2.2.2.2.2.2.2.2.1 ?_
  refine lv_topi (fun v_7 ev_7 => ?_)
  have hp := hp v_7 ev_7
  refine lv_iload hx hb eX1_countRows_82.2.2.2.2.2.2.2.2.2.2.2.2.2.2.1 (lv_at hl 8 rfl) ?_
  have hin := hp.1
  have hp := hp.2
  refine va_iast hx hb hK hP hD hS 4 0 rfl rfl hin eX1_countRows_82.2.2.2.2.2.2.2.2.2.2.2.2.2.2.2 (fun H locs hP hD hS => ?_)
  have hP : va_P (dC, dI) classes (wd_X1_countRows cI cC cZ cB cJ wJ tX jE mX pD oO oQ eG xJ xL wX bZ bD bI aI nJ vJ xB (upd vR v_7.toNatClampNeg x8)) H := hP
  have hD : va_D A (wd_X1_countRows cI cC cZ cB cJ wJ tX jE mX pD oO oQ eG xJ xL wX bZ bD bI aI nJ vJ xB (upd vR v_7.toNatClampNeg x8)) := hD
  refine lv_iload_n hx hb eX1_countRows_107.1 rfl (lv_at hl 3 rfl) ?_
  refine lv_iload hx hb eX1_countRows_107.2.1 (lv_at hl 8 rfl) ?_
  refine lv_iadd hx hb eX1_countRows_107.2.2.1 ?_
  refine lv_topi (fun v_8 ev_8 => ?_)
  have hp := hp v_8 ev_8
  refine lv_istore_n (lv' := [(3, .int v_8), (0, .ref xJ), (1, .ref wJ), (2, .int x2), (4, .int x4), (5, .int x5), (6, .int x6), (7, .int x7), (8, .int x8)]) hx hb eX1_countRows_107.2.2.2.1 rfl hl (by decide) rfl (fun ls hl => ?_)
  obtain ⟨v_9, ev_9⟩ : ∃ y : Int32, y = x7 + 1 := ⟨_, rfl⟩
  refine lv_iinc (v := v_9) (lv' := [(7, .int v_9), (3, .int v_8), (0, .ref xJ), (1, .ref wJ), (2, .int x2), (4, .int x4), (5, .int x5), (6, .int x6), (8, .int x8)]) hx hb eX1_countRows_107.2.2.2.2.1 hl (k := 7) rfl (by rw [ev_9]; rfl) (by decide) rfl (fun ls hl => ?_)
  have hp := hp v_9 ev_9
  refine lv_goto (tgt := 37) hx hb eX1_countRows_107.2.2.2.2.2.1 (by decide) ?_
  exact hK37 x2 v_8 x4 x5 x6 v_9 (upd vR v_7.toNatClampNeg x8) H locs ls hp hP hD hS (lv_sub hl [2, 3, 4, 1, 5, 6, 7, 0] rfl)
noncomputable def ws_X1_countRows_90 (post : Int32 → (Nat → Int32) → Prop) (K10 : Int32 → Int32 → Int32 → (Nat → Int32) → Prop) (K37 : Int32 → Int32 → Int32 → Int32 → Int32 → Int32 → (Nat → Int32) → Prop) (bD : Int32) (nJ : Nat → Int32) (vJ : Int32) (xB : Nat → Int32) (x2 x3 x4 x5 x6 x7 k0 : Int32) (vR : Nat → Int32) : Prop := ws_X1_countRows_92 post K10 K37 bD nJ vJ xB x2 x3 x4 x5 x6 x7 k0 vR
set_option maxHeartbeats 4000000 in
set_option maxRecDepth 100000 in
theorem ks_X1_countRows_90 (C0 : gc cX1_countRows (some .int) 9 RX1 (dC, dI) (tyl cI cC cZ cB cJ) A p s m args meth c) {K10 : Int32 → Int32 → Int32 → (Nat → Int32) → Prop} {K37 : Int32 → Int32 → Int32 → Int32 → Int32 → Int32 → (Nat → Int32) → Prop} (hK10 : ∀ (x2 : Int32) (x3 : Int32) (x4 : Int32) (vR : Nat → Int32) (H : Heap) (locs : List Loc) (ls : Array Slot), K10 x2 x3 x4 vR → va_P (dC, dI) classes (wd_X1_countRows cI cC cZ cB cJ wJ tX jE mX pD oO oQ eG xJ xL wX bZ bD bI aI nJ vJ xB vR) H → va_D A (wd_X1_countRows cI cC cZ cB cJ wJ tX jE mX pD oO oQ eG xJ xL wX bZ bD bI aI nJ vJ xB vR) → va_S A s.heap H locs → lv_has ls 9 [(0, .ref xJ), (1, .ref wJ), (2, .int x2), (3, .int x3), (4, .int x4)] → W p l e rm_X1_countRows s m args below meth c H locs 0 0 (MQ below (q_X1_countRows dC dI cI cC cZ cB cJ A wJ tX jE mX pD oO oQ eG xJ xL wX bZ bD bI aI nJ vJ xB post) args s 0 0 A) (F0 m 10 ls [])) (hK37 : ∀ (x2 : Int32) (x3 : Int32) (x4 : Int32) (x5 : Int32) (x6 : Int32) (x7 : Int32) (vR : Nat → Int32) (H : Heap) (locs : List Loc) (ls : Array Slot), K37 x2 x3 x4 x5 x6 x7 vR → va_P (dC, dI) classes (wd_X1_countRows cI cC cZ cB cJ wJ tX jE mX pD oO oQ eG xJ xL wX bZ bD bI aI nJ vJ xB vR) H → va_D A (wd_X1_countRows cI cC cZ cB cJ wJ tX jE mX pD oO oQ eG xJ xL wX bZ bD bI aI nJ vJ xB vR) → va_S A s.heap H locs → lv_has ls 9 [(0, .ref xJ), (1, .ref wJ), (2, .int x2), (3, .int x3), (4, .int x4), (5, .int x5), (6, .int x6), (7, .int x7)] → W p l e rm_X1_countRows s m args below meth c H locs 0 0 (MQ below (q_X1_countRows dC dI cI cC cZ cB cJ A wJ tX jE mX pD oO oQ eG xJ xL wX bZ bD bI aI nJ vJ xB post) args s 0 0 A) (F0 m 37 ls [])) : ∀ (x2 x3 x4 x5 x6 x7 k0 : Int32) (vR : Nat → Int32) (H : Heap) (locs : List Loc) (ls : Array Slot), (ws_X1_countRows_90 post K10 K37 bD nJ vJ xB) x2 x3 x4 x5 x6 x7 k0 vR → va_P (dC, dI) classes (wd_X1_countRows cI cC cZ cB cJ wJ tX jE mX pD oO oQ eG xJ xL wX bZ bD bI aI nJ vJ xB vR) H → va_D A (wd_X1_countRows cI cC cZ cB cJ wJ tX jE mX pD oO oQ eG xJ xL wX bZ bD bI aI nJ vJ xB vR) → va_S A s.heap H locs → lv_has ls 9 [(0, .ref xJ), (1, .ref wJ), (2, .int x2), (3, .int x3), (4, .int x4), (5, .int x5), (6, .int x6), (7, .int x7)] → W p l e rm_X1_countRows s m args below meth c H locs 0 0 (MQ below (q_X1_countRows dC dI cI cC cZ cB cJ A wJ tX jE mX pD oO oQ eG xJ xL wX bZ bD bI aI nJ vJ xB post) args s 0 0 A) (F0 m 90 ls [.int k0]) := by
  obtain ⟨hx, hb, hr, hml, hown, hts, hlocks, hA, hK, hN, tL, tM, hZL, hTL, hZM, hTM, hZX⟩ := id C0
  intro x2 x3 x4 x5 x6 x7 k0 vR H locs ls hp hP hD hS hl
  unfold ws_X1_countRows_90 at hp
  refine lv_istore (lv' := [(8, .int k0), (0, .ref xJ), (1, .ref wJ), (2, .int x2), (3, .int x3), (4, .int x4), (5, .int x5), (6, .int x6), (7, .int x7)]) hx hb eX1_countRows_82.2.2.2.2.2.2.1 hl (by decide) rfl (fun ls hl => ?_)
  exact ks_X1_countRows_92 C0 hK10 hK37 x2 x3 x4 x5 x6 x7 k0 vR H locs ls hp hP hD hS (lv_sub hl [1, 2, 3, 4, 5, 6, 7, 8, 0] rfl)
noncomputable def ws_X1_countRows_37 (post : Int32 → (Nat → Int32) → Prop) (K10 : Int32 → Int32 → Int32 → (Nat → Int32) → Prop) (next : Int32 → Int32 → Int32 → Int32 → Int32 → Int32 → (Nat → Int32) → Prop) (bD : Int32) (nJ : Nat → Int32) (vJ : Int32) (xB : Nat → Int32) (x2 x3 x4 x5 x6 x7 : Int32) (vR : Nat → Int32) : Prop := (8 ≤ x7 → ∀ v_4 : Int32, v_4 = x4 + (-1) → K10 x2 x3 v_4 vR) ∧ (¬ 8 ≤ x7 → ∀ v_5 : Int32, v_5 = x5 >>> (x7 &&& 31) → ((v_5 &&& 1) = 0 → ws_X1_countRows_92 post K10 next bD nJ vJ xB x2 x3 x4 x5 x6 x7 0 vR) ∧ (¬ (v_5 &&& 1) = 0 → (¬ x4 = (vJ - 1) → ∀ v_10 : Int32, v_10 = x4 + 1 → ∀ v_11 : Int32, v_11 = v_10 * 8 → ∀ v_12 : Int32, v_12 = v_11 + x7 → vp_in v_12 48 ∧ (∀ v_13 : Int32, v_13 = x6 - (vR v_12.toNatClampNeg) → ws_X1_countRows_90 post K10 next bD nJ vJ xB x2 x3 x4 x5 x6 x7 v_13 vR)) ∧ (x4 = (vJ - 1) → ws_X1_countRows_90 post K10 next bD nJ vJ xB x2 x3 x4 x5 x6 x7 1 vR)))
noncomputable def wb_X1_countRows_37 (post : Int32 → (Nat → Int32) → Prop) (K10 : Int32 → Int32 → Int32 → (Nat → Int32) → Prop) (bD : Int32) (nJ : Nat → Int32) (vJ : Int32) (xB : Nat → Int32) : Nat → Int32 → Int32 → Int32 → Int32 → Int32 → Int32 → (Nat → Int32) → Prop := fun n => Nat.rec (motive := fun _ => Int32 → Int32 → Int32 → Int32 → Int32 → Int32 → (Nat → Int32) → Prop) (fun _ _ _ _ _ _ _ => False) (fun _ ih => ws_X1_countRows_37 post K10 ih bD nJ vJ xB) n
set_option maxHeartbeats 4000000 in
set_option maxRecDepth 100000 in
theorem ks_X1_countRows_37 (C0 : gc cX1_countRows (some .int) 9 RX1 (dC, dI) (tyl cI cC cZ cB cJ) A p s m args meth c) {K10 : Int32 → Int32 → Int32 → (Nat → Int32) → Prop} {next : Int32 → Int32 → Int32 → Int32 → Int32 → Int32 → (Nat → Int32) → Prop} (hK10 : ∀ (x2 : Int32) (x3 : Int32) (x4 : Int32) (vR : Nat → Int32) (H : Heap) (locs : List Loc) (ls : Array Slot), K10 x2 x3 x4 vR → va_P (dC, dI) classes (wd_X1_countRows cI cC cZ cB cJ wJ tX jE mX pD oO oQ eG xJ xL wX bZ bD bI aI nJ vJ xB vR) H → va_D A (wd_X1_countRows cI cC cZ cB cJ wJ tX jE mX pD oO oQ eG xJ xL wX bZ bD bI aI nJ vJ xB vR) → va_S A s.heap H locs → lv_has ls 9 [(0, .ref xJ), (1, .ref wJ), (2, .int x2), (3, .int x3), (4, .int x4)] → W p l e rm_X1_countRows s m args below meth c H locs 0 0 (MQ below (q_X1_countRows dC dI cI cC cZ cB cJ A wJ tX jE mX pD oO oQ eG xJ xL wX bZ bD bI aI nJ vJ xB post) args s 0 0 A) (F0 m 10 ls [])) (hKn : ∀ (x2 : Int32) (x3 : Int32) (x4 : Int32) (x5 : Int32) (x6 : Int32) (x7 : Int32) (vR : Nat → Int32) (H : Heap) (locs : List Loc) (ls : Array Slot), next x2 x3 x4 x5 x6 x7 vR → va_P (dC, dI) classes (wd_X1_countRows cI cC cZ cB cJ wJ tX jE mX pD oO oQ eG xJ xL wX bZ bD bI aI nJ vJ xB vR) H → va_D A (wd_X1_countRows cI cC cZ cB cJ wJ tX jE mX pD oO oQ eG xJ xL wX bZ bD bI aI nJ vJ xB vR) → va_S A s.heap H locs → lv_has ls 9 [(0, .ref xJ), (1, .ref wJ), (2, .int x2), (3, .int x3), (4, .int x4), (5, .int x5), (6, .int x6), (7, .int x7)] → W p l e rm_X1_countRows s m args below meth c H locs 0 0 (MQ below (q_X1_countRows dC dI cI cC cZ cB cJ A wJ tX jE mX pD oO oQ eG xJ xL wX bZ bD bI aI nJ vJ xB post) args s 0 0 A) (F0 m 37 ls [])) : ∀ (x2 x3 x4 x5 x6 x7 : Int32) (vR : Nat → Int32) (H : Heap) (locs : List Loc) (ls : Array Slot), (ws_X1_countRows_37 post K10 next bD nJ vJ xB) x2 x3 x4 x5 x6 x7 vR → va_P (dC, dI) classes (wd_X1_countRows cI cC cZ cB cJ wJ tX jE mX pD oO oQ eG xJ xL wX bZ bD bI aI nJ vJ xB vR) H → va_D A (wd_X1_countRows cI cC cZ cB cJ wJ tX jE mX pD oO oQ eG xJ xL wX bZ bD bI aI nJ vJ xB vR) → va_S A s.heap H locs → lv_has ls 9 [(0, .ref xJ), (1, .ref wJ), (2, .int x2), (3, .int x3), (4, .int x4), (5, .int x5), (6, .int x6), (7, .int x7)] → W p l e rm_X1_countRows s m args below meth c H locs 0 0 (MQ below (q_X1_countRows dC dI cI cC cZ cB cJ A wJ tX jE mX pD oO oQ eG xJ xL wX bZ bD bI aI nJ vJ xB post) args s 0 0 A) (F0 m 37 ls []) := by
  obtain ⟨hx, hb, hr, hml, hown, hts, hlocks, hA, hK, hN, tL, tM, hZL, hTL, hZM, hTM, hZX⟩ := id C0
  intro x2 x3 x4 x5 x6 x7 vR H locs ls hp hP hD hS hl
  unfold ws_X1_countRows_37 at hp
  refine lv_iload hx hb eX1_countRows_27.2.2.2.2.2.2.2.1 (lv_at hl 7 rfl) ?_
  refine lv_bipush (v := 8) hx hb eX1_countRows_27.2.2.2.2.2.2.2.2.1 bp_8 ?_
  refine lv_icmp_ge (tgt := 118) hx hb eX1_countRows_27.2.2.2.2.2.2.2.2.2.1 (by decide) (fun hc => ?_) (fun hc => ?_)
  · have hp := hp.1 hc
    obtain ⟨v_4, ev_4⟩ : ∃ y : Int32, y = x4 + (-1) := ⟨_, rfl⟩
    refine lv_iinc (v := v_4) (lv' := [(4, .int v_4), (0, .ref xJ), (1, .ref wJ), (2, .int x2), (3, .int x3), (5, .int x5), (6, .int x6), (7, .int x7)]) hx hb eX1_countRows_107.2.2.2.2.2.2.1 hl (k := 4) rfl (by rw [ev_4]; rfl) (by decide) rfl (fun ls hl => ?_)
    have hp := hp v_4 ev_4
    refine lv_goto (tgt := 10) hx hb eX1_countRows_107.2.2.2.2.2.2.2.1 (by decide) ?_
    exact hK10 x2 x3 v_4 vR H locs ls hp hP hD hS (lv_sub hl [1, 2, 3, 4, 0] rfl)
  · have hp := hp.2 hc
    refine lv_iconst (v := 0) hx hb eX1_countRows_27.2.2.2.2.2.2.2.2.2.2.1 ic_0 ?_
    refine lv_istore (lv' := [(8, .int 0), (0, .ref xJ), (1, .ref wJ), (2, .int x2), (3, .int x3), (4, .int x4), (5, .int x5), (6, .int x6), (7, .int x7)]) hx hb eX1_countRows_27.2.2.2.2.2.2.2.2.2.2.2.1 hl (by decide) rfl (fun ls hl => ?_)
    refine lv_iload hx hb eX1_countRows_27.2.2.2.2.2.2.2.2.2.2.2.2.1 (lv_at hl 6 rfl) ?_
    refine lv_iload hx hb eX1_countRows_27.2.2.2.2.2.2.2.2.2.2.2.2.2.1 (lv_at hl 8 rfl) ?_
    refine lv_ishr hx hb eX1_countRows_27.2.2.2.2.2.2.2.2.2.2.2.2.2.2.1 ?_
    refine lv_topi (fun v_5 ev_5 => ?_)
    have hp := hp v_5 ev_5
    refine lv_iconst (v := 1) hx hb eX1_countRows_27.2.2.2.2.2.2.2.2.2.2.2.2.2.2.2 ic_1 ?_
    refine lv_iand hx hb eX1_countRows_53.1 ?_
    refine lv_if_eq (tgt := 92) hx hb eX1_countRows_53.2.1 (by decide) (fun hc => ?_) (fun hc => ?_)
    · have hp := hp.1 hc
      exact ks_X1_countRows_92 C0 hK10 hKn x2 x3 x4 x5 x6 x7 0 vR H locs ls hp hP hD hS (lv_sub hl [1, 2, 3, 4, 5, 6, 7, 8, 0] rfl)
    · have hp := hp.2 hc
      refine lv_iload hx hb eX1_countRows_53.2.2.1 (lv_at hl 5 rfl) ?_
      refine lv_aload_n hx hb eX1_countRows_53.2.2.2.1 rfl (lv_at hl 1 rfl) ?_
      refine va_get (D := (dC, dI)) (ci := 1) (v := .int vJ) (C := RX1) (T := TX1) (N := 3) hx hb hts i_X1 hown hK hP 2 rfl rfl 2 (Nat.le_of_ble_eq_true rfl) (hts _ q_592) (fun _ h9 => h9) rfl eX1_countRows_53.2.2.2.2.1 ?_
      refine lv_iconst (v := 1) hx hb eX1_countRows_53.2.2.2.2.2.1 ic_1 ?_
      refine lv_isub hx hb eX1_countRows_53.2.2.2.2.2.2.1 ?_
      refine lv_icmp_ne (tgt := 72) hx hb eX1_countRows_53.2.2.2.2.2.2.2.1 (by decide) (fun hc => ?_) (fun hc => ?_)
      · have hp := hp.1 hc
        refine lv_iload hx hb eX1_countRows_53.2.2.2.2.2.2.2.2.2.2.1 (lv_at hl 7 rfl) ?_
        refine lv_aload_n hx hb eX1_countRows_53.2.2.2.2.2.2.2.2.2.2.2.1 rfl (lv_at hl 1 rfl) ?_
        refine va_get (D := (dC, dI)) (ci := 1) (v := .ref wX) (C := RX1) (T := TX1) (N := 3) hx hb hts i_X1 hown hK hP 2 rfl rfl 1 (Nat.le_of_ble_eq_true rfl) (hts _ q_598) (fun _ h9 => h9) rfl eX1_countRows_53.2.2.2.2.2.2.2.2.2.2.2.2.1 ?_
        refine lv_iload hx hb eX1_countRows_53.2.2.2.2.2.2.2.2.2.2.2.2.2.1 (lv_at hl 5 rfl) ?_
        refine lv_iconst (v := 1) hx hb eX1_countRows_53.2.2.2.2.2.2.2.2.2.2.2.2.2.2.1 ic_1 ?_
        refine lv_iadd hx hb eX1_countRows_53.2.2.2.2.2.2.2.2.2.2.2.2.2.2.2 ?_
        refine lv_topi (fun v_10 ev_10 => ?_)
        have hp := hp v_10 ev_10
        refine lv_bipush (v := 8) hx hb eX1_countRows_82.1 bp_8 ?_
        refine lv_imul hx hb eX1_countRows_82.2.1 ?_
        refine lv_topi (fun v_11 ev_11 => ?_)
        have hp := hp v_11 ev_11
        refine lv_iload hx hb eX1_countRows_82.2.2.1 (lv_at hl 8 rfl) ?_
        refine lv_iadd hx hb eX1_countRows_82.2.2.2.1 ?_
        refine lv_topi (fun v_12 ev_12 => ?_)
        have hp := hp v_12 ev_12
        have hin := hp.1
        have hp := hp.2
        refine va_iald hx hb hK hP 4 0 rfl rfl hin eX1_countRows_82.2.2.2.2.1 ?_
        refine lv_isub hx hb eX1_countRows_82.2.2.2.2.2.1 ?_
        refine lv_topi (fun v_13 ev_13 => ?_)
        have hp := hp v_13 ev_13
        exact ks_X1_countRows_90 C0 hK10 hKn x2 x3 x4 x5 x6 x7 v_13 vR H locs ls hp hP hD hS (lv_sub hl [1, 2, 3, 4, 5, 6, 7, 8] rfl)
      · have hp := hp.2 hc
        refine lv_iconst (v := 1) hx hb eX1_countRows_53.2.2.2.2.2.2.2.2.1 ic_1 ?_
        refine lv_goto (tgt := 90) hx hb eX1_countRows_53.2.2.2.2.2.2.2.2.2.1 (by decide) ?_
        exact ks_X1_countRows_90 C0 hK10 hKn x2 x3 x4 x5 x6 x7 1 vR H locs ls hp hP hD hS (lv_sub hl [1, 2, 3, 4, 5, 6, 7, 8] rfl)
set_option maxHeartbeats 4000000 in
set_option maxRecDepth 100000 in
theorem kb_X1_countRows_37 (C0 : gc cX1_countRows (some .int) 9 RX1 (dC, dI) (tyl cI cC cZ cB cJ) A p s m args meth c) {K10 : Int32 → Int32 → Int32 → (Nat → Int32) → Prop} (hK10 : ∀ (x2 : Int32) (x3 : Int32) (x4 : Int32) (vR : Nat → Int32) (H : Heap) (locs : List Loc) (ls : Array Slot), K10 x2 x3 x4 vR → va_P (dC, dI) classes (wd_X1_countRows cI cC cZ cB cJ wJ tX jE mX pD oO oQ eG xJ xL wX bZ bD bI aI nJ vJ xB vR) H → va_D A (wd_X1_countRows cI cC cZ cB cJ wJ tX jE mX pD oO oQ eG xJ xL wX bZ bD bI aI nJ vJ xB vR) → va_S A s.heap H locs → lv_has ls 9 [(0, .ref xJ), (1, .ref wJ), (2, .int x2), (3, .int x3), (4, .int x4)] → W p l e rm_X1_countRows s m args below meth c H locs 0 0 (MQ below (q_X1_countRows dC dI cI cC cZ cB cJ A wJ tX jE mX pD oO oQ eG xJ xL wX bZ bD bI aI nJ vJ xB post) args s 0 0 A) (F0 m 10 ls [])) : ∀ (n : Nat), ∀ (x2 x3 x4 x5 x6 x7 : Int32) (vR : Nat → Int32) (H : Heap) (locs : List Loc) (ls : Array Slot), (wb_X1_countRows_37 post K10 bD nJ vJ xB n) x2 x3 x4 x5 x6 x7 vR → va_P (dC, dI) classes (wd_X1_countRows cI cC cZ cB cJ wJ tX jE mX pD oO oQ eG xJ xL wX bZ bD bI aI nJ vJ xB vR) H → va_D A (wd_X1_countRows cI cC cZ cB cJ wJ tX jE mX pD oO oQ eG xJ xL wX bZ bD bI aI nJ vJ xB vR) → va_S A s.heap H locs → lv_has ls 9 [(0, .ref xJ), (1, .ref wJ), (2, .int x2), (3, .int x3), (4, .int x4), (5, .int x5), (6, .int x6), (7, .int x7)] → W p l e rm_X1_countRows s m args below meth c H locs 0 0 (MQ below (q_X1_countRows dC dI cI cC cZ cB cJ A wJ tX jE mX pD oO oQ eG xJ xL wX bZ bD bI aI nJ vJ xB post) args s 0 0 A) (F0 m 37 ls []) := by
  intro n
  induction n with
  | zero =>
    intro x2 x3 x4 x5 x6 x7 vR H locs ls hp
    exact False.elim hp
  | succ n ih =>
    intro x2 x3 x4 x5 x6 x7 vR H locs ls hp
    exact ks_X1_countRows_37 C0 hK10 ih x2 x3 x4 x5 x6 x7 vR H locs ls hp
noncomputable def ws_X1_countRows_10 (post : Int32 → (Nat → Int32) → Prop) (next : Int32 → Int32 → Int32 → (Nat → Int32) → Prop) (bD : Int32) (nJ : Nat → Int32) (vJ : Int32) (xB : Nat → Int32) (x2 x3 x4 : Int32) (vR : Nat → Int32) : Prop := (x4 < 0 → post x3 vR) ∧ (¬ x4 < 0 → vp_in x4 6 ∧ (∀ v_2 : Int32, v_2 = xB x4.toNatClampNeg → wp_X3_standingsAt (fun r_3 => ∃ n : Nat, wb_X1_countRows_37 post next bD nJ vJ xB n x2 0 x4 r_3 x3 0 vR) v_2 x2 bD nJ))
noncomputable def wb_X1_countRows_10 (post : Int32 → (Nat → Int32) → Prop) (bD : Int32) (nJ : Nat → Int32) (vJ : Int32) (xB : Nat → Int32) : Nat → Int32 → Int32 → Int32 → (Nat → Int32) → Prop := fun n => Nat.rec (motive := fun _ => Int32 → Int32 → Int32 → (Nat → Int32) → Prop) (fun _ _ _ _ => False) (fun _ ih => ws_X1_countRows_10 post ih bD nJ vJ xB) n
set_option maxHeartbeats 4000000 in
set_option maxRecDepth 100000 in
theorem ks_X1_countRows_10 (C0 : gc cX1_countRows (some .int) 9 RX1 (dC, dI) (tyl cI cC cZ cB cJ) A p s m args meth c) {next : Int32 → Int32 → Int32 → (Nat → Int32) → Prop} (hKn : ∀ (x2 : Int32) (x3 : Int32) (x4 : Int32) (vR : Nat → Int32) (H : Heap) (locs : List Loc) (ls : Array Slot), next x2 x3 x4 vR → va_P (dC, dI) classes (wd_X1_countRows cI cC cZ cB cJ wJ tX jE mX pD oO oQ eG xJ xL wX bZ bD bI aI nJ vJ xB vR) H → va_D A (wd_X1_countRows cI cC cZ cB cJ wJ tX jE mX pD oO oQ eG xJ xL wX bZ bD bI aI nJ vJ xB vR) → va_S A s.heap H locs → lv_has ls 9 [(0, .ref xJ), (1, .ref wJ), (2, .int x2), (3, .int x3), (4, .int x4)] → W p l e rm_X1_countRows s m args below meth c H locs 0 0 (MQ below (q_X1_countRows dC dI cI cC cZ cB cJ A wJ tX jE mX pD oO oQ eG xJ xL wX bZ bD bI aI nJ vJ xB post) args s 0 0 A) (F0 m 10 ls [])) : ∀ (x2 x3 x4 : Int32) (vR : Nat → Int32) (H : Heap) (locs : List Loc) (ls : Array Slot), (ws_X1_countRows_10 post next bD nJ vJ xB) x2 x3 x4 vR → va_P (dC, dI) classes (wd_X1_countRows cI cC cZ cB cJ wJ tX jE mX pD oO oQ eG xJ xL wX bZ bD bI aI nJ vJ xB vR) H → va_D A (wd_X1_countRows cI cC cZ cB cJ wJ tX jE mX pD oO oQ eG xJ xL wX bZ bD bI aI nJ vJ xB vR) → va_S A s.heap H locs → lv_has ls 9 [(0, .ref xJ), (1, .ref wJ), (2, .int x2), (3, .int x3), (4, .int x4)] → W p l e rm_X1_countRows s m args below meth c H locs 0 0 (MQ below (q_X1_countRows dC dI cI cC cZ cB cJ A wJ tX jE mX pD oO oQ eG xJ xL wX bZ bD bI aI nJ vJ xB post) args s 0 0 A) (F0 m 10 ls []) := by
  obtain ⟨hx, hb, hr, hml, hown, hts, hlocks, hA, hK, hN, tL, tM, hZL, hTL, hZM, hTM, hZX⟩ := id C0
  intro x2 x3 x4 vR H locs ls hp hP hD hS hl
  unfold ws_X1_countRows_10 at hp
  refine lv_iload hx hb eX1_countRows_0.2.2.2.2.2.2.2.1 (lv_at hl 4 rfl) ?_
  refine lv_if_lt (tgt := 124) hx hb eX1_countRows_0.2.2.2.2.2.2.2.2.1 (by decide) (fun hc => ?_) (fun hc => ?_)
  · have hp := hp.1 hc
    refine lv_iload_n hx hb eX1_countRows_107.2.2.2.2.2.2.2.2.1 rfl (lv_at hl 3 rfl) ?_
    exact W.iret (v := x3) hx hb hr (fun t ht hW => ⟨⟨x3, vR, rfl, hp, by rw [ht]; exact hP, va_K.moved hW.alike hK, hD⟩, hS.F ht⟩) hS.2.2 eX1_countRows_107.2.2.2.2.2.2.2.2.2
  · have hp := hp.2 hc
    refine lv_aload_n hx hb eX1_countRows_0.2.2.2.2.2.2.2.2.2.1 rfl (lv_at hl 1 rfl) ?_
    refine lv_aload_n hx hb eX1_countRows_0.2.2.2.2.2.2.2.2.2.2.1 rfl (lv_at hl 0 rfl) ?_
    refine va_get (D := (dC, dI)) (ci := 1) (v := .ref xL) (C := RX1) (T := TX1) (N := 3) hx hb hts i_X1 hown hK hP 2 rfl rfl 0 (Nat.le_of_ble_eq_true rfl) (hts _ q_594) (fun _ h9 => h9) rfl eX1_countRows_0.2.2.2.2.2.2.2.2.2.2.2.1 ?_
    refine lv_iload hx hb eX1_countRows_0.2.2.2.2.2.2.2.2.2.2.2.2.1 (lv_at hl 4 rfl) ?_
    have hin := hp.1
    have hp := hp.2
    refine va_iald hx hb hK hP 3 0 rfl rfl hin eX1_countRows_0.2.2.2.2.2.2.2.2.2.2.2.2.2.1 ?_
    refine lv_topi (fun v_2 ev_2 => ?_)
    have hp := hp v_2 ev_2
    refine lv_iload_n hx hb eX1_countRows_0.2.2.2.2.2.2.2.2.2.2.2.2.2.2.1 rfl (lv_at hl 2 rfl) ?_
    have hm := mgk (wc := (wd_X3_standingsAt cI cC cZ cB cJ wJ tX jE mX pD oO oQ eG bZ bD bI aI nJ)) hP aIv 5 rfl rfl rfl
    refine g_calli hP hD hS hA (mixT aIv) (mixF aIv) hm.1 hm.2 (nd_F _) (dis_g _) (g_runV (As := [.int v_2, .int x2]) (rest := []) C0 hP hD hS (mixT aIv) hm.1 (nd_T _) 0 3 rfl rfl (c_X3_standingsAt l dC dI cI cC cZ cB cJ wJ tX jE mX pD oO oQ eG H.size v_2 x2 bZ bD bI aI nJ _ hp) q_588 q_597 q_589 q_590 q_48 h_X3_standingsAt rfl rfl ⟨Nat.le_of_ble_eq_true rfl, Nat.le_of_ble_eq_true rfl⟩ rfl rfl hl.1 rfl (lv_room (Nat.le_of_ble_eq_true rfl)) eX1_countRows_0.2.2.2.2.2.2.2.2.2.2.2.2.2.2.2 ⟨Nat.zero_le _, Nat.zero_le _⟩) (fun r_3 u H locs hp hP hD hS => ?_)
    have hPD := PDm (ws' := (wd_X1_countRows cI cC cZ cB cJ wJ tX jE mX pD oO oQ eG xJ xL wX bZ bD bI aI nJ vJ xB vR)) hP hD 5 rfl rfl rfl
    have hP := hPD.1
    have hD := hPD.2
    refine lv_istore (lv' := [(5, .int r_3), (0, .ref xJ), (1, .ref wJ), (2, .int x2), (3, .int x3), (4, .int x4)]) hx hb eX1_countRows_27.1 hl (by decide) rfl (fun ls hl => ?_)
    refine lv_iload_n hx hb eX1_countRows_27.2.1 rfl (lv_at hl 4 rfl) ?_
    refine lv_istore (lv' := [(6, .int x3), (5, .int r_3), (0, .ref xJ), (1, .ref wJ), (2, .int x2), (3, .int x3), (4, .int x4)]) hx hb eX1_countRows_27.2.2.1 hl (by decide) rfl (fun ls hl => ?_)
    refine lv_iconst (v := 0) hx hb eX1_countRows_27.2.2.2.1 ic_0 ?_
    refine lv_istore_n (lv' := [(3, .int 0), (6, .int x3), (5, .int r_3), (0, .ref xJ), (1, .ref wJ), (2, .int x2), (4, .int x4)]) hx hb eX1_countRows_27.2.2.2.2.1 rfl hl (by decide) rfl (fun ls hl => ?_)
    refine lv_iconst (v := 0) hx hb eX1_countRows_27.2.2.2.2.2.1 ic_0 ?_
    refine lv_istore (lv' := [(7, .int 0), (3, .int 0), (6, .int x3), (5, .int r_3), (0, .ref xJ), (1, .ref wJ), (2, .int x2), (4, .int x4)]) hx hb eX1_countRows_27.2.2.2.2.2.2.1 hl (by decide) rfl (fun ls hl => ?_)
    obtain ⟨n9, hp⟩ := hp
    exact kb_X1_countRows_37 C0 hKn n9 x2 0 x4 r_3 x3 0 vR H locs ls hp hP hD hS (lv_sub hl [4, 5, 6, 1, 7, 3, 2, 0] rfl)
set_option maxHeartbeats 4000000 in
set_option maxRecDepth 100000 in
theorem kb_X1_countRows_10 (C0 : gc cX1_countRows (some .int) 9 RX1 (dC, dI) (tyl cI cC cZ cB cJ) A p s m args meth c) : ∀ (n : Nat), ∀ (x2 x3 x4 : Int32) (vR : Nat → Int32) (H : Heap) (locs : List Loc) (ls : Array Slot), (wb_X1_countRows_10 post bD nJ vJ xB n) x2 x3 x4 vR → va_P (dC, dI) classes (wd_X1_countRows cI cC cZ cB cJ wJ tX jE mX pD oO oQ eG xJ xL wX bZ bD bI aI nJ vJ xB vR) H → va_D A (wd_X1_countRows cI cC cZ cB cJ wJ tX jE mX pD oO oQ eG xJ xL wX bZ bD bI aI nJ vJ xB vR) → va_S A s.heap H locs → lv_has ls 9 [(0, .ref xJ), (1, .ref wJ), (2, .int x2), (3, .int x3), (4, .int x4)] → W p l e rm_X1_countRows s m args below meth c H locs 0 0 (MQ below (q_X1_countRows dC dI cI cC cZ cB cJ A wJ tX jE mX pD oO oQ eG xJ xL wX bZ bD bI aI nJ vJ xB post) args s 0 0 A) (F0 m 10 ls []) := by
  intro n
  induction n with
  | zero =>
    intro x2 x3 x4 vR H locs ls hp
    exact False.elim hp
  | succ n ih =>
    intro x2 x3 x4 vR H locs ls hp
    exact ks_X1_countRows_10 C0 ih x2 x3 x4 vR H locs ls hp
end S_X1_countRows
noncomputable def wp_X1_countRows (post : Int32 → (Nat → Int32) → Prop) (p1 bD : Int32) (nJ : Nat → Int32) (vJ : Int32) (xB vR : Nat → Int32) : Prop := ∀ v_1 : Int32, v_1 = vJ - 1 → ∃ n : Nat, wb_X1_countRows_10 post bD nJ vJ xB n p1 0 v_1 vR
set_option maxHeartbeats 4000000 in
set_option maxRecDepth 100000 in
theorem c_X1_countRows (l : Launch) (dC : Nat → ClassId) (dI : Nat → Nat → Nat) (cI cC cZ cB cJ : ClassId) (wJ tX jE mX pD oO oQ eG xJ xL wX sz : Nat) (p1 bZ bD bI aI : Int32) (nJ : Nat → Int32) (vJ : Int32) (xB vR : Nat → Int32) (post : Int32 → (Nat → Int32) → Prop) (hw : wp_X1_countRows post p1 bD nJ vJ xB vR) : Met l yX1_countRows (gw yX1_countRows cX1_countRows 9 (some .int)) rm_X1_countRows (va_Pc [.ref xJ, .ref wJ, .int p1] (gPre (dC, dI) (tyl cI cC cZ cB cJ) (wd_X1_countRows cI cC cZ cB cJ wJ tX jE mX pD oO oQ eG xJ xL wX bZ bD bI aI nJ vJ xB vR) sz)) (q_X1_countRows dC dI cI cC cZ cB cJ (va_A (wd_X1_countRows cI cC cZ cB cJ wJ tX jE mX pD oO oQ eG xJ xL wX bZ bD bI aI nJ vJ xB vR) sz) wJ tX jE mX pD oO oQ eG xJ xL wX bZ bD bI aI nJ vJ xB post) 0 0 (va_A (wd_X1_countRows cI cC cZ cB cJ wJ tX jE mX pD oO oQ eG xJ xL wX bZ bD bI aI nJ vJ xB vR) sz) := by
  refine g_enter (own := RX1) (dC, dI) (tyl cI cC cZ cB cJ) (wd_X1_countRows cI cC cZ cB cJ wJ tX jE mX pD oO oQ eG xJ xL wX bZ bD bI aI nJ vJ xB vR) sz [.ref xJ, .ref wJ, .int p1] (fun A => q_X1_countRows dC dI cI cC cZ cB cJ A wJ tX jE mX pD oO oQ eG xJ xL wX bZ bD bI aI nJ vJ xB post) pn_RX1 rfl (Nat.le_of_ble_eq_true rfl) ?_
  intro p e s m args below meth c A H locs ls C0 hP hD hS hl
  have hl : lv_has ls 9 [(0, .ref xJ), (1, .ref wJ), (2, .int p1)] := hl
  obtain ⟨hx, hb, hr, hml, hown, hts, hlocks, hA, hK, hN, tL, tM, hZL, hTL, hZM, hTM, hZX⟩ := id C0
  have hp := hw
  unfold wp_X1_countRows at hp
  refine lv_iconst (v := 0) hx hb eX1_countRows_0.1 ic_0 ?_
  refine lv_istore_n (lv' := [(3, .int 0), (0, .ref xJ), (1, .ref wJ), (2, .int p1)]) hx hb eX1_countRows_0.2.1 rfl hl (by decide) rfl (fun ls hl => ?_)
  refine lv_aload_n hx hb eX1_countRows_0.2.2.1 rfl (lv_at hl 1 rfl) ?_
  refine va_get (D := (dC, dI)) (ci := 1) (v := .int vJ) (C := RX1) (T := TX1) (N := 3) hx hb hts i_X1 hown hK hP 2 rfl rfl 2 (Nat.le_of_ble_eq_true rfl) (hts _ q_592) (fun _ h9 => h9) rfl eX1_countRows_0.2.2.2.1 ?_
  refine lv_iconst (v := 1) hx hb eX1_countRows_0.2.2.2.2.1 ic_1 ?_
  refine lv_isub hx hb eX1_countRows_0.2.2.2.2.2.1 ?_
  refine lv_topi (fun v_1 ev_1 => ?_)
  have hp := hp v_1 ev_1
  refine lv_istore (lv' := [(4, .int v_1), (3, .int 0), (0, .ref xJ), (1, .ref wJ), (2, .int p1)]) hx hb eX1_countRows_0.2.2.2.2.2.2.1 hl (by decide) rfl (fun ls hl => ?_)
  obtain ⟨n9, hp⟩ := hp
  exact kb_X1_countRows_10 C0 n9 p1 0 v_1 vR H locs ls hp hP hD hS (lv_sub hl [2, 3, 4, 1, 0] rfl)
noncomputable abbrev wd_X1_firstFor (cI cC cZ cB cJ : ClassId) (xJ xL wX : Nat) (vJ : Int32) (vR : Nat → Int32) : va_W := [(xJ, .inr (1, [.ref xL, .ref wX, .int vJ])), (wX, .inl (cI, 48, .inl vR))]
noncomputable abbrev q_X1_firstFor (dC : Nat → ClassId) (dI : Nat → Nat → Nat) (cI cC cZ cB cJ : ClassId) (A : Nat → Prop) (xJ xL wX : Nat) (vJ : Int32) (vR : Nat → Int32) (post : Int32 → Prop) : Array Value → State → Outcome → State → Prop := va_Qi (fun (r : Int32) (u : Unit) => post r) (fun u t => gB (dC, dI) (tyl cI cC cZ cB cJ) A (wd_X1_firstFor cI cC cZ cB cJ xJ xL wX vJ vR) t) A
noncomputable abbrev rm_X1_firstFor : Room := { frames := 0, cells := 0, slots := 0, locals := 0 }
section S_X1_firstFor
variable {p : Program} {l : Launch} {e : Env} {s : State} {m : MethodId} {args : Array Value} {below : List Frame} {meth : Method} {c : Code} {dC : Nat → ClassId} {dI : Nat → Nat → Nat} {cI cC cZ cB cJ : ClassId} {A : Nat → Prop} {xJ xL wX : Nat} {vJ : Int32} {vR : Nat → Int32} {post : Int32 → Prop}
noncomputable def ws_X1_firstFor_29 (post : Int32 → Prop) (K2 : Int32 → Int32 → Int32 → Prop) (vR : Nat → Int32) (x1 x2 x3 : Int32) : Prop := ∀ v_1 : Int32, v_1 = x3 + 1 → K2 x1 x2 v_1
set_option maxHeartbeats 4000000 in
set_option maxRecDepth 100000 in
theorem ks_X1_firstFor_29 (C0 : gc cX1_firstFor (some .int) 4 RX1 (dC, dI) (tyl cI cC cZ cB cJ) A p s m args meth c) {K2 : Int32 → Int32 → Int32 → Prop} (hK2 : ∀ (x1 : Int32) (x2 : Int32) (x3 : Int32) (H : Heap) (locs : List Loc) (ls : Array Slot), K2 x1 x2 x3 → va_P (dC, dI) classes (wd_X1_firstFor cI cC cZ cB cJ xJ xL wX vJ vR) H → va_D A (wd_X1_firstFor cI cC cZ cB cJ xJ xL wX vJ vR) → va_S A s.heap H locs → lv_has ls 4 [(0, .ref xJ), (1, .int x1), (2, .int x2), (3, .int x3)] → W p l e rm_X1_firstFor s m args below meth c H locs 0 0 (MQ below (q_X1_firstFor dC dI cI cC cZ cB cJ A xJ xL wX vJ vR post) args s 0 0 A) (F0 m 2 ls [])) : ∀ (x1 x2 x3 : Int32) (H : Heap) (locs : List Loc) (ls : Array Slot), (ws_X1_firstFor_29 post K2 vR) x1 x2 x3 → va_P (dC, dI) classes (wd_X1_firstFor cI cC cZ cB cJ xJ xL wX vJ vR) H → va_D A (wd_X1_firstFor cI cC cZ cB cJ xJ xL wX vJ vR) → va_S A s.heap H locs → lv_has ls 4 [(0, .ref xJ), (1, .int x1), (2, .int x2), (3, .int x3)] → W p l e rm_X1_firstFor s m args below meth c H locs 0 0 (MQ below (q_X1_firstFor dC dI cI cC cZ cB cJ A xJ xL wX vJ vR post) args s 0 0 A) (F0 m 29 ls []) := by
  obtain ⟨hx, hb, hr, hml, hown, hts, hlocks, hA, hK, hN, tL, tM, hZL, hTL, hZM, hTM, hZX⟩ := id C0
  intro x1 x2 x3 H locs ls hp hP hD hS hl
  unfold ws_X1_firstFor_29 at hp
  obtain ⟨v_1, ev_1⟩ : ∃ y : Int32, y = x3 + 1 := ⟨_, rfl⟩
  refine lv_iinc (v := v_1) (lv' := [(3, .int v_1), (0, .ref xJ), (1, .int x1), (2, .int x2)]) hx hb eX1_firstFor_24.2.2.2.1 hl (k := 3) rfl (by rw [ev_1]; rfl) (by decide) rfl (fun ls hl => ?_)
  have hp := hp v_1 ev_1
  refine lv_goto (tgt := 2) hx hb eX1_firstFor_24.2.2.2.2.1 (by decide) ?_
  exact hK2 x1 x2 v_1 H locs ls hp hP hD hS (lv_sub hl [1, 2, 3, 0] rfl)
noncomputable def ws_X1_firstFor_2 (post : Int32 → Prop) (next : Int32 → Int32 → Int32 → Prop) (vR : Nat → Int32) (x1 x2 x3 : Int32) : Prop := (8 ≤ x3 → post (-1)) ∧ (¬ 8 ≤ x3 → (x3 = x2 → ws_X1_firstFor_29 post next vR x1 x2 x3) ∧ (¬ x3 = x2 → ∀ v_2 : Int32, v_2 = x1 * 8 → ∀ v_3 : Int32, v_3 = v_2 + x3 → vp_in v_3 48 ∧ (((vR v_3.toNatClampNeg) ≤ 0 → ws_X1_firstFor_29 post next vR x1 x2 x3) ∧ (¬ (vR v_3.toNatClampNeg) ≤ 0 → post x3))))
noncomputable def wb_X1_firstFor_2 (post : Int32 → Prop) (vR : Nat → Int32) : Nat → Int32 → Int32 → Int32 → Prop := fun n => Nat.rec (motive := fun _ => Int32 → Int32 → Int32 → Prop) (fun _ _ _ => False) (fun _ ih => ws_X1_firstFor_2 post ih vR) n
set_option maxHeartbeats 4000000 in
set_option maxRecDepth 100000 in
theorem ks_X1_firstFor_2 (C0 : gc cX1_firstFor (some .int) 4 RX1 (dC, dI) (tyl cI cC cZ cB cJ) A p s m args meth c) {next : Int32 → Int32 → Int32 → Prop} (hKn : ∀ (x1 : Int32) (x2 : Int32) (x3 : Int32) (H : Heap) (locs : List Loc) (ls : Array Slot), next x1 x2 x3 → va_P (dC, dI) classes (wd_X1_firstFor cI cC cZ cB cJ xJ xL wX vJ vR) H → va_D A (wd_X1_firstFor cI cC cZ cB cJ xJ xL wX vJ vR) → va_S A s.heap H locs → lv_has ls 4 [(0, .ref xJ), (1, .int x1), (2, .int x2), (3, .int x3)] → W p l e rm_X1_firstFor s m args below meth c H locs 0 0 (MQ below (q_X1_firstFor dC dI cI cC cZ cB cJ A xJ xL wX vJ vR post) args s 0 0 A) (F0 m 2 ls [])) : ∀ (x1 x2 x3 : Int32) (H : Heap) (locs : List Loc) (ls : Array Slot), (ws_X1_firstFor_2 post next vR) x1 x2 x3 → va_P (dC, dI) classes (wd_X1_firstFor cI cC cZ cB cJ xJ xL wX vJ vR) H → va_D A (wd_X1_firstFor cI cC cZ cB cJ xJ xL wX vJ vR) → va_S A s.heap H locs → lv_has ls 4 [(0, .ref xJ), (1, .int x1), (2, .int x2), (3, .int x3)] → W p l e rm_X1_firstFor s m args below meth c H locs 0 0 (MQ below (q_X1_firstFor dC dI cI cC cZ cB cJ A xJ xL wX vJ vR post) args s 0 0 A) (F0 m 2 ls []) := by
  obtain ⟨hx, hb, hr, hml, hown, hts, hlocks, hA, hK, hN, tL, tM, hZL, hTL, hZM, hTM, hZX⟩ := id C0
  intro x1 x2 x3 H locs ls hp hP hD hS hl
  unfold ws_X1_firstFor_2 at hp
  refine lv_iload_n hx hb eX1_firstFor_0.2.2.1 rfl (lv_at hl 3 rfl) ?_
  refine lv_bipush (v := 8) hx hb eX1_firstFor_0.2.2.2.1 bp_8 ?_
  refine lv_icmp_ge (tgt := 35) hx hb eX1_firstFor_0.2.2.2.2.1 (by decide) (fun hc => ?_) (fun hc => ?_)
  · have hp := hp.1 hc
    refine lv_iconst (v := (-1)) hx hb eX1_firstFor_24.2.2.2.2.2.1 ic_m1 ?_
    exact W.iret (v := (-1)) hx hb hr (fun t ht hW => ⟨⟨(-1), (), rfl, hp, by rw [ht]; exact hP, va_K.moved hW.alike hK, hD⟩, hS.F ht⟩) hS.2.2 eX1_firstFor_24.2.2.2.2.2.2
  · have hp := hp.2 hc
    refine lv_iload_n hx hb eX1_firstFor_0.2.2.2.2.2.1 rfl (lv_at hl 3 rfl) ?_
    refine lv_iload_n hx hb eX1_firstFor_0.2.2.2.2.2.2.1 rfl (lv_at hl 2 rfl) ?_
    refine lv_icmp_eq (tgt := 29) hx hb eX1_firstFor_0.2.2.2.2.2.2.2.1 (by decide) (fun hc => ?_) (fun hc => ?_)
    · have hp := hp.1 hc
      exact ks_X1_firstFor_29 C0 hKn x1 x2 x3 H locs ls hp hP hD hS (lv_sub hl [0, 1, 2, 3] rfl)
    · have hp := hp.2 hc
      refine lv_aload_n hx hb eX1_firstFor_0.2.2.2.2.2.2.2.2.1 rfl (lv_at hl 0 rfl) ?_
      refine va_get (D := (dC, dI)) (ci := 1) (v := .ref wX) (C := RX1) (T := TX1) (N := 3) hx hb hts i_X1 hown hK hP 0 rfl rfl 1 (Nat.le_of_ble_eq_true rfl) (hts _ q_598) (fun _ h9 => h9) rfl eX1_firstFor_0.2.2.2.2.2.2.2.2.2.1 ?_
      refine lv_iload_n hx hb eX1_firstFor_0.2.2.2.2.2.2.2.2.2.2.1 rfl (lv_at hl 1 rfl) ?_
      refine lv_bipush (v := 8) hx hb eX1_firstFor_0.2.2.2.2.2.2.2.2.2.2.2.1 bp_8 ?_
      refine lv_imul hx hb eX1_firstFor_0.2.2.2.2.2.2.2.2.2.2.2.2.1 ?_
      refine lv_topi (fun v_2 ev_2 => ?_)
      have hp := hp v_2 ev_2
      refine lv_iload_n hx hb eX1_firstFor_0.2.2.2.2.2.2.2.2.2.2.2.2.2.1 rfl (lv_at hl 3 rfl) ?_
      refine lv_iadd hx hb eX1_firstFor_0.2.2.2.2.2.2.2.2.2.2.2.2.2.2.1 ?_
      refine lv_topi (fun v_3 ev_3 => ?_)
      have hp := hp v_3 ev_3
      have hin := hp.1
      have hp := hp.2
      refine va_iald hx hb hK hP 1 0 rfl rfl hin eX1_firstFor_0.2.2.2.2.2.2.2.2.2.2.2.2.2.2.2 ?_
      refine lv_if_le (tgt := 29) hx hb eX1_firstFor_24.1 (by decide) (fun hc => ?_) (fun hc => ?_)
      · have hp := hp.1 hc
        exact ks_X1_firstFor_29 C0 hKn x1 x2 x3 H locs ls hp hP hD hS (lv_sub hl [0, 1, 2, 3] rfl)
      · have hp := hp.2 hc
        refine lv_iload_n hx hb eX1_firstFor_24.2.1 rfl (lv_at hl 3 rfl) ?_
        exact W.iret (v := x3) hx hb hr (fun t ht hW => ⟨⟨x3, (), rfl, hp, by rw [ht]; exact hP, va_K.moved hW.alike hK, hD⟩, hS.F ht⟩) hS.2.2 eX1_firstFor_24.2.2.1
set_option maxHeartbeats 4000000 in
set_option maxRecDepth 100000 in
theorem kb_X1_firstFor_2 (C0 : gc cX1_firstFor (some .int) 4 RX1 (dC, dI) (tyl cI cC cZ cB cJ) A p s m args meth c) : ∀ (n : Nat), ∀ (x1 x2 x3 : Int32) (H : Heap) (locs : List Loc) (ls : Array Slot), (wb_X1_firstFor_2 post vR n) x1 x2 x3 → va_P (dC, dI) classes (wd_X1_firstFor cI cC cZ cB cJ xJ xL wX vJ vR) H → va_D A (wd_X1_firstFor cI cC cZ cB cJ xJ xL wX vJ vR) → va_S A s.heap H locs → lv_has ls 4 [(0, .ref xJ), (1, .int x1), (2, .int x2), (3, .int x3)] → W p l e rm_X1_firstFor s m args below meth c H locs 0 0 (MQ below (q_X1_firstFor dC dI cI cC cZ cB cJ A xJ xL wX vJ vR post) args s 0 0 A) (F0 m 2 ls []) := by
  intro n
  induction n with
  | zero =>
    intro x1 x2 x3 H locs ls hp
    exact False.elim hp
  | succ n ih =>
    intro x1 x2 x3 H locs ls hp
    exact ks_X1_firstFor_2 C0 ih x1 x2 x3 H locs ls hp
end S_X1_firstFor
noncomputable def wp_X1_firstFor (post : Int32 → Prop) (p0 p1 : Int32) (vR : Nat → Int32) : Prop := ∃ n : Nat, wb_X1_firstFor_2 post vR n p0 p1 0
set_option maxHeartbeats 4000000 in
set_option maxRecDepth 100000 in
theorem c_X1_firstFor (l : Launch) (dC : Nat → ClassId) (dI : Nat → Nat → Nat) (cI cC cZ cB cJ : ClassId) (xJ xL wX sz : Nat) (p0 p1 vJ : Int32) (vR : Nat → Int32) (post : Int32 → Prop) (hw : wp_X1_firstFor post p0 p1 vR) : Met l yX1_firstFor (gw yX1_firstFor cX1_firstFor 4 (some .int)) rm_X1_firstFor (va_Pc [.ref xJ, .int p0, .int p1] (gPre (dC, dI) (tyl cI cC cZ cB cJ) (wd_X1_firstFor cI cC cZ cB cJ xJ xL wX vJ vR) sz)) (q_X1_firstFor dC dI cI cC cZ cB cJ (va_A (wd_X1_firstFor cI cC cZ cB cJ xJ xL wX vJ vR) sz) xJ xL wX vJ vR post) 0 0 (va_A (wd_X1_firstFor cI cC cZ cB cJ xJ xL wX vJ vR) sz) := by
  refine g_enter (own := RX1) (dC, dI) (tyl cI cC cZ cB cJ) (wd_X1_firstFor cI cC cZ cB cJ xJ xL wX vJ vR) sz [.ref xJ, .int p0, .int p1] (fun A => q_X1_firstFor dC dI cI cC cZ cB cJ A xJ xL wX vJ vR post) pn_RX1 rfl (Nat.le_of_ble_eq_true rfl) ?_
  intro p e s m args below meth c A H locs ls C0 hP hD hS hl
  have hl : lv_has ls 4 [(0, .ref xJ), (1, .int p0), (2, .int p1)] := hl
  obtain ⟨hx, hb, hr, hml, hown, hts, hlocks, hA, hK, hN, tL, tM, hZL, hTL, hZM, hTM, hZX⟩ := id C0
  have hp := hw
  unfold wp_X1_firstFor at hp
  refine lv_iconst (v := 0) hx hb eX1_firstFor_0.1 ic_0 ?_
  refine lv_istore_n (lv' := [(3, .int 0), (0, .ref xJ), (1, .int p0), (2, .int p1)]) hx hb eX1_firstFor_0.2.1 rfl hl (by decide) rfl (fun ls hl => ?_)
  obtain ⟨n9, hp⟩ := hp
  exact kb_X1_firstFor_2 C0 n9 p0 p1 0 H locs ls hp hP hD hS (lv_sub hl [1, 2, 3, 0] rfl)
noncomputable abbrev wd_X9_tellLeastMarks (cI cC cZ cB cJ : ClassId) (a_x xG xD wY wJ wQ xI xK xJ tW qT xL wX : Nat) (qF : Int32) (jJ : Nat → Int32) (vJ : Int32) (vR : Nat → Int32) : va_W := [(a_x, .inr (9, [.ref xG, .ref xD, .ref wY, .ref wJ, .ref wQ, .ref xI, .ref xK, .ref xJ, .ref tW])), (xK, .inr (6, [.ref qT, .int qF])), (qT, .inl (cI, 16, .inl jJ)), (xJ, .inr (1, [.ref xL, .ref wX, .int vJ])), (wX, .inl (cI, 48, .inl vR))]
noncomputable abbrev q_X9_tellLeastMarks (dC : Nat → ClassId) (dI : Nat → Nat → Nat) (cI cC cZ cB cJ : ClassId) (A : Nat → Prop) (a_x xG xD wY wJ wQ xI xK xJ tW qT xL wX : Nat) (vJ : Int32) (vR : Nat → Int32) (post : Int32 → (Nat → Int32) → Prop) : Array Value → State → Outcome → State → Prop := va_Qv (fun (u : Int32 × (Nat → Int32)) => post u.1 u.2) (fun u t => gB (dC, dI) (tyl cI cC cZ cB cJ) A (wd_X9_tellLeastMarks cI cC cZ cB cJ a_x xG xD wY wJ wQ xI xK xJ tW qT xL wX u.1 u.2 vJ vR) t) A
noncomputable abbrev rm_X9_tellLeastMarks : Room := { frames := 1, cells := 0, slots := 0, locals := 23 }
section S_X9_tellLeastMarks
variable {p : Program} {l : Launch} {e : Env} {s : State} {m : MethodId} {args : Array Value} {below : List Frame} {meth : Method} {c : Code} {dC : Nat → ClassId} {dI : Nat → Nat → Nat} {cI cC cZ cB cJ : ClassId} {A : Nat → Prop} {a_x xG xD wY wJ wQ xI xK xJ tW qT xL wX : Nat} {vJ : Int32} {vR : Nat → Int32} {post : Int32 → (Nat → Int32) → Prop}
noncomputable def ws_X9_tellLeastMarks_16 (post : Int32 → (Nat → Int32) → Prop) (next : Int32 → Int32 → Int32 → (Nat → Int32) → Prop) (vJ : Int32) (vR : Nat → Int32) (x2 x3 qF : Int32) (jJ : Nat → Int32) : Prop := (vJ ≤ x3 → post qF jJ) ∧ (¬ vJ ≤ x3 → wp_X1_firstFor (fun r_2 => wp_X6_add (fun aAq zE => ∀ v_5 : Int32, v_5 = x3 + 1 → next r_2 v_5 aAq zE) r_2 qF jJ) x3 x2 vR)
noncomputable def wb_X9_tellLeastMarks_16 (post : Int32 → (Nat → Int32) → Prop) (vJ : Int32) (vR : Nat → Int32) : Nat → Int32 → Int32 → Int32 → (Nat → Int32) → Prop := fun n => Nat.rec (motive := fun _ => Int32 → Int32 → Int32 → (Nat → Int32) → Prop) (fun _ _ _ _ => False) (fun _ ih => ws_X9_tellLeastMarks_16 post ih vJ vR) n
set_option maxHeartbeats 4000000 in
set_option maxRecDepth 100000 in
theorem ks_X9_tellLeastMarks_16 (C0 : gc cX9_tellLeastMarks none 4 RX9 (dC, dI) (tyl cI cC cZ cB cJ) A p s m args meth c) {next : Int32 → Int32 → Int32 → (Nat → Int32) → Prop} (hKn : ∀ (x2 : Int32) (x3 : Int32) (qF : Int32) (jJ : Nat → Int32) (H : Heap) (locs : List Loc) (ls : Array Slot), next x2 x3 qF jJ → va_P (dC, dI) classes (wd_X9_tellLeastMarks cI cC cZ cB cJ a_x xG xD wY wJ wQ xI xK xJ tW qT xL wX qF jJ vJ vR) H → va_D A (wd_X9_tellLeastMarks cI cC cZ cB cJ a_x xG xD wY wJ wQ xI xK xJ tW qT xL wX qF jJ vJ vR) → va_S A s.heap H locs → lv_has ls 4 [(0, .ref a_x), (2, .int x2), (3, .int x3)] → W p l e rm_X9_tellLeastMarks s m args below meth c H locs 0 0 (MQ below (q_X9_tellLeastMarks dC dI cI cC cZ cB cJ A a_x xG xD wY wJ wQ xI xK xJ tW qT xL wX vJ vR post) args s 0 0 A) (F0 m 16 ls [])) : ∀ (x2 x3 qF : Int32) (jJ : Nat → Int32) (H : Heap) (locs : List Loc) (ls : Array Slot), (ws_X9_tellLeastMarks_16 post next vJ vR) x2 x3 qF jJ → va_P (dC, dI) classes (wd_X9_tellLeastMarks cI cC cZ cB cJ a_x xG xD wY wJ wQ xI xK xJ tW qT xL wX qF jJ vJ vR) H → va_D A (wd_X9_tellLeastMarks cI cC cZ cB cJ a_x xG xD wY wJ wQ xI xK xJ tW qT xL wX qF jJ vJ vR) → va_S A s.heap H locs → lv_has ls 4 [(0, .ref a_x), (2, .int x2), (3, .int x3)] → W p l e rm_X9_tellLeastMarks s m args below meth c H locs 0 0 (MQ below (q_X9_tellLeastMarks dC dI cI cC cZ cB cJ A a_x xG xD wY wJ wQ xI xK xJ tW qT xL wX vJ vR post) args s 0 0 A) (F0 m 16 ls []) := by
  obtain ⟨hx, hb, hr, hml, hown, hts, hlocks, hA, hK, hN, tL, tM, hZL, hTL, hZM, hTM, hZX⟩ := id C0
  intro x2 x3 qF jJ H locs ls hp hP hD hS hl
  unfold ws_X9_tellLeastMarks_16 at hp
  refine lv_iload_n hx hb eX9_tellLeastMarks_0.2.2.2.2.2.2.2.2.2.2.1 rfl (lv_at hl 2 rfl) ?_
  refine lv_aload_n hx hb eX9_tellLeastMarks_0.2.2.2.2.2.2.2.2.2.2.2.1 rfl (lv_at hl 0 rfl) ?_
  refine va_get (D := (dC, dI)) (ci := 9) (v := .ref xJ) (C := RX9) (T := TX9) (N := 9) hx hb hts i_X9 hown hK hP 0 rfl rfl 7 (Nat.le_of_ble_eq_true rfl) (hts _ q_599) (fun _ h9 => h9) rfl eX9_tellLeastMarks_0.2.2.2.2.2.2.2.2.2.2.2.2.1 ?_
  refine va_get (D := (dC, dI)) (ci := 1) (v := .int vJ) (C := RX1) (T := TX1) (N := 3) hx hb hts i_X1 hown hK hP 3 rfl rfl 2 (Nat.le_of_ble_eq_true rfl) (hts _ q_600) (fun _ h9 => h9) rfl eX9_tellLeastMarks_0.2.2.2.2.2.2.2.2.2.2.2.2.2.1 ?_
  refine lv_icmp_ge (tgt := 51) hx hb eX9_tellLeastMarks_0.2.2.2.2.2.2.2.2.2.2.2.2.2.2.1 (by decide) (fun hc => ?_) (fun hc => ?_)
  · have hp := hp.1 hc
    exact W.vret hx hb hr (fun t ht hW => ⟨⟨(qF, jJ), rfl, hp, by rw [ht]; exact hP, va_K.moved hW.alike hK, hD⟩, hS.F ht⟩) hS.2.2 eX9_tellLeastMarks_28.2.2.2.2.2.2.2.2.2.2.2
  · have hp := hp.2 hc
    refine lv_aload_n hx hb eX9_tellLeastMarks_0.2.2.2.2.2.2.2.2.2.2.2.2.2.2.2 rfl (lv_at hl 0 rfl) ?_
    refine va_get (D := (dC, dI)) (ci := 9) (v := .ref xJ) (C := RX9) (T := TX9) (N := 9) hx hb hts i_X9 hown hK hP 0 rfl rfl 7 (Nat.le_of_ble_eq_true rfl) (hts _ q_599) (fun _ h9 => h9) rfl eX9_tellLeastMarks_28.1 ?_
    refine lv_iload_n hx hb eX9_tellLeastMarks_28.2.1 rfl (lv_at hl 2 rfl) ?_
    refine lv_iload_n hx hb eX9_tellLeastMarks_28.2.2.1 rfl (lv_at hl 1 rfl) ?_
    have hm := mgk (wc := (wd_X1_firstFor cI cC cZ cB cJ xJ xL wX vJ vR)) hP mk_186 5 rfl rfl rfl
    refine g_calli hP hD hS hA (mixT mk_186) (mixF mk_186) hm.1 hm.2 (nd_F _) (dis_g _) (g_runV (As := [.int x3, .int x2]) (rest := []) C0 hP hD hS (mixT mk_186) hm.1 (nd_T _) 3 1 rfl rfl (c_X1_firstFor l dC dI cI cC cZ cB cJ xJ xL wX H.size x3 x2 vJ vR _ hp) q_601 q_605 q_603 q_604 q_602 h_X1_firstFor rfl rfl ⟨Nat.le_of_ble_eq_true rfl, Nat.le_of_ble_eq_true rfl⟩ rfl rfl hl.1 rfl (lv_room (Nat.le_of_ble_eq_true rfl)) eX9_tellLeastMarks_28.2.2.2.1 ⟨Nat.zero_le _, Nat.zero_le _⟩) (fun r_2 u H locs hp hP hD hS => ?_)
    have hPD := PDm (ws' := (wd_X9_tellLeastMarks cI cC cZ cB cJ a_x xG xD wY wJ wQ xI xK xJ tW qT xL wX qF jJ vJ vR)) hP hD 5 rfl rfl rfl
    have hP := hPD.1
    have hD := hPD.2
    refine lv_istore_n (lv' := [(2, .int r_2), (0, .ref a_x), (3, .int x3)]) hx hb eX9_tellLeastMarks_28.2.2.2.2.1 rfl hl (by decide) rfl (fun ls hl => ?_)
    refine lv_aload_n hx hb eX9_tellLeastMarks_28.2.2.2.2.2.1 rfl (lv_at hl 1 rfl) ?_
    refine va_get (D := (dC, dI)) (ci := 9) (v := .ref xK) (C := RX9) (T := TX9) (N := 9) hx hb hts i_X9 hown hK hP 0 rfl rfl 6 (Nat.le_of_ble_eq_true rfl) (hts _ q_363) (fun _ h9 => h9) rfl eX9_tellLeastMarks_28.2.2.2.2.2.2.1 ?_
    refine lv_iload_n hx hb eX9_tellLeastMarks_28.2.2.2.2.2.2.2.1 rfl (lv_at hl 0 rfl) ?_
    have hm := mgk (wc := (wd_X6_add cI cC cZ cB cJ xK qT qF jJ)) hP mk_45 5 rfl rfl rfl
    refine g_callv hP hD hS hA (mixT mk_45) (mixF mk_45) hm.1 hm.2 (nd_F _) (dis_g _) (g_runV (As := [.int r_2]) (rest := []) C0 hP hD hS (mixT mk_45) hm.1 (nd_T _) 1 6 rfl rfl (c_X6_add l dC dI cI cC cZ cB cJ xK qT H.size r_2 qF jJ _ hp) q_369 q_372 q_370 q_371 q_365 h_X6_add rfl rfl ⟨Nat.le_of_ble_eq_true rfl, Nat.le_of_ble_eq_true rfl⟩ rfl rfl hl.1 rfl (lv_room (Nat.le_of_ble_eq_true rfl)) eX9_tellLeastMarks_28.2.2.2.2.2.2.2.2.1 ⟨Nat.zero_le _, Nat.zero_le _⟩) (fun u H locs hp hP hD hS => ?_)
    obtain ⟨aAq, zE⟩ := u
    have hPD := PDm (ws' := (wd_X9_tellLeastMarks cI cC cZ cB cJ a_x xG xD wY wJ wQ xI xK xJ tW qT xL wX aAq zE vJ vR)) hP hD 5 rfl rfl rfl
    have hP := hPD.1
    have hD := hPD.2
    obtain ⟨v_5, ev_5⟩ : ∃ y : Int32, y = x3 + 1 := ⟨_, rfl⟩
    refine lv_iinc (v := v_5) (lv' := [(3, .int v_5), (2, .int r_2), (0, .ref a_x)]) hx hb eX9_tellLeastMarks_28.2.2.2.2.2.2.2.2.2.1 hl (k := 2) rfl (by rw [ev_5]; rfl) (by decide) rfl (fun ls hl => ?_)
    have hp := hp v_5 ev_5
    refine lv_goto (tgt := 16) hx hb eX9_tellLeastMarks_28.2.2.2.2.2.2.2.2.2.2.1 (by decide) ?_
    exact hKn r_2 v_5 aAq zE H locs ls hp hP hD hS (lv_sub hl [2, 1, 0] rfl)
set_option maxHeartbeats 4000000 in
set_option maxRecDepth 100000 in
theorem kb_X9_tellLeastMarks_16 (C0 : gc cX9_tellLeastMarks none 4 RX9 (dC, dI) (tyl cI cC cZ cB cJ) A p s m args meth c) : ∀ (n : Nat), ∀ (x2 x3 qF : Int32) (jJ : Nat → Int32) (H : Heap) (locs : List Loc) (ls : Array Slot), (wb_X9_tellLeastMarks_16 post vJ vR n) x2 x3 qF jJ → va_P (dC, dI) classes (wd_X9_tellLeastMarks cI cC cZ cB cJ a_x xG xD wY wJ wQ xI xK xJ tW qT xL wX qF jJ vJ vR) H → va_D A (wd_X9_tellLeastMarks cI cC cZ cB cJ a_x xG xD wY wJ wQ xI xK xJ tW qT xL wX qF jJ vJ vR) → va_S A s.heap H locs → lv_has ls 4 [(0, .ref a_x), (2, .int x2), (3, .int x3)] → W p l e rm_X9_tellLeastMarks s m args below meth c H locs 0 0 (MQ below (q_X9_tellLeastMarks dC dI cI cC cZ cB cJ A a_x xG xD wY wJ wQ xI xK xJ tW qT xL wX vJ vR post) args s 0 0 A) (F0 m 16 ls []) := by
  intro n
  induction n with
  | zero =>
    intro x2 x3 qF jJ H locs ls hp
    exact False.elim hp
  | succ n ih =>
    intro x2 x3 qF jJ H locs ls hp
    exact ks_X9_tellLeastMarks_16 C0 ih x2 x3 qF jJ H locs ls hp
end S_X9_tellLeastMarks
noncomputable def wp_X9_tellLeastMarks (post : Int32 → (Nat → Int32) → Prop) (p0 qF : Int32) (jJ : Nat → Int32) (vJ : Int32) (vR : Nat → Int32) : Prop := wp_X6_clear (fun aAa => (¬ p0 = 0 → ∃ n : Nat, wb_X9_tellLeastMarks_16 post vJ vR n (-1) 0 aAa jJ) ∧ (p0 = 0 → post aAa jJ)) qF
set_option maxHeartbeats 4000000 in
set_option maxRecDepth 100000 in
theorem c_X9_tellLeastMarks (l : Launch) (dC : Nat → ClassId) (dI : Nat → Nat → Nat) (cI cC cZ cB cJ : ClassId) (a_x xG xD wY wJ wQ xI xK xJ tW qT xL wX sz : Nat) (p0 qF : Int32) (jJ : Nat → Int32) (vJ : Int32) (vR : Nat → Int32) (post : Int32 → (Nat → Int32) → Prop) (hw : wp_X9_tellLeastMarks post p0 qF jJ vJ vR) : Met l yX9_tellLeastMarks (gw yX9_tellLeastMarks cX9_tellLeastMarks 4 none) rm_X9_tellLeastMarks (va_Pc [.ref a_x, .int p0] (gPre (dC, dI) (tyl cI cC cZ cB cJ) (wd_X9_tellLeastMarks cI cC cZ cB cJ a_x xG xD wY wJ wQ xI xK xJ tW qT xL wX qF jJ vJ vR) sz)) (q_X9_tellLeastMarks dC dI cI cC cZ cB cJ (va_A (wd_X9_tellLeastMarks cI cC cZ cB cJ a_x xG xD wY wJ wQ xI xK xJ tW qT xL wX qF jJ vJ vR) sz) a_x xG xD wY wJ wQ xI xK xJ tW qT xL wX vJ vR post) 0 0 (va_A (wd_X9_tellLeastMarks cI cC cZ cB cJ a_x xG xD wY wJ wQ xI xK xJ tW qT xL wX qF jJ vJ vR) sz) := by
  refine g_enter (own := RX9) (dC, dI) (tyl cI cC cZ cB cJ) (wd_X9_tellLeastMarks cI cC cZ cB cJ a_x xG xD wY wJ wQ xI xK xJ tW qT xL wX qF jJ vJ vR) sz [.ref a_x, .int p0] (fun A => q_X9_tellLeastMarks dC dI cI cC cZ cB cJ A a_x xG xD wY wJ wQ xI xK xJ tW qT xL wX vJ vR post) pn_RX9 rfl (Nat.le_of_ble_eq_true rfl) ?_
  intro p e s m args below meth c A H locs ls C0 hP hD hS hl
  have hl : lv_has ls 4 [(0, .ref a_x), (1, .int p0)] := hl
  obtain ⟨hx, hb, hr, hml, hown, hts, hlocks, hA, hK, hN, tL, tM, hZL, hTL, hZM, hTM, hZX⟩ := id C0
  have hp := hw
  unfold wp_X9_tellLeastMarks at hp
  refine lv_aload_n hx hb eX9_tellLeastMarks_0.1 rfl (lv_at hl 0 rfl) ?_
  refine va_get (D := (dC, dI)) (ci := 9) (v := .ref xK) (C := RX9) (T := TX9) (N := 9) hx hb hts i_X9 hown hK hP 0 rfl rfl 6 (Nat.le_of_ble_eq_true rfl) (hts _ q_363) (fun _ h9 => h9) rfl eX9_tellLeastMarks_0.2.1 ?_
  have hm := mgk (wc := (wd_X6_clear cI cC cZ cB cJ xK qT qF)) hP mk_187 5 rfl rfl rfl
  refine g_callv hP hD hS hA (mixT mk_187) (mixF mk_187) hm.1 hm.2 (nd_F _) (dis_g _) (g_runV (As := []) (rest := []) C0 hP hD hS (mixT mk_187) hm.1 (nd_T _) 1 6 rfl rfl (c_X6_clear l dC dI cI cC cZ cB cJ xK qT H.size qF _ hp) q_364 q_368 q_366 q_367 q_365 h_X6_clear rfl rfl ⟨Nat.le_of_ble_eq_true rfl, Nat.le_of_ble_eq_true rfl⟩ rfl rfl hl.1 rfl (lv_room (Nat.le_of_ble_eq_true rfl)) eX9_tellLeastMarks_0.2.2.1 ⟨Nat.zero_le _, Nat.zero_le _⟩) (fun u H locs hp hP hD hS => ?_)
  obtain ⟨aAa, rfl⟩ : ∃ z, z = u := ⟨_, rfl⟩
  have hPD := PDm (ws' := (wd_X9_tellLeastMarks cI cC cZ cB cJ a_x xG xD wY wJ wQ xI xK xJ tW qT xL wX aAa jJ vJ vR)) hP hD 5 rfl rfl rfl
  have hP := hPD.1
  have hD := hPD.2
  refine lv_iload_n hx hb eX9_tellLeastMarks_0.2.2.2.1 rfl (lv_at hl 1 rfl) ?_
  refine lv_if_ne (tgt := 12) hx hb eX9_tellLeastMarks_0.2.2.2.2.1 (by decide) (fun hc => ?_) (fun hc => ?_)
  · have hp := hp.1 hc
    refine lv_iconst (v := (-1)) hx hb eX9_tellLeastMarks_0.2.2.2.2.2.2.1 ic_m1 ?_
    refine lv_istore_n (lv' := [(2, .int (-1)), (0, .ref a_x), (1, .int p0)]) hx hb eX9_tellLeastMarks_0.2.2.2.2.2.2.2.1 rfl hl (by decide) rfl (fun ls hl => ?_)
    refine lv_iconst (v := 0) hx hb eX9_tellLeastMarks_0.2.2.2.2.2.2.2.2.1 ic_0 ?_
    refine lv_istore_n (lv' := [(3, .int 0), (2, .int (-1)), (0, .ref a_x), (1, .int p0)]) hx hb eX9_tellLeastMarks_0.2.2.2.2.2.2.2.2.2.1 rfl hl (by decide) rfl (fun ls hl => ?_)
    obtain ⟨n9, hp⟩ := hp
    exact kb_X9_tellLeastMarks_16 C0 n9 (-1) 0 aAa jJ H locs ls hp hP hD hS (lv_sub hl [2, 1, 0] rfl)
  · have hp := hp.2 hc
    exact W.vret hx hb hr (fun t ht hW => ⟨⟨(aAa, jJ), rfl, hp, by rw [ht]; exact hP, va_K.moved hW.alike hK, hD⟩, hS.F ht⟩) hS.2.2 eX9_tellLeastMarks_0.2.2.2.2.2.1
noncomputable abbrev wd_X9_grass (cI cC cZ cB cJ : ClassId) (a_x xG xD wY wJ wQ xI xK xJ tW uT tX jE mX pD oO oQ eG qT xL wX : Nat) (qI qJ rY : Int32) (qM : Nat → Int32) (bZ bD bI aI : Int32) (nJ : Nat → Int32) (qF : Int32) (jJ : Nat → Int32) (vJ : Int32) (xB vR : Nat → Int32) : va_W := [(a_x, .inr (9, [.ref xG, .ref xD, .ref wY, .ref wJ, .ref wQ, .ref xI, .ref xK, .ref xJ, .ref tW])), (xG, .inr (8, [.ref uT, .int qI, .int qJ, .int rY])), (uT, .inl (cC, 80, .inl qM)), (wJ, .inr (3, [.ref tX, .ref jE, .ref mX, .ref pD, .ref oO, .ref oQ, .ref eG, .int bZ, .int bD, .int bI, .int aI])), (oO, .inl (cI, 8, .inl nJ)), (xK, .inr (6, [.ref qT, .int qF])), (qT, .inl (cI, 16, .inl jJ)), (xJ, .inr (1, [.ref xL, .ref wX, .int vJ])), (xL, .inl (cI, 6, .inl xB)), (wX, .inl (cI, 48, .inl vR))]
noncomputable abbrev q_X9_grass (dC : Nat → ClassId) (dI : Nat → Nat → Nat) (cI cC cZ cB cJ : ClassId) (A : Nat → Prop) (a_x xG xD wY wJ wQ xI xK xJ tW uT tX jE mX pD oO oQ eG qT xL wX : Nat) (qM : Nat → Int32) (bZ bD bI aI : Int32) (nJ : Nat → Int32) (post : Int32 → Int32 → Int32 → Int32 → Int32 → (Nat → Int32) → Int32 → (Nat → Int32) → (Nat → Int32) → Prop) : Array Value → State → Outcome → State → Prop := va_Qi (fun (r : Int32) (u : Int32 × Int32 × Int32 × Int32 × (Nat → Int32) × Int32 × (Nat → Int32) × (Nat → Int32)) => post r u.1 u.2.1 u.2.2.1 u.2.2.2.1 u.2.2.2.2.1 u.2.2.2.2.2.1 u.2.2.2.2.2.2.1 u.2.2.2.2.2.2.2) (fun u t => gB (dC, dI) (tyl cI cC cZ cB cJ) A (wd_X9_grass cI cC cZ cB cJ a_x xG xD wY wJ wQ xI xK xJ tW uT tX jE mX pD oO oQ eG qT xL wX u.1 u.2.1 u.2.2.1 qM bZ bD bI aI nJ u.2.2.2.1 u.2.2.2.2.1 u.2.2.2.2.2.1 u.2.2.2.2.2.2.1 u.2.2.2.2.2.2.2) t) A
noncomputable abbrev rm_X9_grass : Room := { frames := 3, cells := 0, slots := 0, locals := 73 }
section S_X9_grass
variable {p : Program} {l : Launch} {e : Env} {s : State} {m : MethodId} {args : Array Value} {below : List Frame} {meth : Method} {c : Code} {dC : Nat → ClassId} {dI : Nat → Nat → Nat} {cI cC cZ cB cJ : ClassId} {A : Nat → Prop} {a_x xG xD wY wJ wQ xI xK xJ tW uT tX jE mX pD oO oQ eG qT xL wX : Nat} {qM : Nat → Int32} {bZ bD bI aI : Int32} {nJ : Nat → Int32} {post : Int32 → Int32 → Int32 → Int32 → Int32 → (Nat → Int32) → Int32 → (Nat → Int32) → (Nat → Int32) → Prop}
noncomputable def ws_X9_grass_65 (post : Int32 → Int32 → Int32 → Int32 → Int32 → (Nat → Int32) → Int32 → (Nat → Int32) → (Nat → Int32) → Prop) (qM : Nat → Int32) (bD : Int32) (nJ : Nat → Int32) (x2 qI qJ rY qF : Int32) (jJ : Nat → Int32) (vJ : Int32) (xB vR : Nat → Int32) : Prop := wp_X8_clear (fun tx_length_1 => post x2 tx_length_1 qJ rY qF jJ vJ xB vR) qI
set_option maxHeartbeats 4000000 in
set_option maxRecDepth 100000 in
theorem ks_X9_grass_65 (C0 : gc cX9_grass (some .int) 3 RX9 (dC, dI) (tyl cI cC cZ cB cJ) A p s m args meth c) : ∀ (x2 qI qJ rY qF : Int32) (jJ : Nat → Int32) (vJ : Int32) (xB vR : Nat → Int32) (H : Heap) (locs : List Loc) (ls : Array Slot), (ws_X9_grass_65 post qM bD nJ) x2 qI qJ rY qF jJ vJ xB vR → va_P (dC, dI) classes (wd_X9_grass cI cC cZ cB cJ a_x xG xD wY wJ wQ xI xK xJ tW uT tX jE mX pD oO oQ eG qT xL wX qI qJ rY qM bZ bD bI aI nJ qF jJ vJ xB vR) H → va_D A (wd_X9_grass cI cC cZ cB cJ a_x xG xD wY wJ wQ xI xK xJ tW uT tX jE mX pD oO oQ eG qT xL wX qI qJ rY qM bZ bD bI aI nJ qF jJ vJ xB vR) → va_S A s.heap H locs → lv_has ls 3 [(0, .ref a_x), (2, .int x2)] → W p l e rm_X9_grass s m args below meth c H locs 0 0 (MQ below (q_X9_grass dC dI cI cC cZ cB cJ A a_x xG xD wY wJ wQ xI xK xJ tW uT tX jE mX pD oO oQ eG qT xL wX qM bZ bD bI aI nJ post) args s 0 0 A) (F0 m 65 ls []) := by
  obtain ⟨hx, hb, hr, hml, hown, hts, hlocks, hA, hK, hN, tL, tM, hZL, hTL, hZM, hTM, hZX⟩ := id C0
  intro x2 qI qJ rY qF jJ vJ xB vR H locs ls hp hP hD hS hl
  unfold ws_X9_grass_65 at hp
  refine lv_aload_n hx hb eX9_grass_65.1 rfl (lv_at hl 0 rfl) ?_
  refine va_get (D := (dC, dI)) (ci := 9) (v := .ref xG) (C := RX9) (T := TX9) (N := 9) hx hb hts i_X9 hown hK hP 0 rfl rfl 0 (Nat.le_of_ble_eq_true rfl) (hts _ q_3) (fun _ h9 => h9) rfl eX9_grass_65.2.1 ?_
  have hm := mgk (wc := (wd_X8_clear cI cC cZ cB cJ xG uT qI qJ rY)) hP mk_188 10 rfl rfl rfl
  refine g_callv hP hD hS hA (mixT mk_188) (mixF mk_188) hm.1 hm.2 (nd_F _) (dis_g _) (g_runV (As := []) (rest := []) C0 hP hD hS (mixT mk_188) hm.1 (nd_T _) 1 8 rfl rfl (c_X8_clear l dC dI cI cC cZ cB cJ xG uT H.size qI qJ rY _ hp) q_83 q_86 q_84 q_85 q_5 h_X8_clear rfl rfl ⟨Nat.le_of_ble_eq_true rfl, Nat.le_of_ble_eq_true rfl⟩ rfl rfl hl.1 rfl (lv_room (Nat.le_of_ble_eq_true rfl)) eX9_grass_65.2.2.1 ⟨Nat.zero_le _, Nat.zero_le _⟩) (fun u H locs hp hP hD hS => ?_)
  obtain ⟨tx_length_1, rfl⟩ : ∃ z, z = u := ⟨_, rfl⟩
  have hPD := PDm (ws' := (wd_X9_grass cI cC cZ cB cJ a_x xG xD wY wJ wQ xI xK xJ tW uT tX jE mX pD oO oQ eG qT xL wX tx_length_1 qJ rY qM bZ bD bI aI nJ qF jJ vJ xB vR)) hP hD 10 rfl rfl rfl
  have hP := hPD.1
  have hD := hPD.2
  refine lv_iload_n hx hb eX9_grass_65.2.2.2.1 rfl (lv_at hl 1 rfl) ?_
  exact W.iret (v := x2) hx hb hr (fun t ht hW => ⟨⟨x2, (tx_length_1, qJ, rY, qF, jJ, vJ, xB, vR), rfl, hp, by rw [ht]; exact hP, va_K.moved hW.alike hK, hD⟩, hS.F ht⟩) hS.2.2 eX9_grass_65.2.2.2.2
end S_X9_grass
noncomputable def wp_X9_grass (post : Int32 → Int32 → Int32 → Int32 → Int32 → (Nat → Int32) → Int32 → (Nat → Int32) → (Nat → Int32) → Prop) (p0 qI qJ rY : Int32) (qM : Nat → Int32) (bD : Int32) (nJ : Nat → Int32) (qF : Int32) (jJ : Nat → Int32) (vJ : Int32) (xB vR : Nat → Int32) : Prop := (p0 < 0 → ws_X9_grass_65 post qM bD nJ (-100) qI qJ rY qF jJ vJ xB vR) ∧ (¬ p0 < 0 → (99 < p0 → ws_X9_grass_65 post qM bD nJ (-100) qI qJ rY qF jJ vJ xB vR) ∧ (¬ 99 < p0 → wp_X8_open (fun xO aCE => wp_X1_readAll (fun r_4 aAF aCF mk_at_7 => (r_4 = 0 → wp_X8_wrong (fun r_8 => ws_X9_grass_65 post qM bD nJ r_8 qI aAF aCE qF jJ aCF mk_at_7 vR) aAF) ∧ (¬ r_4 = 0 → wp_X1_countRows (fun r_9 aJU => wp_X9_tellLeastMarks (fun aEy aBy => ws_X9_grass_65 post qM bD nJ r_9 qI aAF aCE aEy aBy aCF mk_at_7 aJU) r_9 qF jJ aCF aJU) p0 bD nJ aCF mk_at_7 vR)) qI xO aCE qM vJ xB) 80 qI qJ rY))
set_option maxHeartbeats 4000000 in
set_option maxRecDepth 100000 in
theorem c_X9_grass (l : Launch) (dC : Nat → ClassId) (dI : Nat → Nat → Nat) (cI cC cZ cB cJ : ClassId) (a_x xG xD wY wJ wQ xI xK xJ tW uT tX jE mX pD oO oQ eG qT xL wX sz : Nat) (p0 qI qJ rY : Int32) (qM : Nat → Int32) (bZ bD bI aI : Int32) (nJ : Nat → Int32) (qF : Int32) (jJ : Nat → Int32) (vJ : Int32) (xB vR : Nat → Int32) (post : Int32 → Int32 → Int32 → Int32 → Int32 → (Nat → Int32) → Int32 → (Nat → Int32) → (Nat → Int32) → Prop) (hw : wp_X9_grass post p0 qI qJ rY qM bD nJ qF jJ vJ xB vR) : Met l yX9_grass (gw yX9_grass cX9_grass 3 (some .int)) rm_X9_grass (va_Pc [.ref a_x, .int p0] (gPre (dC, dI) (tyl cI cC cZ cB cJ) (wd_X9_grass cI cC cZ cB cJ a_x xG xD wY wJ wQ xI xK xJ tW uT tX jE mX pD oO oQ eG qT xL wX qI qJ rY qM bZ bD bI aI nJ qF jJ vJ xB vR) sz)) (q_X9_grass dC dI cI cC cZ cB cJ (va_A (wd_X9_grass cI cC cZ cB cJ a_x xG xD wY wJ wQ xI xK xJ tW uT tX jE mX pD oO oQ eG qT xL wX qI qJ rY qM bZ bD bI aI nJ qF jJ vJ xB vR) sz) a_x xG xD wY wJ wQ xI xK xJ tW uT tX jE mX pD oO oQ eG qT xL wX qM bZ bD bI aI nJ post) 0 0 (va_A (wd_X9_grass cI cC cZ cB cJ a_x xG xD wY wJ wQ xI xK xJ tW uT tX jE mX pD oO oQ eG qT xL wX qI qJ rY qM bZ bD bI aI nJ qF jJ vJ xB vR) sz) := by
  refine g_enter (own := RX9) (dC, dI) (tyl cI cC cZ cB cJ) (wd_X9_grass cI cC cZ cB cJ a_x xG xD wY wJ wQ xI xK xJ tW uT tX jE mX pD oO oQ eG qT xL wX qI qJ rY qM bZ bD bI aI nJ qF jJ vJ xB vR) sz [.ref a_x, .int p0] (fun A => q_X9_grass dC dI cI cC cZ cB cJ A a_x xG xD wY wJ wQ xI xK xJ tW uT tX jE mX pD oO oQ eG qT xL wX qM bZ bD bI aI nJ post) pn_RX9 rfl (Nat.le_of_ble_eq_true rfl) ?_
  intro p e s m args below meth c A H locs ls C0 hP hD hS hl
  have hl : lv_has ls 3 [(0, .ref a_x), (1, .int p0)] := hl
  obtain ⟨hx, hb, hr, hml, hown, hts, hlocks, hA, hK, hN, tL, tM, hZL, hTL, hZM, hTM, hZX⟩ := id C0
  have hp := hw
  unfold wp_X9_grass at hp
  refine lv_bipush (v := (-100)) hx hb eX9_grass_0.1 bp_m100 ?_
  refine lv_istore_n (lv' := [(2, .int (-100)), (0, .ref a_x), (1, .int p0)]) hx hb eX9_grass_0.2.1 rfl hl (by decide) rfl (fun ls hl => ?_)
  refine lv_iload_n hx hb eX9_grass_0.2.2.1 rfl (lv_at hl 2 rfl) ?_
  refine lv_if_lt (tgt := 65) hx hb eX9_grass_0.2.2.2.1 (by decide) (fun hc => ?_) (fun hc => ?_)
  · have hp := hp.1 hc
    exact ks_X9_grass_65 C0 (-100) qI qJ rY qF jJ vJ xB vR H locs ls hp hP hD hS (lv_sub hl [1, 0] rfl)
  · have hp := hp.2 hc
    refine lv_iload_n hx hb eX9_grass_0.2.2.2.2.1 rfl (lv_at hl 2 rfl) ?_
    refine lv_bipush (v := 99) hx hb eX9_grass_0.2.2.2.2.2.1 bp_99 ?_
    refine lv_icmp_gt (tgt := 65) hx hb eX9_grass_0.2.2.2.2.2.2.1 (by decide) (fun hc => ?_) (fun hc => ?_)
    · have hp := hp.1 hc
      exact ks_X9_grass_65 C0 (-100) qI qJ rY qF jJ vJ xB vR H locs ls hp hP hD hS (lv_sub hl [1, 0] rfl)
    · have hp := hp.2 hc
      refine lv_aload_n hx hb eX9_grass_0.2.2.2.2.2.2.2.1 rfl (lv_at hl 1 rfl) ?_
      refine va_get (D := (dC, dI)) (ci := 9) (v := .ref xG) (C := RX9) (T := TX9) (N := 9) hx hb hts i_X9 hown hK hP 0 rfl rfl 0 (Nat.le_of_ble_eq_true rfl) (hts _ q_3) (fun _ h9 => h9) rfl eX9_grass_0.2.2.2.2.2.2.2.2.1 ?_
      refine lv_bipush (v := 80) hx hb eX9_grass_0.2.2.2.2.2.2.2.2.2.1 bp_80 ?_
      have hm := mgk (wc := (wd_X8_open cI cC cZ cB cJ xG uT qI qJ rY)) hP mk_188 10 rfl rfl rfl
      refine g_callv hP hD hS hA (mixT mk_188) (mixF mk_188) hm.1 hm.2 (nd_F _) (dis_g _) (g_runV (As := [.int 80]) (rest := []) C0 hP hD hS (mixT mk_188) hm.1 (nd_T _) 1 8 rfl rfl (c_X8_open l dC dI cI cC cZ cB cJ xG uT H.size 80 qI qJ rY _ hp) q_69 q_72 q_70 q_71 q_5 h_X8_open rfl rfl ⟨Nat.le_of_ble_eq_true rfl, Nat.le_of_ble_eq_true rfl⟩ rfl rfl hl.1 rfl (lv_room (Nat.le_of_ble_eq_true rfl)) eX9_grass_0.2.2.2.2.2.2.2.2.2.2.1 ⟨Nat.zero_le _, Nat.zero_le _⟩) (fun u H locs hp hP hD hS => ?_)
      obtain ⟨xO, aCE⟩ := u
      have hPD := PDm (ws' := (wd_X9_grass cI cC cZ cB cJ a_x xG xD wY wJ wQ xI xK xJ tW uT tX jE mX pD oO oQ eG qT xL wX qI xO aCE qM bZ bD bI aI nJ qF jJ vJ xB vR)) hP hD 10 rfl rfl rfl
      have hP := hPD.1
      have hD := hPD.2
      refine lv_aload_n hx hb eX9_grass_0.2.2.2.2.2.2.2.2.2.2.2.1 rfl (lv_at hl 1 rfl) ?_
      refine va_get (D := (dC, dI)) (ci := 9) (v := .ref xJ) (C := RX9) (T := TX9) (N := 9) hx hb hts i_X9 hown hK hP 0 rfl rfl 7 (Nat.le_of_ble_eq_true rfl) (hts _ q_599) (fun _ h9 => h9) rfl eX9_grass_0.2.2.2.2.2.2.2.2.2.2.2.2.1 ?_
      refine lv_aload_n hx hb eX9_grass_0.2.2.2.2.2.2.2.2.2.2.2.2.2.1 rfl (lv_at hl 1 rfl) ?_
      refine va_get (D := (dC, dI)) (ci := 9) (v := .ref xG) (C := RX9) (T := TX9) (N := 9) hx hb hts i_X9 hown hK hP 0 rfl rfl 0 (Nat.le_of_ble_eq_true rfl) (hts _ q_3) (fun _ h9 => h9) rfl eX9_grass_0.2.2.2.2.2.2.2.2.2.2.2.2.2.2.1 ?_
      have hm := mgk (wc := (wd_X1_readAll cI cC cZ cB cJ xG uT xJ xL wX qI xO aCE qM vJ xB)) hP mk_189 10 rfl rfl rfl
      refine g_calli hP hD hS hA (mixT mk_189) (mixF mk_189) hm.1 hm.2 (nd_F _) (dis_g _) (g_runV (As := [.ref xG]) (rest := []) C0 hP hD hS (mixT mk_189) hm.1 (nd_T _) 7 1 rfl rfl (c_X1_readAll l dC dI cI cC cZ cB cJ xG uT xJ xL wX H.size qI xO aCE qM vJ xB _ hp) q_606 q_609 q_607 q_608 q_602 h_X1_readAll rfl rfl ⟨Nat.le_of_ble_eq_true rfl, Nat.le_of_ble_eq_true rfl⟩ rfl rfl hl.1 rfl (lv_room (Nat.le_of_ble_eq_true rfl)) eX9_grass_0.2.2.2.2.2.2.2.2.2.2.2.2.2.2.2 ⟨Nat.zero_le _, Nat.zero_le _⟩) (fun r_4 u H locs hp hP hD hS => ?_)
      obtain ⟨aAF, aCF, mk_at_7⟩ := u
      have hPD := PDm (ws' := (wd_X9_grass cI cC cZ cB cJ a_x xG xD wY wJ wQ xI xK xJ tW uT tX jE mX pD oO oQ eG qT xL wX qI aAF aCE qM bZ bD bI aI nJ qF jJ aCF mk_at_7 vR)) hP hD 10 rfl rfl rfl
      have hP := hPD.1
      have hD := hPD.2
      refine lv_if_eq (tgt := 57) hx hb eX9_grass_33.1 (by decide) (fun hc => ?_) (fun hc => ?_)
      · have hp := hp.1 hc
        refine lv_aload_n hx hb eX9_grass_33.2.2.2.2.2.2.2.2.2.2.2.2.1 rfl (lv_at hl 1 rfl) ?_
        refine va_get (D := (dC, dI)) (ci := 9) (v := .ref xG) (C := RX9) (T := TX9) (N := 9) hx hb hts i_X9 hown hK hP 0 rfl rfl 0 (Nat.le_of_ble_eq_true rfl) (hts _ q_3) (fun _ h9 => h9) rfl eX9_grass_33.2.2.2.2.2.2.2.2.2.2.2.2.2.1 ?_
        have hm := mgk (wc := (wd_X8_wrong cI cC cZ cB cJ xG uT qI aAF aCE)) hP mk_188 10 rfl rfl rfl
        refine g_calli hP hD hS hA (mixT mk_188) (mixF mk_188) hm.1 hm.2 (nd_F _) (dis_g _) (g_runV (As := []) (rest := []) C0 hP hD hS (mixT mk_188) hm.1 (nd_T _) 1 8 rfl rfl (c_X8_wrong l dC dI cI cC cZ cB cJ xG uT H.size qI aAF aCE _ hp) q_79 q_82 q_80 q_81 q_5 h_X8_wrong rfl rfl ⟨Nat.le_of_ble_eq_true rfl, Nat.le_of_ble_eq_true rfl⟩ rfl rfl hl.1 rfl (lv_room (Nat.le_of_ble_eq_true rfl)) eX9_grass_33.2.2.2.2.2.2.2.2.2.2.2.2.2.2.1 ⟨Nat.zero_le _, Nat.zero_le _⟩) (fun r_8 u H locs hp hP hD hS => ?_)
        have hPD := PDm (ws' := (wd_X9_grass cI cC cZ cB cJ a_x xG xD wY wJ wQ xI xK xJ tW uT tX jE mX pD oO oQ eG qT xL wX qI aAF aCE qM bZ bD bI aI nJ qF jJ aCF mk_at_7 vR)) hP hD 10 rfl rfl rfl
        have hP := hPD.1
        have hD := hPD.2
        refine lv_istore_n (lv' := [(2, .int r_8), (0, .ref a_x), (1, .int p0)]) hx hb eX9_grass_33.2.2.2.2.2.2.2.2.2.2.2.2.2.2.2 rfl hl (by decide) rfl (fun ls hl => ?_)
        exact ks_X9_grass_65 C0 r_8 qI aAF aCE qF jJ aCF mk_at_7 vR H locs ls hp hP hD hS (lv_sub hl [1, 0] rfl)
      · have hp := hp.2 hc
        refine lv_aload_n hx hb eX9_grass_33.2.1 rfl (lv_at hl 1 rfl) ?_
        refine va_get (D := (dC, dI)) (ci := 9) (v := .ref xJ) (C := RX9) (T := TX9) (N := 9) hx hb hts i_X9 hown hK hP 0 rfl rfl 7 (Nat.le_of_ble_eq_true rfl) (hts _ q_599) (fun _ h9 => h9) rfl eX9_grass_33.2.2.1 ?_
        refine lv_aload_n hx hb eX9_grass_33.2.2.2.1 rfl (lv_at hl 1 rfl) ?_
        refine va_get (D := (dC, dI)) (ci := 9) (v := .ref wJ) (C := RX9) (T := TX9) (N := 9) hx hb hts i_X9 hown hK hP 0 rfl rfl 3 (Nat.le_of_ble_eq_true rfl) (hts _ q_74) (fun _ h9 => h9) rfl eX9_grass_33.2.2.2.2.1 ?_
        refine lv_iload_n hx hb eX9_grass_33.2.2.2.2.2.1 rfl (lv_at hl 2 rfl) ?_
        have hm := mgk (wc := (wd_X1_countRows cI cC cZ cB cJ wJ tX jE mX pD oO oQ eG xJ xL wX bZ bD bI aI nJ aCF mk_at_7 vR)) hP mk_190 10 rfl rfl rfl
        refine g_calli hP hD hS hA (mixT mk_190) (mixF mk_190) hm.1 hm.2 (nd_F _) (dis_g _) (g_runV (As := [.ref wJ, .int p0]) (rest := []) C0 hP hD hS (mixT mk_190) hm.1 (nd_T _) 7 1 rfl rfl (c_X1_countRows l dC dI cI cC cZ cB cJ wJ tX jE mX pD oO oQ eG xJ xL wX H.size p0 bZ bD bI aI nJ aCF mk_at_7 vR _ hp) q_610 q_613 q_611 q_612 q_602 h_X1_countRows rfl rfl ⟨Nat.le_of_ble_eq_true rfl, Nat.le_of_ble_eq_true rfl⟩ rfl rfl hl.1 rfl (lv_room (Nat.le_of_ble_eq_true rfl)) eX9_grass_33.2.2.2.2.2.2.1 ⟨Nat.zero_le _, Nat.zero_le _⟩) (fun r_9 u H locs hp hP hD hS => ?_)
        obtain ⟨aJU, rfl⟩ : ∃ z, z = u := ⟨_, rfl⟩
        have hPD := PDm (ws' := (wd_X9_grass cI cC cZ cB cJ a_x xG xD wY wJ wQ xI xK xJ tW uT tX jE mX pD oO oQ eG qT xL wX qI aAF aCE qM bZ bD bI aI nJ qF jJ aCF mk_at_7 aJU)) hP hD 10 rfl rfl rfl
        have hP := hPD.1
        have hD := hPD.2
        refine lv_istore_n (lv' := [(2, .int r_9), (0, .ref a_x), (1, .int p0)]) hx hb eX9_grass_33.2.2.2.2.2.2.2.1 rfl hl (by decide) rfl (fun ls hl => ?_)
        refine lv_aload_n hx hb eX9_grass_33.2.2.2.2.2.2.2.2.1 rfl (lv_at hl 1 rfl) ?_
        refine lv_iload_n hx hb eX9_grass_33.2.2.2.2.2.2.2.2.2.1 rfl (lv_at hl 0 rfl) ?_
        have hm := mgk (wc := (wd_X9_tellLeastMarks cI cC cZ cB cJ a_x xG xD wY wJ wQ xI xK xJ tW qT xL wX qF jJ aCF aJU)) hP mk_191 10 rfl rfl rfl
        refine g_callv hP hD hS hA (mixT mk_191) (mixF mk_191) hm.1 hm.2 (nd_F _) (dis_g _) (g_runV (As := [.int r_9]) (rest := []) C0 hP hD hS (mixT mk_191) hm.1 (nd_T _) 0 9 rfl rfl (c_X9_tellLeastMarks l dC dI cI cC cZ cB cJ a_x xG xD wY wJ wQ xI xK xJ tW qT xL wX H.size r_9 qF jJ aCF aJU _ hp) q_614 q_617 q_615 q_616 q_256 h_X9_tellLeastMarks rfl rfl ⟨Nat.le_of_ble_eq_true rfl, Nat.le_of_ble_eq_true rfl⟩ rfl rfl hl.1 rfl (lv_room (Nat.le_of_ble_eq_true rfl)) eX9_grass_33.2.2.2.2.2.2.2.2.2.2.1 ⟨Nat.zero_le _, Nat.zero_le _⟩) (fun u H locs hp hP hD hS => ?_)
        obtain ⟨aEy, aBy⟩ := u
        have hPD := PDm (ws' := (wd_X9_grass cI cC cZ cB cJ a_x xG xD wY wJ wQ xI xK xJ tW uT tX jE mX pD oO oQ eG qT xL wX qI aAF aCE qM bZ bD bI aI nJ aEy aBy aCF mk_at_7 aJU)) hP hD 10 rfl rfl rfl
        have hP := hPD.1
        have hD := hPD.2
        refine lv_goto (tgt := 65) hx hb eX9_grass_33.2.2.2.2.2.2.2.2.2.2.2.1 (by decide) ?_
        exact ks_X9_grass_65 C0 r_9 qI aAF aCE aEy aBy aCF mk_at_7 aJU H locs ls hp hP hD hS (lv_sub hl [1, 0] rfl)
noncomputable abbrev wd_X5_isFitting (cI cC cZ cB cJ : ClassId) (xD wY wJ uE qU uJ uL uI tX jE mX pD oO oQ eG : Nat) (oX rJ pN rP : Int32) (rX : Nat → Int32) (bZ bD bI aI : Int32) : va_W := [(xD, .inr (5, [.ref wY, .ref wJ, .ref uE, .ref qU, .ref uJ, .ref uL, .ref uI, .int oX, .int rJ, .int pN, .int rP])), (uE, .inl (cI, 8, .inl rX)), (wJ, .inr (3, [.ref tX, .ref jE, .ref mX, .ref pD, .ref oO, .ref oQ, .ref eG, .int bZ, .int bD, .int bI, .int aI]))]
noncomputable abbrev q_X5_isFitting (dC : Nat → ClassId) (dI : Nat → Nat → Nat) (cI cC cZ cB cJ : ClassId) (A : Nat → Prop) (xD wY wJ uE qU uJ uL uI tX jE mX pD oO oQ eG : Nat) (oX rJ pN rP : Int32) (rX : Nat → Int32) (bZ bD bI aI : Int32) (post : Int32 → Prop) : Array Value → State → Outcome → State → Prop := va_Qi (fun (r : Int32) (u : Unit) => post r) (fun u t => gB (dC, dI) (tyl cI cC cZ cB cJ) A (wd_X5_isFitting cI cC cZ cB cJ xD wY wJ uE qU uJ uL uI tX jE mX pD oO oQ eG oX rJ pN rP rX bZ bD bI aI) t) A
noncomputable abbrev rm_X5_isFitting : Room := { frames := 1, cells := 0, slots := 0, locals := 23 }
section S_X5_isFitting
variable {p : Program} {l : Launch} {e : Env} {s : State} {m : MethodId} {args : Array Value} {below : List Frame} {meth : Method} {c : Code} {dC : Nat → ClassId} {dI : Nat → Nat → Nat} {cI cC cZ cB cJ : ClassId} {A : Nat → Prop} {xD wY wJ uE qU uJ uL uI tX jE mX pD oO oQ eG : Nat} {oX rJ pN rP : Int32} {rX : Nat → Int32} {bZ bD bI aI : Int32} {post : Int32 → Prop}
noncomputable def ws_X5_isFitting_34 (post : Int32 → Prop) (K2 : Int32 → Int32 → Int32 → Prop) (rX : Nat → Int32) (bD x1 x2 x3 : Int32) : Prop := ∀ v_3 : Int32, v_3 = x3 + 1 → K2 x1 x2 v_3
set_option maxHeartbeats 4000000 in
set_option maxRecDepth 100000 in
theorem ks_X5_isFitting_34 (C0 : gc cX5_isFitting (some .boolean) 4 RX5 (dC, dI) (tyl cI cC cZ cB cJ) A p s m args meth c) {K2 : Int32 → Int32 → Int32 → Prop} (hK2 : ∀ (x1 : Int32) (x2 : Int32) (x3 : Int32) (H : Heap) (locs : List Loc) (ls : Array Slot), K2 x1 x2 x3 → va_P (dC, dI) classes (wd_X5_isFitting cI cC cZ cB cJ xD wY wJ uE qU uJ uL uI tX jE mX pD oO oQ eG oX rJ pN rP rX bZ bD bI aI) H → va_D A (wd_X5_isFitting cI cC cZ cB cJ xD wY wJ uE qU uJ uL uI tX jE mX pD oO oQ eG oX rJ pN rP rX bZ bD bI aI) → va_S A s.heap H locs → lv_has ls 4 [(0, .ref xD), (1, .int x1), (2, .int x2), (3, .int x3)] → W p l e rm_X5_isFitting s m args below meth c H locs 0 0 (MQ below (q_X5_isFitting dC dI cI cC cZ cB cJ A xD wY wJ uE qU uJ uL uI tX jE mX pD oO oQ eG oX rJ pN rP rX bZ bD bI aI post) args s 0 0 A) (F0 m 2 ls [])) : ∀ (x1 x2 x3 : Int32) (H : Heap) (locs : List Loc) (ls : Array Slot), (ws_X5_isFitting_34 post K2 rX bD) x1 x2 x3 → va_P (dC, dI) classes (wd_X5_isFitting cI cC cZ cB cJ xD wY wJ uE qU uJ uL uI tX jE mX pD oO oQ eG oX rJ pN rP rX bZ bD bI aI) H → va_D A (wd_X5_isFitting cI cC cZ cB cJ xD wY wJ uE qU uJ uL uI tX jE mX pD oO oQ eG oX rJ pN rP rX bZ bD bI aI) → va_S A s.heap H locs → lv_has ls 4 [(0, .ref xD), (1, .int x1), (2, .int x2), (3, .int x3)] → W p l e rm_X5_isFitting s m args below meth c H locs 0 0 (MQ below (q_X5_isFitting dC dI cI cC cZ cB cJ A xD wY wJ uE qU uJ uL uI tX jE mX pD oO oQ eG oX rJ pN rP rX bZ bD bI aI post) args s 0 0 A) (F0 m 34 ls []) := by
  obtain ⟨hx, hb, hr, hml, hown, hts, hlocks, hA, hK, hN, tL, tM, hZL, hTL, hZM, hTM, hZX⟩ := id C0
  intro x1 x2 x3 H locs ls hp hP hD hS hl
  unfold ws_X5_isFitting_34 at hp
  obtain ⟨v_3, ev_3⟩ : ∃ y : Int32, y = x3 + 1 := ⟨_, rfl⟩
  refine lv_iinc (v := v_3) (lv' := [(3, .int v_3), (0, .ref xD), (1, .int x1), (2, .int x2)]) hx hb eX5_isFitting_26.2.2.2.2.2.2.1 hl (k := 3) rfl (by rw [ev_3]; rfl) (by decide) rfl (fun ls hl => ?_)
  have hp := hp v_3 ev_3
  refine lv_goto (tgt := 2) hx hb eX5_isFitting_26.2.2.2.2.2.2.2.1 (by decide) ?_
  exact hK2 x1 x2 v_3 H locs ls hp hP hD hS (lv_sub hl [1, 2, 3, 0] rfl)
noncomputable def ws_X5_isFitting_2 (post : Int32 → Prop) (next : Int32 → Int32 → Int32 → Prop) (rX : Nat → Int32) (bD x1 x2 x3 : Int32) : Prop := (bD ≤ x3 → wp_X5_reachedBy (fun r_1 => (¬ (x2 &&& (r_1 ^^^ (-1))) = 0 → post 0) ∧ ((x2 &&& (r_1 ^^^ (-1))) = 0 → post 1)) x1 rX bD) ∧ (¬ bD ≤ x3 → ∀ v_2 : Int32, v_2 = x1 >>> (x3 &&& 31) → ((v_2 &&& 1) = 0 → ws_X5_isFitting_34 post next rX bD x1 x2 x3) ∧ (¬ (v_2 &&& 1) = 0 → vp_in x3 8 ∧ (∀ v_4 : Int32, v_4 = rX x3.toNatClampNeg → (¬ (v_4 &&& x2) = 0 → ws_X5_isFitting_34 post next rX bD x1 x2 x3) ∧ ((v_4 &&& x2) = 0 → post 0))))
noncomputable def wb_X5_isFitting_2 (post : Int32 → Prop) (rX : Nat → Int32) (bD : Int32) : Nat → Int32 → Int32 → Int32 → Prop := fun n => Nat.rec (motive := fun _ => Int32 → Int32 → Int32 → Prop) (fun _ _ _ => False) (fun _ ih => ws_X5_isFitting_2 post ih rX bD) n
set_option maxHeartbeats 4000000 in
set_option maxRecDepth 100000 in
theorem ks_X5_isFitting_2 (C0 : gc cX5_isFitting (some .boolean) 4 RX5 (dC, dI) (tyl cI cC cZ cB cJ) A p s m args meth c) {next : Int32 → Int32 → Int32 → Prop} (hKn : ∀ (x1 : Int32) (x2 : Int32) (x3 : Int32) (H : Heap) (locs : List Loc) (ls : Array Slot), next x1 x2 x3 → va_P (dC, dI) classes (wd_X5_isFitting cI cC cZ cB cJ xD wY wJ uE qU uJ uL uI tX jE mX pD oO oQ eG oX rJ pN rP rX bZ bD bI aI) H → va_D A (wd_X5_isFitting cI cC cZ cB cJ xD wY wJ uE qU uJ uL uI tX jE mX pD oO oQ eG oX rJ pN rP rX bZ bD bI aI) → va_S A s.heap H locs → lv_has ls 4 [(0, .ref xD), (1, .int x1), (2, .int x2), (3, .int x3)] → W p l e rm_X5_isFitting s m args below meth c H locs 0 0 (MQ below (q_X5_isFitting dC dI cI cC cZ cB cJ A xD wY wJ uE qU uJ uL uI tX jE mX pD oO oQ eG oX rJ pN rP rX bZ bD bI aI post) args s 0 0 A) (F0 m 2 ls [])) : ∀ (x1 x2 x3 : Int32) (H : Heap) (locs : List Loc) (ls : Array Slot), (ws_X5_isFitting_2 post next rX bD) x1 x2 x3 → va_P (dC, dI) classes (wd_X5_isFitting cI cC cZ cB cJ xD wY wJ uE qU uJ uL uI tX jE mX pD oO oQ eG oX rJ pN rP rX bZ bD bI aI) H → va_D A (wd_X5_isFitting cI cC cZ cB cJ xD wY wJ uE qU uJ uL uI tX jE mX pD oO oQ eG oX rJ pN rP rX bZ bD bI aI) → va_S A s.heap H locs → lv_has ls 4 [(0, .ref xD), (1, .int x1), (2, .int x2), (3, .int x3)] → W p l e rm_X5_isFitting s m args below meth c H locs 0 0 (MQ below (q_X5_isFitting dC dI cI cC cZ cB cJ A xD wY wJ uE qU uJ uL uI tX jE mX pD oO oQ eG oX rJ pN rP rX bZ bD bI aI post) args s 0 0 A) (F0 m 2 ls []) := by
  obtain ⟨hx, hb, hr, hml, hown, hts, hlocks, hA, hK, hN, tL, tM, hZL, hTL, hZM, hTM, hZX⟩ := id C0
  intro x1 x2 x3 H locs ls hp hP hD hS hl
  unfold ws_X5_isFitting_2 at hp
  refine lv_iload_n hx hb eX5_isFitting_0.2.2.1 rfl (lv_at hl 3 rfl) ?_
  refine lv_aload_n hx hb eX5_isFitting_0.2.2.2.1 rfl (lv_at hl 0 rfl) ?_
  refine va_get (D := (dC, dI)) (ci := 5) (v := .ref wJ) (C := RX5) (T := TX5) (N := 11) hx hb hts i_X5 hown hK hP 0 rfl rfl 1 (Nat.le_of_ble_eq_true rfl) (hts _ q_419) (fun _ h9 => h9) rfl eX5_isFitting_0.2.2.2.2.1 ?_
  refine va_get (D := (dC, dI)) (ci := 3) (v := .int bD) (C := RX3) (T := TX3) (N := 11) hx hb hts i_X3 hown hK hP 2 rfl rfl 8 (Nat.le_of_ble_eq_true rfl) (hts _ q_420) (fun _ h9 => h9) rfl eX5_isFitting_0.2.2.2.2.2.1 ?_
  refine lv_icmp_ge (tgt := 40) hx hb eX5_isFitting_0.2.2.2.2.2.2.1 (by decide) (fun hc => ?_) (fun hc => ?_)
  · have hp := hp.1 hc
    refine lv_iload_n hx hb eX5_isFitting_26.2.2.2.2.2.2.2.2.1 rfl (lv_at hl 2 rfl) ?_
    refine lv_aload_n hx hb eX5_isFitting_26.2.2.2.2.2.2.2.2.2.1 rfl (lv_at hl 0 rfl) ?_
    refine lv_iload_n hx hb eX5_isFitting_26.2.2.2.2.2.2.2.2.2.2.1 rfl (lv_at hl 1 rfl) ?_
    have hm := mgk (wc := (wd_X5_reachedBy cI cC cZ cB cJ xD wY wJ uE qU uJ uL uI tX jE mX pD oO oQ eG oX rJ pN rP rX bZ bD bI aI)) hP aBD 3 rfl rfl rfl
    refine g_calli hP hD hS hA (mixT aBD) (mixF aBD) hm.1 hm.2 (nd_F _) (dis_g _) (g_runV (As := [.int x1]) (rest := [.int x2]) C0 hP hD hS (mixT aBD) hm.1 (nd_T _) 0 5 rfl rfl (c_X5_reachedBy l dC dI cI cC cZ cB cJ xD wY wJ uE qU uJ uL uI tX jE mX pD oO oQ eG H.size x1 oX rJ pN rP rX bZ bD bI aI _ hp) q_430 q_434 q_432 q_433 q_431 h_X5_reachedBy rfl rfl ⟨Nat.le_of_ble_eq_true rfl, Nat.le_of_ble_eq_true rfl⟩ rfl rfl hl.1 rfl (lv_room (Nat.le_of_ble_eq_true rfl)) eX5_isFitting_26.2.2.2.2.2.2.2.2.2.2.2.1 ⟨Nat.zero_le _, Nat.zero_le _⟩) (fun r_1 u H locs hp hP hD hS => ?_)
    have hPD := PDm (ws' := (wd_X5_isFitting cI cC cZ cB cJ xD wY wJ uE qU uJ uL uI tX jE mX pD oO oQ eG oX rJ pN rP rX bZ bD bI aI)) hP hD 3 rfl rfl rfl
    have hP := hPD.1
    have hD := hPD.2
    refine lv_iconst (v := (-1)) hx hb eX5_isFitting_26.2.2.2.2.2.2.2.2.2.2.2.2.1 ic_m1 ?_
    refine lv_ixor hx hb eX5_isFitting_26.2.2.2.2.2.2.2.2.2.2.2.2.2.1 ?_
    refine lv_iand hx hb eX5_isFitting_26.2.2.2.2.2.2.2.2.2.2.2.2.2.2.1 ?_
    refine lv_if_ne (tgt := 56) hx hb eX5_isFitting_26.2.2.2.2.2.2.2.2.2.2.2.2.2.2.2 (by decide) (fun hc => ?_) (fun hc => ?_)
    · have hp := hp.1 hc
      refine lv_iconst (v := 0) hx hb eX5_isFitting_52.2.2.1 ic_0 ?_
      exact W.zret (v := 0) hx hb hr rfl (fun t ht hW => ⟨⟨0, (), rfl, hp, by rw [ht]; exact hP, va_K.moved hW.alike hK, hD⟩, hS.F ht⟩) hS.2.2 eX5_isFitting_52.2.2.2
    · have hp := hp.2 hc
      refine lv_iconst (v := 1) hx hb eX5_isFitting_52.1 ic_1 ?_
      refine lv_goto (tgt := 57) hx hb eX5_isFitting_52.2.1 (by decide) ?_
      exact W.zret (v := 1) hx hb hr rfl (fun t ht hW => ⟨⟨1, (), rfl, hp, by rw [ht]; exact hP, va_K.moved hW.alike hK, hD⟩, hS.F ht⟩) hS.2.2 eX5_isFitting_52.2.2.2
  · have hp := hp.2 hc
    refine lv_iload_n hx hb eX5_isFitting_0.2.2.2.2.2.2.2.1 rfl (lv_at hl 1 rfl) ?_
    refine lv_iload_n hx hb eX5_isFitting_0.2.2.2.2.2.2.2.2.1 rfl (lv_at hl 3 rfl) ?_
    refine lv_ishr hx hb eX5_isFitting_0.2.2.2.2.2.2.2.2.2.1 ?_
    refine lv_topi (fun v_2 ev_2 => ?_)
    have hp := hp v_2 ev_2
    refine lv_iconst (v := 1) hx hb eX5_isFitting_0.2.2.2.2.2.2.2.2.2.2.1 ic_1 ?_
    refine lv_iand hx hb eX5_isFitting_0.2.2.2.2.2.2.2.2.2.2.2.1 ?_
    refine lv_if_eq (tgt := 34) hx hb eX5_isFitting_0.2.2.2.2.2.2.2.2.2.2.2.2.1 (by decide) (fun hc => ?_) (fun hc => ?_)
    · have hp := hp.1 hc
      exact ks_X5_isFitting_34 C0 hKn x1 x2 x3 H locs ls hp hP hD hS (lv_sub hl [0, 1, 2, 3] rfl)
    · have hp := hp.2 hc
      refine lv_aload_n hx hb eX5_isFitting_0.2.2.2.2.2.2.2.2.2.2.2.2.2.1 rfl (lv_at hl 0 rfl) ?_
      refine va_get (D := (dC, dI)) (ci := 5) (v := .ref uE) (C := RX5) (T := TX5) (N := 11) hx hb hts i_X5 hown hK hP 0 rfl rfl 2 (Nat.le_of_ble_eq_true rfl) (hts _ q_421) (fun _ h9 => h9) rfl eX5_isFitting_0.2.2.2.2.2.2.2.2.2.2.2.2.2.2.1 ?_
      refine lv_iload_n hx hb eX5_isFitting_0.2.2.2.2.2.2.2.2.2.2.2.2.2.2.2 rfl (lv_at hl 3 rfl) ?_
      have hin := hp.1
      have hp := hp.2
      refine va_iald hx hb hK hP 1 0 rfl rfl hin eX5_isFitting_26.1 ?_
      refine lv_topi (fun v_4 ev_4 => ?_)
      have hp := hp v_4 ev_4
      refine lv_iload_n hx hb eX5_isFitting_26.2.1 rfl (lv_at hl 2 rfl) ?_
      refine lv_iand hx hb eX5_isFitting_26.2.2.1 ?_
      refine lv_if_ne (tgt := 34) hx hb eX5_isFitting_26.2.2.2.1 (by decide) (fun hc => ?_) (fun hc => ?_)
      · have hp := hp.1 hc
        exact ks_X5_isFitting_34 C0 hKn x1 x2 x3 H locs ls hp hP hD hS (lv_sub hl [0, 1, 2, 3] rfl)
      · have hp := hp.2 hc
        refine lv_iconst (v := 0) hx hb eX5_isFitting_26.2.2.2.2.1 ic_0 ?_
        exact W.zret (v := 0) hx hb hr rfl (fun t ht hW => ⟨⟨0, (), rfl, hp, by rw [ht]; exact hP, va_K.moved hW.alike hK, hD⟩, hS.F ht⟩) hS.2.2 eX5_isFitting_26.2.2.2.2.2.1
set_option maxHeartbeats 4000000 in
set_option maxRecDepth 100000 in
theorem kb_X5_isFitting_2 (C0 : gc cX5_isFitting (some .boolean) 4 RX5 (dC, dI) (tyl cI cC cZ cB cJ) A p s m args meth c) : ∀ (n : Nat), ∀ (x1 x2 x3 : Int32) (H : Heap) (locs : List Loc) (ls : Array Slot), (wb_X5_isFitting_2 post rX bD n) x1 x2 x3 → va_P (dC, dI) classes (wd_X5_isFitting cI cC cZ cB cJ xD wY wJ uE qU uJ uL uI tX jE mX pD oO oQ eG oX rJ pN rP rX bZ bD bI aI) H → va_D A (wd_X5_isFitting cI cC cZ cB cJ xD wY wJ uE qU uJ uL uI tX jE mX pD oO oQ eG oX rJ pN rP rX bZ bD bI aI) → va_S A s.heap H locs → lv_has ls 4 [(0, .ref xD), (1, .int x1), (2, .int x2), (3, .int x3)] → W p l e rm_X5_isFitting s m args below meth c H locs 0 0 (MQ below (q_X5_isFitting dC dI cI cC cZ cB cJ A xD wY wJ uE qU uJ uL uI tX jE mX pD oO oQ eG oX rJ pN rP rX bZ bD bI aI post) args s 0 0 A) (F0 m 2 ls []) := by
  intro n
  induction n with
  | zero =>
    intro x1 x2 x3 H locs ls hp
    exact False.elim hp
  | succ n ih =>
    intro x1 x2 x3 H locs ls hp
    exact ks_X5_isFitting_2 C0 ih x1 x2 x3 H locs ls hp
end S_X5_isFitting
noncomputable def wp_X5_isFitting (post : Int32 → Prop) (p0 p1 : Int32) (rX : Nat → Int32) (bD : Int32) : Prop := ∃ n : Nat, wb_X5_isFitting_2 post rX bD n p0 p1 0
set_option maxHeartbeats 4000000 in
set_option maxRecDepth 100000 in
theorem c_X5_isFitting (l : Launch) (dC : Nat → ClassId) (dI : Nat → Nat → Nat) (cI cC cZ cB cJ : ClassId) (xD wY wJ uE qU uJ uL uI tX jE mX pD oO oQ eG sz : Nat) (p0 p1 oX rJ pN rP : Int32) (rX : Nat → Int32) (bZ bD bI aI : Int32) (post : Int32 → Prop) (hw : wp_X5_isFitting post p0 p1 rX bD) : Met l yX5_isFitting (gw yX5_isFitting cX5_isFitting 4 (some .boolean)) rm_X5_isFitting (va_Pc [.ref xD, .int p0, .int p1] (gPre (dC, dI) (tyl cI cC cZ cB cJ) (wd_X5_isFitting cI cC cZ cB cJ xD wY wJ uE qU uJ uL uI tX jE mX pD oO oQ eG oX rJ pN rP rX bZ bD bI aI) sz)) (q_X5_isFitting dC dI cI cC cZ cB cJ (va_A (wd_X5_isFitting cI cC cZ cB cJ xD wY wJ uE qU uJ uL uI tX jE mX pD oO oQ eG oX rJ pN rP rX bZ bD bI aI) sz) xD wY wJ uE qU uJ uL uI tX jE mX pD oO oQ eG oX rJ pN rP rX bZ bD bI aI post) 0 0 (va_A (wd_X5_isFitting cI cC cZ cB cJ xD wY wJ uE qU uJ uL uI tX jE mX pD oO oQ eG oX rJ pN rP rX bZ bD bI aI) sz) := by
  refine g_enter (own := RX5) (dC, dI) (tyl cI cC cZ cB cJ) (wd_X5_isFitting cI cC cZ cB cJ xD wY wJ uE qU uJ uL uI tX jE mX pD oO oQ eG oX rJ pN rP rX bZ bD bI aI) sz [.ref xD, .int p0, .int p1] (fun A => q_X5_isFitting dC dI cI cC cZ cB cJ A xD wY wJ uE qU uJ uL uI tX jE mX pD oO oQ eG oX rJ pN rP rX bZ bD bI aI post) pn_RX5 rfl (Nat.le_of_ble_eq_true rfl) ?_
  intro p e s m args below meth c A H locs ls C0 hP hD hS hl
  have hl : lv_has ls 4 [(0, .ref xD), (1, .int p0), (2, .int p1)] := hl
  obtain ⟨hx, hb, hr, hml, hown, hts, hlocks, hA, hK, hN, tL, tM, hZL, hTL, hZM, hTM, hZX⟩ := id C0
  have hp := hw
  unfold wp_X5_isFitting at hp
  refine lv_iconst (v := 0) hx hb eX5_isFitting_0.1 ic_0 ?_
  refine lv_istore_n (lv' := [(3, .int 0), (0, .ref xD), (1, .int p0), (2, .int p1)]) hx hb eX5_isFitting_0.2.1 rfl hl (by decide) rfl (fun ls hl => ?_)
  obtain ⟨n9, hp⟩ := hp
  exact kb_X5_isFitting_2 C0 n9 p0 p1 0 H locs ls hp hP hD hS (lv_sub hl [1, 2, 3, 0] rfl)
