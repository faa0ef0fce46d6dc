noncomputable abbrev wd_X9_sleep (cI cC cZ cB cJ : ClassId) (a_x xG xD wY wJ wQ xI xK xJ tW xH vX uO vQ : Nat) (jC eO eW dO fJ fY jD nG oE uF : Int32) (sG : Nat → Int32) : va_W := [(a_x, .inr (9, [.ref xG, .ref xD, .ref wY, .ref wJ, .ref wQ, .ref xI, .ref xK, .ref xJ, .ref tW])), (wY, .inr (0, [.ref wJ, .ref wQ, .ref xH])), (wQ, .inr (2, [.int jC, .int eO, .int eW, .int dO, .int fJ, .int fY, .int jD, .int nG])), (xI, .inr (4, [.ref vX, .ref uO, .ref vQ, .int oE, .int uF])), (vX, .inl (cI, 104, .inl sG))]
noncomputable abbrev q_X9_sleep (dC : Nat → ClassId) (dI : Nat → Nat → Nat) (cI cC cZ cB cJ : ClassId) (A : Nat → Prop) (a_x xG xD wY wJ wQ xI xK xJ tW xH vX uO vQ : Nat) (eW dO fY : Int32) (post : Int32 → Int32 → Int32 → Int32 → Int32 → Int32 → Int32 → Int32 → (Nat → Int32) → Prop) : Array Value → State → Outcome → State → Prop := va_Qi (fun (r : Int32) (u : Int32 × Int32 × Int32 × Int32 × Int32 × Int32 × Int32 × (Nat → Int32)) => post r u.1 u.2.1 u.2.2.1 u.2.2.2.1 u.2.2.2.2.1 u.2.2.2.2.2.1 u.2.2.2.2.2.2.1 u.2.2.2.2.2.2.2) (fun u t => gB (dC, dI) (tyl cI cC cZ cB cJ) A (wd_X9_sleep cI cC cZ cB cJ a_x xG xD wY wJ wQ xI xK xJ tW xH vX uO vQ u.1 u.2.1 eW dO u.2.2.1 fY u.2.2.2.1 u.2.2.2.2.1 u.2.2.2.2.2.1 u.2.2.2.2.2.2.1 u.2.2.2.2.2.2.2) t) A
noncomputable abbrev rm_X9_sleep : Room := { frames := 3, cells := 0, slots := 0, locals := 62 }
noncomputable def wp_X9_sleep (post : Int32 → Int32 → Int32 → Int32 → Int32 → Int32 → Int32 → Int32 → (Nat → Int32) → Prop) (jC eO eW dO fJ fY jD nG oE uF : Int32) (sG : Nat → Int32) : Prop := wp_X4_note (fun yP => wp_X0_sleepOver (fun r_2 zS zX aA7 no_today_6 no_clock_7 => wp_X9_holdIfDone (fun r_8 aAo aB4 => post r_8 zS zX aA7 no_today_6 no_clock_7 aAo aB4 yP) r_2 oE uF) jC eO fJ jD nG) jC eO eW dO fJ fY jD nG uF sG
set_option maxHeartbeats 4000000 in
set_option maxRecDepth 100000 in
theorem c_X9_sleep (l : Launch) (dC : Nat → ClassId) (dI : Nat → Nat → Nat) (cI cC cZ cB cJ : ClassId) (a_x xG xD wY wJ wQ xI xK xJ tW xH vX uO vQ sz : Nat) (jC eO eW dO fJ fY jD nG oE uF : Int32) (sG : Nat → Int32) (post : Int32 → Int32 → Int32 → Int32 → Int32 → Int32 → Int32 → Int32 → (Nat → Int32) → Prop) (hw : wp_X9_sleep post jC eO eW dO fJ fY jD nG oE uF sG) : Met l yX9_sleep (gw yX9_sleep cX9_sleep 1 (some .int)) rm_X9_sleep (va_Pc [.ref a_x] (gPre (dC, dI) (tyl cI cC cZ cB cJ) (wd_X9_sleep cI cC cZ cB cJ a_x xG xD wY wJ wQ xI xK xJ tW xH vX uO vQ jC eO eW dO fJ fY jD nG oE uF sG) sz)) (q_X9_sleep dC dI cI cC cZ cB cJ (va_A (wd_X9_sleep cI cC cZ cB cJ a_x xG xD wY wJ wQ xI xK xJ tW xH vX uO vQ jC eO eW dO fJ fY jD nG oE uF sG) sz) a_x xG xD wY wJ wQ xI xK xJ tW xH vX uO vQ eW dO fY post) 0 0 (va_A (wd_X9_sleep cI cC cZ cB cJ a_x xG xD wY wJ wQ xI xK xJ tW xH vX uO vQ jC eO eW dO fJ fY jD nG oE uF sG) sz) := by
  refine g_enter (own := RX9) (dC, dI) (tyl cI cC cZ cB cJ) (wd_X9_sleep cI cC cZ cB cJ a_x xG xD wY wJ wQ xI xK xJ tW xH vX uO vQ jC eO eW dO fJ fY jD nG oE uF sG) sz [.ref a_x] (fun A => q_X9_sleep dC dI cI cC cZ cB cJ A a_x xG xD wY wJ wQ xI xK xJ tW xH vX uO vQ eW dO fY post) pn_RX9 rfl (Nat.le_of_ble_eq_true rfl) ?_
  intro p e s m args below meth c A H locs ls C0 hP hD hS hl
  have hl : lv_has ls 1 [(0, .ref a_x)] := hl
  obtain ⟨hx, hb, hr, hml, hown, hts, hlocks, hA, hK, hN, tL, tM, hZL, hTL, hZM, hTM, hZX⟩ := id C0
  have hp := hw
  unfold wp_X9_sleep at hp
  refine lv_aload_n hx hb eX9_sleep_0.1 rfl (lv_at hl 0 rfl) ?_
  refine va_get (D := (dC, dI)) (ci := 9) (v := .ref xI) (C := RX9) (T := TX9) (N := 9) hx hb hts i_X9 hown hK hP 0 rfl rfl 5 (Nat.le_of_ble_eq_true rfl) (hts _ q_91) (fun _ h9 => h9) rfl eX9_sleep_0.2.1 ?_
  refine lv_aload_n hx hb eX9_sleep_0.2.2.1 rfl (lv_at hl 0 rfl) ?_
  refine va_get (D := (dC, dI)) (ci := 9) (v := .ref wQ) (C := RX9) (T := TX9) (N := 9) hx hb hts i_X9 hown hK hP 0 rfl rfl 4 (Nat.le_of_ble_eq_true rfl) (hts _ q_179) (fun _ h9 => h9) rfl eX9_sleep_0.2.2.2.1 ?_
  have hm := mgk (wc := (wd_X4_note cI cC cZ cB cJ wQ xI vX uO vQ jC eO eW dO fJ fY jD nG oE uF sG)) hP mk_22 5 rfl rfl rfl
  refine g_callv hP hD hS hA (mixT mk_22) (mixF mk_22) hm.1 hm.2 (nd_F _) (dis_g _) (g_runV (As := [.ref wQ]) (rest := []) C0 hP hD hS (mixT mk_22) hm.1 (nd_T _) 3 4 rfl rfl (c_X4_note l dC dI cI cC cZ cB cJ wQ xI vX uO vQ H.size jC eO eW dO fJ fY jD nG oE uF sG _ hp) q_247 q_250 q_248 q_249 q_93 h_X4_note rfl rfl ⟨Nat.le_of_ble_eq_true rfl, Nat.le_of_ble_eq_true rfl⟩ rfl rfl hl.1 rfl (lv_room (Nat.le_of_ble_eq_true rfl)) eX9_sleep_0.2.2.2.2.1 ⟨Nat.zero_le _, Nat.zero_le _⟩) (fun u H locs hp hP hD hS => ?_)
  obtain ⟨yP, rfl⟩ : ∃ z, z = u := ⟨_, rfl⟩
  have hPD := PDm (ws' := (wd_X9_sleep cI cC cZ cB cJ a_x xG xD wY wJ wQ xI xK xJ tW xH vX uO vQ jC eO eW dO fJ fY jD nG oE uF yP)) hP hD 5 rfl rfl rfl
  have hP := hPD.1
  have hD := hPD.2
  refine lv_aload_n hx hb eX9_sleep_0.2.2.2.2.2.1 rfl (lv_at hl 0 rfl) ?_
  refine lv_aload_n hx hb eX9_sleep_0.2.2.2.2.2.2.1 rfl (lv_at hl 0 rfl) ?_
  refine va_get (D := (dC, dI)) (ci := 9) (v := .ref wY) (C := RX9) (T := TX9) (N := 9) hx hb hts i_X9 hown hK hP 0 rfl rfl 2 (Nat.le_of_ble_eq_true rfl) (hts _ q_146) (fun _ h9 => h9) rfl eX9_sleep_0.2.2.2.2.2.2.2.1 ?_
  have hm := mgk (wc := (wd_X0_sleepOver cI cC cZ cB cJ wY wJ wQ xH jC eO eW dO fJ fY jD nG)) hP mk_45 5 rfl rfl rfl
  refine g_calli hP hD hS hA (mixT mk_45) (mixF mk_45) hm.1 hm.2 (nd_F _) (dis_g _) (g_runV (As := []) (rest := [.ref a_x]) C0 hP hD hS (mixT mk_45) hm.1 (nd_T _) 1 0 rfl rfl (c_X0_sleepOver l dC dI cI cC cZ cB cJ wY wJ wQ xH H.size jC eO eW dO fJ fY jD nG _ hp) q_357 q_360 q_358 q_359 q_187 h_X0_sleepOver rfl rfl ⟨Nat.le_of_ble_eq_true rfl, Nat.le_of_ble_eq_true rfl⟩ rfl rfl hl.1 rfl (lv_room (Nat.le_of_ble_eq_true rfl)) eX9_sleep_0.2.2.2.2.2.2.2.2.1 ⟨Nat.zero_le _, Nat.zero_le _⟩) (fun r_2 u H locs hp hP hD hS => ?_)
  obtain ⟨zS, zX, aA7, no_today_6, no_clock_7⟩ := u
  have hPD := PDm (ws' := (wd_X9_sleep cI cC cZ cB cJ a_x xG xD wY wJ wQ xI xK xJ tW xH vX uO vQ zS zX eW dO aA7 fY no_today_6 no_clock_7 oE uF yP)) hP hD 5 rfl rfl rfl
  have hP := hPD.1
  have hD := hPD.2
  have hm := mgk (wc := (wd_X9_holdIfDone cI cC cZ cB cJ a_x xG xD wY wJ wQ xI xK xJ tW vX uO vQ oE uF)) hP mk_46 5 rfl rfl rfl
  refine g_calli hP hD hS hA (mixT mk_46) (mixF mk_46) hm.1 hm.2 (nd_F _) (dis_g _) (g_runV (As := [.int r_2]) (rest := []) C0 hP hD hS (mixT mk_46) hm.1 (nd_T _) 0 9 rfl rfl (c_X9_holdIfDone l dC dI cI cC cZ cB cJ a_x xG xD wY wJ wQ xI xK xJ tW vX uO vQ H.size r_2 oE uF _ hp) q_255 q_259 q_257 q_258 q_256 h_X9_holdIfDone rfl rfl ⟨Nat.le_of_ble_eq_true rfl, Nat.le_of_ble_eq_true rfl⟩ rfl rfl hl.1 rfl (lv_room (Nat.le_of_ble_eq_true rfl)) eX9_sleep_0.2.2.2.2.2.2.2.2.2.1 ⟨Nat.zero_le _, Nat.zero_le _⟩) (fun r_8 u H locs hp hP hD hS => ?_)
  obtain ⟨aAo, aB4⟩ := u
  have hPD := PDm (ws' := (wd_X9_sleep cI cC cZ cB cJ a_x xG xD wY wJ wQ xI xK xJ tW xH vX uO vQ zS zX eW dO aA7 fY no_today_6 no_clock_7 aAo aB4 yP)) hP hD 5 rfl rfl rfl
  have hP := hPD.1
  have hD := hPD.2
  exact W.iret (v := r_8) hx hb hr (fun t ht hW => ⟨⟨r_8, (zS, zX, aA7, no_today_6, no_clock_7, aAo, aB4, yP), rfl, hp, by rw [ht]; exact hP, va_K.moved hW.alike hK, hD⟩, hS.F ht⟩) hS.2.2 eX9_sleep_0.2.2.2.2.2.2.2.2.2.2
noncomputable abbrev wd_X9_doAct (cI cC cZ cB cJ : ClassId) (a_x xG xD wY wJ wQ xI xK xJ tW xH tX jE mX pD oO oQ eG uS sW uR qY sY : Nat) (bZ bD bI aI : Int32) (wD gF pE qA nJ nY dQ : Nat → Int32) (jC eO eW dO fJ fY jD nG pG qB sH uP pQ mW : Int32) (qO qQ oF : Nat → Int32) : va_W := [(a_x, .inr (9, [.ref xG, .ref xD, .ref wY, .ref wJ, .ref wQ, .ref xI, .ref xK, .ref xJ, .ref tW])), (wY, .inr (0, [.ref wJ, .ref wQ, .ref xH])), (wJ, .inr (3, [.ref tX, .ref jE, .ref mX, .ref pD, .ref oO, .ref oQ, .ref eG, .int bZ, .int bD, .int bI, .int aI])), (tX, .inl (cI, 16, .inl wD)), (jE, .inl (cI, 16, .inl gF)), (mX, .inl (cI, 16, .inl pE)), (pD, .inl (cI, 16, .inl qA)), (oO, .inl (cI, 8, .inl nJ)), (oQ, .inl (cI, 8, .inl nY)), (eG, .inl (cI, 5, .inl dQ)), (wQ, .inr (2, [.int jC, .int eO, .int eW, .int dO, .int fJ, .int fY, .int jD, .int nG])), (xH, .inr (7, [.ref uS, .ref sW, .ref uR, .ref qY, .ref sY, .int pG, .int qB, .int sH, .int uP, .int pQ, .int mW])), (uS, .inl (cI, 7, .inl qO)), (uR, .inl (cI, 40, .inl qQ)), (qY, .inl (cI, 40, .inl oF))]
noncomputable abbrev q_X9_doAct (dC : Nat → ClassId) (dI : Nat → Nat → Nat) (cI cC cZ cB cJ : ClassId) (A : Nat → Prop) (a_x xG xD wY wJ wQ xI xK xJ tW xH tX jE mX pD oO oQ eG uS sW uR qY sY : Nat) (bZ bD bI aI : Int32) (wD gF pE qA nJ nY dQ : Nat → Int32) (pG qB sH uP pQ mW : Int32) (oF : Nat → Int32) (post : Int32 → Int32 → Int32 → Int32 → Int32 → Int32 → Int32 → Int32 → Int32 → (Nat → Int32) → (Nat → Int32) → Prop) : Array Value → State → Outcome → State → Prop := va_Qi (fun (r : Int32) (u : Int32 × Int32 × Int32 × Int32 × Int32 × Int32 × Int32 × Int32 × (Nat → Int32) × (Nat → Int32)) => post r u.1 u.2.1 u.2.2.1 u.2.2.2.1 u.2.2.2.2.1 u.2.2.2.2.2.1 u.2.2.2.2.2.2.1 u.2.2.2.2.2.2.2.1 u.2.2.2.2.2.2.2.2.1 u.2.2.2.2.2.2.2.2.2) (fun u t => gB (dC, dI) (tyl cI cC cZ cB cJ) A (wd_X9_doAct cI cC cZ cB cJ a_x xG xD wY wJ wQ xI xK xJ tW xH tX jE mX pD oO oQ eG uS sW uR qY sY bZ bD bI aI wD gF pE qA nJ nY dQ u.1 u.2.1 u.2.2.1 u.2.2.2.1 u.2.2.2.2.1 u.2.2.2.2.2.1 u.2.2.2.2.2.2.1 u.2.2.2.2.2.2.2.1 pG qB sH uP pQ mW u.2.2.2.2.2.2.2.2.1 u.2.2.2.2.2.2.2.2.2 oF) t) A
noncomputable abbrev rm_X9_doAct : Room := { frames := 5, cells := 0, slots := 0, locals := 116 }
section S_X9_doAct
variable {p : Program} {l : Launch} {e : Env} {s : State} {m : MethodId} {args : Array Value} {below : List Frame} {meth : Method} {c : Code} {dC : Nat → ClassId} {dI : Nat → Nat → Nat} {cI cC cZ cB cJ : ClassId} {A : Nat → Prop} {a_x xG xD wY wJ wQ xI xK xJ tW xH tX jE mX pD oO oQ eG uS sW uR qY sY : Nat} {bZ bD bI aI : Int32} {wD gF pE qA nJ nY dQ : Nat → Int32} {pG qB sH uP pQ mW : Int32} {oF : Nat → Int32} {post : Int32 → Int32 → Int32 → Int32 → Int32 → Int32 → Int32 → Int32 → Int32 → (Nat → Int32) → (Nat → Int32) → Prop}
noncomputable def ws_X9_doAct_143 (post : Int32 → Int32 → Int32 → Int32 → Int32 → Int32 → Int32 → Int32 → Int32 → (Nat → Int32) → (Nat → Int32) → Prop) (bZ bD : Int32) (wD gF pE qA nJ nY dQ : Nat → Int32) (pG : Int32) (oF : Nat → Int32) (jC eO eW dO fJ fY jD nG : Int32) (qO qQ : Nat → Int32) : Prop := wp_X0_sleepOver (fun r_30 no_apron_31 no_basket_32 no_ladder_33 no_today_34 no_clock_35 => post r_30 no_apron_31 no_basket_32 eW dO no_ladder_33 fY no_today_34 no_clock_35 qO qQ) jC eO fJ jD nG
set_option maxHeartbeats 4000000 in
set_option maxRecDepth 100000 in
theorem ks_X9_doAct_143 (C0 : gc cX9_doAct (some .int) 3 RX9 (dC, dI) (tyl cI cC cZ cB cJ) A p s m args meth c) : ∀ (jC eO eW dO fJ fY jD nG : Int32) (qO qQ : Nat → Int32) (H : Heap) (locs : List Loc) (ls : Array Slot), (ws_X9_doAct_143 post bZ bD wD gF pE qA nJ nY dQ pG oF) jC eO eW dO fJ fY jD nG qO qQ → va_P (dC, dI) classes (wd_X9_doAct cI cC cZ cB cJ a_x xG xD wY wJ wQ xI xK xJ tW xH tX jE mX pD oO oQ eG uS sW uR qY sY bZ bD bI aI wD gF pE qA nJ nY dQ jC eO eW dO fJ fY jD nG pG qB sH uP pQ mW qO qQ oF) H → va_D A (wd_X9_doAct cI cC cZ cB cJ a_x xG xD wY wJ wQ xI xK xJ tW xH tX jE mX pD oO oQ eG uS sW uR qY sY bZ bD bI aI wD gF pE qA nJ nY dQ jC eO eW dO fJ fY jD nG pG qB sH uP pQ mW qO qQ oF) → va_S A s.heap H locs → lv_has ls 3 [(0, .ref a_x)] → W p l e rm_X9_doAct s m args below meth c H locs 0 0 (MQ below (q_X9_doAct dC dI cI cC cZ cB cJ A a_x xG xD wY wJ wQ xI xK xJ tW xH tX jE mX pD oO oQ eG uS sW uR qY sY bZ bD bI aI wD gF pE qA nJ nY dQ pG qB sH uP pQ mW oF post) args s 0 0 A) (F0 m 143 ls []) := by
  obtain ⟨hx, hb, hr, hml, hown, hts, hlocks, hA, hK, hN, tL, tM, hZL, hTL, hZM, hTM, hZX⟩ := id C0
  intro jC eO eW dO fJ fY jD nG qO qQ H locs ls hp hP hD hS hl
  unfold ws_X9_doAct_143 at hp
  refine lv_aload_n hx hb eX9_doAct_134.2.2.2.2.2.1 rfl (lv_at hl 0 rfl) ?_
  refine va_get (D := (dC, dI)) (ci := 9) (v := .ref wY) (C := RX9) (T := TX9) (N := 9) hx hb hts i_X9 hown hK hP 0 rfl rfl 2 (Nat.le_of_ble_eq_true rfl) (hts _ q_146) (fun _ h9 => h9) rfl eX9_doAct_134.2.2.2.2.2.2.1 ?_
  have hm := mgk (wc := (wd_X0_sleepOver cI cC cZ cB cJ wY wJ wQ xH jC eO eW dO fJ fY jD nG)) hP mk_80 15 rfl rfl rfl
  refine g_calli hP hD hS hA (mixT mk_80) (mixF mk_80) hm.1 hm.2 (nd_F _) (dis_g _) (g_runV (As := []) (rest := []) C0 hP hD hS (mixT mk_80) hm.1 (nd_T _) 1 0 rfl rfl (c_X0_sleepOver l dC dI cI cC cZ cB cJ wY wJ wQ xH H.size jC eO eW dO fJ fY jD nG _ hp) q_357 q_360 q_358 q_359 q_187 h_X0_sleepOver rfl rfl ⟨Nat.le_of_ble_eq_true rfl, Nat.le_of_ble_eq_true rfl⟩ rfl rfl hl.1 rfl (lv_room (Nat.le_of_ble_eq_true rfl)) eX9_doAct_134.2.2.2.2.2.2.2.1 ⟨Nat.zero_le _, Nat.zero_le _⟩) (fun r_30 u H locs hp hP hD hS => ?_)
  obtain ⟨no_apron_31, no_basket_32, no_ladder_33, no_today_34, no_clock_35⟩ := u
  have hPD := PDm (ws' := (wd_X9_doAct cI cC cZ cB cJ a_x xG xD wY wJ wQ xI xK xJ tW xH tX jE mX pD oO oQ eG uS sW uR qY sY bZ bD bI aI wD gF pE qA nJ nY dQ no_apron_31 no_basket_32 eW dO no_ladder_33 fY no_today_34 no_clock_35 pG qB sH uP pQ mW qO qQ oF)) hP hD 15 rfl rfl rfl
  have hP := hPD.1
  have hD := hPD.2
  exact W.iret (v := r_30) hx hb hr (fun t ht hW => ⟨⟨r_30, (no_apron_31, no_basket_32, eW, dO, no_ladder_33, fY, no_today_34, no_clock_35, qO, qQ), rfl, hp, by rw [ht]; exact hP, va_K.moved hW.alike hK, hD⟩, hS.F ht⟩) hS.2.2 eX9_doAct_134.2.2.2.2.2.2.2.2
end S_X9_doAct
noncomputable def wp_X9_doAct (post : Int32 → Int32 → Int32 → Int32 → Int32 → Int32 → Int32 → Int32 → Int32 → (Nat → Int32) → (Nat → Int32) → Prop) (p0 p1 bZ bD : Int32) (wD gF pE qA nJ nY dQ : Nat → Int32) (jC eO eW dO fJ fY jD nG pG : Int32) (qO qQ oF : Nat → Int32) : Prop := (p0 = 97 → wp_X0_setHelper (fun r_1 no_helper_2 => post r_1 jC eO eW dO fJ no_helper_2 jD nG qO qQ) 1 fY) ∧ (p0 = 100 → wp_X0_goDown (fun r_3 no_apron_4 no_basket_5 aF3 => post r_3 no_apron_4 no_basket_5 eW dO fJ fY jD aF3 qO qQ) nY jC eO fJ nG) ∧ (p0 = 104 → wp_X0_pickFruit (fun r_7 no_apron_8 aDl no_clock_10 ru_given_11 ru_stack_12 => post r_7 no_apron_8 eO eW aDl fJ fY jD no_clock_10 ru_given_11 ru_stack_12) p1 1 bZ wD gF pE qA nJ nY dQ jC eO eW dO fJ fY jD nG pG qO qQ oF) ∧ (p0 = 107 → wp_X0_shakeTree (fun r_13 no_ground_14 no_bruised_15 aFa => post r_13 jC eO no_ground_14 no_bruised_15 fJ fY jD aFa qO qQ) bZ wD gF qA nJ nY dQ jC eO eW dO fJ fY jD nG) ∧ (p0 = 109 → wp_X0_setLadder (fun r_17 no_apron_18 no_basket_19 no_ladder_20 no_clock_21 => post r_17 no_apron_18 no_basket_19 eW dO no_ladder_20 fY jD no_clock_21 qO qQ) p1 bD nJ nY dQ jC eO fJ nG) ∧ (p0 = 111 → wp_X0_setHelper (fun r_22 no_helper_23 => post r_22 jC eO eW dO fJ no_helper_23 jD nG qO qQ) 0 fY) ∧ (p0 = 112 → wp_X0_pickFruit (fun r_24 no_apron_25 no_bruised_26 no_clock_27 ru_given_28 ru_stack_29 => post r_24 no_apron_25 eO eW no_bruised_26 fJ fY jD no_clock_27 ru_given_28 ru_stack_29) p1 0 bZ wD gF pE qA nJ nY dQ jC eO eW dO fJ fY jD nG pG qO qQ oF) ∧ (¬ p0 = 97 → ¬ p0 = 100 → ¬ p0 = 104 → ¬ p0 = 107 → ¬ p0 = 109 → ¬ p0 = 111 → ¬ p0 = 112 → ws_X9_doAct_143 post bZ bD wD gF pE qA nJ nY dQ pG oF jC eO eW dO fJ fY jD nG qO qQ)
set_option maxHeartbeats 4000000 in
set_option maxRecDepth 100000 in
theorem c_X9_doAct (l : Launch) (dC : Nat → ClassId) (dI : Nat → Nat → Nat) (cI cC cZ cB cJ : ClassId) (a_x xG xD wY wJ wQ xI xK xJ tW xH tX jE mX pD oO oQ eG uS sW uR qY sY sz : Nat) (p0 p1 bZ bD bI aI : Int32) (wD gF pE qA nJ nY dQ : Nat → Int32) (jC eO eW dO fJ fY jD nG pG qB sH uP pQ mW : Int32) (qO qQ oF : Nat → Int32) (post : Int32 → Int32 → Int32 → Int32 → Int32 → Int32 → Int32 → Int32 → Int32 → (Nat → Int32) → (Nat → Int32) → Prop) (hw : wp_X9_doAct post p0 p1 bZ bD wD gF pE qA nJ nY dQ jC eO eW dO fJ fY jD nG pG qO qQ oF) : Met l yX9_doAct (gw yX9_doAct cX9_doAct 3 (some .int)) rm_X9_doAct (va_Pc [.ref a_x, .int p0, .int p1] (gPre (dC, dI) (tyl cI cC cZ cB cJ) (wd_X9_doAct cI cC cZ cB cJ a_x xG xD wY wJ wQ xI xK xJ tW xH tX jE mX pD oO oQ eG uS sW uR qY sY bZ bD bI aI wD gF pE qA nJ nY dQ jC eO eW dO fJ fY jD nG pG qB sH uP pQ mW qO qQ oF) sz)) (q_X9_doAct dC dI cI cC cZ cB cJ (va_A (wd_X9_doAct cI cC cZ cB cJ a_x xG xD wY wJ wQ xI xK xJ tW xH tX jE mX pD oO oQ eG uS sW uR qY sY bZ bD bI aI wD gF pE qA nJ nY dQ jC eO eW dO fJ fY jD nG pG qB sH uP pQ mW qO qQ oF) sz) a_x xG xD wY wJ wQ xI xK xJ tW xH tX jE mX pD oO oQ eG uS sW uR qY sY bZ bD bI aI wD gF pE qA nJ nY dQ pG qB sH uP pQ mW oF post) 0 0 (va_A (wd_X9_doAct cI cC cZ cB cJ a_x xG xD wY wJ wQ xI xK xJ tW xH tX jE mX pD oO oQ eG uS sW uR qY sY bZ bD bI aI wD gF pE qA nJ nY dQ jC eO eW dO fJ fY jD nG pG qB sH uP pQ mW qO qQ oF) sz) := by
  refine g_enter (own := RX9) (dC, dI) (tyl cI cC cZ cB cJ) (wd_X9_doAct cI cC cZ cB cJ a_x xG xD wY wJ wQ xI xK xJ tW xH tX jE mX pD oO oQ eG uS sW uR qY sY bZ bD bI aI wD gF pE qA nJ nY dQ jC eO eW dO fJ fY jD nG pG qB sH uP pQ mW qO qQ oF) sz [.ref a_x, .int p0, .int p1] (fun A => q_X9_doAct dC dI cI cC cZ cB cJ A a_x xG xD wY wJ wQ xI xK xJ tW xH tX jE mX pD oO oQ eG uS sW uR qY sY bZ bD bI aI wD gF pE qA nJ nY dQ pG qB sH uP pQ mW oF post) pn_RX9 rfl (Nat.le_of_ble_eq_true rfl) ?_
  intro p e s m args below meth c A H locs ls C0 hP hD hS hl
  have hl : lv_has ls 3 [(0, .ref a_x), (1, .int p0), (2, .int p1)] := hl
  obtain ⟨hx, hb, hr, hml, hown, hts, hlocks, hA, hK, hN, tL, tM, hZL, hTL, hZM, hTM, hZX⟩ := id C0
  have hp := hw
  unfold wp_X9_doAct at hp
  refine lv_iload_n hx hb eX9_doAct_0.1 rfl (lv_at hl 1 rfl) ?_
  by_cases hc0 : p0 = 97
  · have hp := hp.1 hc0
    refine lv_tableIn (tgt := 125) hx hb eX9_doAct_0.2.1 (by first | (rw [hc0]; done) | (rw [hc0]; decide)) (by first | (rw [hc0]; done) | (rw [hc0]; decide)) (by first | (rw [hc0]; done) | (rw [hc0]; rfl)) (by decide) ?_
    refine lv_aload_n hx hb eX9_doAct_104.2.2.2.2.2.2.2.2.2.2.2.1 rfl (lv_at hl 0 rfl) ?_
    refine va_get (D := (dC, dI)) (ci := 9) (v := .ref wY) (C := RX9) (T := TX9) (N := 9) hx hb hts i_X9 hown hK hP 0 rfl rfl 2 (Nat.le_of_ble_eq_true rfl) (hts _ q_146) (fun _ h9 => h9) rfl eX9_doAct_104.2.2.2.2.2.2.2.2.2.2.2.2.1 ?_
    refine lv_iconst (v := 1) hx hb eX9_doAct_104.2.2.2.2.2.2.2.2.2.2.2.2.2.1 ic_1 ?_
    have hm := mgk (wc := (wd_X0_setHelper cI cC cZ cB cJ wY wJ wQ xH jC eO eW dO fJ fY jD nG)) hP mk_80 15 rfl rfl rfl
    refine g_calli hP hD hS hA (mixT mk_80) (mixF mk_80) hm.1 hm.2 (nd_F _) (dis_g _) (g_runV (As := [.int 1]) (rest := []) C0 hP hD hS (mixT mk_80) hm.1 (nd_T _) 1 0 rfl rfl (c_X0_setHelper l dC dI cI cC cZ cB cJ wY wJ wQ xH H.size 1 jC eO eW dO fJ fY jD nG _ hp) q_263 q_266 q_264 q_265 q_187 h_X0_setHelper rfl rfl ⟨Nat.le_of_ble_eq_true rfl, Nat.le_of_ble_eq_true rfl⟩ rfl rfl hl.1 rfl (lv_room (Nat.le_of_ble_eq_true rfl)) eX9_doAct_104.2.2.2.2.2.2.2.2.2.2.2.2.2.2.1 ⟨Nat.zero_le _, Nat.zero_le _⟩) (fun r_1 u H locs hp hP hD hS => ?_)
    obtain ⟨no_helper_2, rfl⟩ : ∃ z, z = u := ⟨_, rfl⟩
    have hPD := PDm (ws' := (wd_X9_doAct cI cC cZ cB cJ a_x xG xD wY wJ wQ xI xK xJ tW xH tX jE mX pD oO oQ eG uS sW uR qY sY bZ bD bI aI wD gF pE qA nJ nY dQ jC eO eW dO fJ no_helper_2 jD nG pG qB sH uP pQ mW qO qQ oF)) hP hD 15 rfl rfl rfl
    have hP := hPD.1
    have hD := hPD.2
    exact W.iret (v := r_1) hx hb hr (fun t ht hW => ⟨⟨r_1, (jC, eO, eW, dO, fJ, no_helper_2, jD, nG, qO, qQ), rfl, hp, by rw [ht]; exact hP, va_K.moved hW.alike hK, hD⟩, hS.F ht⟩) hS.2.2 eX9_doAct_104.2.2.2.2.2.2.2.2.2.2.2.2.2.2.2
  by_cases hc1 : p0 = 100
  · have hp := hp.2.1 hc1
    refine lv_tableIn (tgt := 109) hx hb eX9_doAct_0.2.1 (by first | (rw [hc1]; done) | (rw [hc1]; decide)) (by first | (rw [hc1]; done) | (rw [hc1]; decide)) (by first | (rw [hc1]; done) | (rw [hc1]; rfl)) (by decide) ?_
    refine lv_aload_n hx hb eX9_doAct_104.2.2.2.1 rfl (lv_at hl 0 rfl) ?_
    refine va_get (D := (dC, dI)) (ci := 9) (v := .ref wY) (C := RX9) (T := TX9) (N := 9) hx hb hts i_X9 hown hK hP 0 rfl rfl 2 (Nat.le_of_ble_eq_true rfl) (hts _ q_146) (fun _ h9 => h9) rfl eX9_doAct_104.2.2.2.2.1 ?_
    have hm := mgk (wc := (wd_X0_goDown cI cC cZ cB cJ wY wJ wQ xH tX jE mX pD oO oQ eG bZ bD bI aI nY jC eO eW dO fJ fY jD nG)) hP mk_81 15 rfl rfl rfl
    refine g_calli hP hD hS hA (mixT mk_81) (mixF mk_81) hm.1 hm.2 (nd_F _) (dis_g _) (g_runV (As := []) (rest := []) C0 hP hD hS (mixT mk_81) hm.1 (nd_T _) 1 0 rfl rfl (c_X0_goDown l dC dI cI cC cZ cB cJ wY wJ wQ xH tX jE mX pD oO oQ eG H.size bZ bD bI aI nY jC eO eW dO fJ fY jD nG _ hp) q_334 q_337 q_335 q_336 q_187 h_X0_goDown rfl rfl ⟨Nat.le_of_ble_eq_true rfl, Nat.le_of_ble_eq_true rfl⟩ rfl rfl hl.1 rfl (lv_room (Nat.le_of_ble_eq_true rfl)) eX9_doAct_104.2.2.2.2.2.1 ⟨Nat.zero_le _, Nat.zero_le _⟩) (fun r_3 u H locs hp hP hD hS => ?_)
    obtain ⟨no_apron_4, no_basket_5, aF3⟩ := u
    have hPD := PDm (ws' := (wd_X9_doAct cI cC cZ cB cJ a_x xG xD wY wJ wQ xI xK xJ tW xH tX jE mX pD oO oQ eG uS sW uR qY sY bZ bD bI aI wD gF pE qA nJ nY dQ no_apron_4 no_basket_5 eW dO fJ fY jD aF3 pG qB sH uP pQ mW qO qQ oF)) hP hD 15 rfl rfl rfl
    have hP := hPD.1
    have hD := hPD.2
    exact W.iret (v := r_3) hx hb hr (fun t ht hW => ⟨⟨r_3, (no_apron_4, no_basket_5, eW, dO, fJ, fY, jD, aF3, qO, qQ), rfl, hp, by rw [ht]; exact hP, va_K.moved hW.alike hK, hD⟩, hS.F ht⟩) hS.2.2 eX9_doAct_104.2.2.2.2.2.2.1
  by_cases hc2 : p0 = 104
  · have hp := hp.2.2.1 hc2
    refine lv_tableIn (tgt := 99) hx hb eX9_doAct_0.2.1 (by first | (rw [hc2]; done) | (rw [hc2]; decide)) (by first | (rw [hc2]; done) | (rw [hc2]; decide)) (by first | (rw [hc2]; done) | (rw [hc2]; rfl)) (by decide) ?_
    refine lv_aload_n hx hb eX9_doAct_0.2.2.2.2.2.2.2.2.2.2.2.2.2.1 rfl (lv_at hl 0 rfl) ?_
    refine va_get (D := (dC, dI)) (ci := 9) (v := .ref wY) (C := RX9) (T := TX9) (N := 9) hx hb hts i_X9 hown hK hP 0 rfl rfl 2 (Nat.le_of_ble_eq_true rfl) (hts _ q_146) (fun _ h9 => h9) rfl eX9_doAct_0.2.2.2.2.2.2.2.2.2.2.2.2.2.2.1 ?_
    refine lv_iload_n hx hb eX9_doAct_0.2.2.2.2.2.2.2.2.2.2.2.2.2.2.2 rfl (lv_at hl 2 rfl) ?_
    refine lv_iconst (v := 1) hx hb eX9_doAct_104.1 ic_1 ?_
    have hm := mgk (wc := (wd_X0_pickFruit cI cC cZ cB cJ wY wJ wQ xH tX jE mX pD oO oQ eG uS sW uR qY sY bZ bD bI aI wD gF pE qA nJ nY dQ jC eO eW dO fJ fY jD nG pG qB sH uP pQ mW qO qQ oF)) hP mk_82 15 rfl rfl rfl
    refine g_calli hP hD hS hA (mixT mk_82) (mixF mk_82) hm.1 hm.2 (nd_F _) (dis_g _) (g_runV (As := [.int p1, .int 1]) (rest := []) C0 hP hD hS (mixT mk_82) hm.1 (nd_T _) 1 0 rfl rfl (c_X0_pickFruit l dC dI cI cC cZ cB cJ wY wJ wQ xH tX jE mX pD oO oQ eG uS sW uR qY sY H.size p1 1 bZ bD bI aI wD gF pE qA nJ nY dQ jC eO eW dO fJ fY jD nG pG qB sH uP pQ mW qO qQ oF _ hp) q_330 q_333 q_331 q_332 q_187 h_X0_pickFruit rfl rfl ⟨Nat.le_of_ble_eq_true rfl, Nat.le_of_ble_eq_true rfl⟩ rfl rfl hl.1 rfl (lv_room (Nat.le_of_ble_eq_true rfl)) eX9_doAct_104.2.1 ⟨Nat.zero_le _, Nat.zero_le _⟩) (fun r_7 u H locs hp hP hD hS => ?_)
    obtain ⟨no_apron_8, aDl, no_clock_10, ru_given_11, ru_stack_12⟩ := u
    have hPD := PDm (ws' := (wd_X9_doAct cI cC cZ cB cJ a_x xG xD wY wJ wQ xI xK xJ tW xH tX jE mX pD oO oQ eG uS sW uR qY sY bZ bD bI aI wD gF pE qA nJ nY dQ no_apron_8 eO eW aDl fJ fY jD no_clock_10 pG qB sH uP pQ mW ru_given_11 ru_stack_12 oF)) hP hD 15 rfl rfl rfl
    have hP := hPD.1
    have hD := hPD.2
    exact W.iret (v := r_7) hx hb hr (fun t ht hW => ⟨⟨r_7, (no_apron_8, eO, eW, aDl, fJ, fY, jD, no_clock_10, ru_given_11, ru_stack_12), rfl, hp, by rw [ht]; exact hP, va_K.moved hW.alike hK, hD⟩, hS.F ht⟩) hS.2.2 eX9_doAct_104.2.2.1
  by_cases hc3 : p0 = 107
  · have hp := hp.2.2.2.1 hc3
    refine lv_tableIn (tgt := 117) hx hb eX9_doAct_0.2.1 (by first | (rw [hc3]; done) | (rw [hc3]; decide)) (by first | (rw [hc3]; done) | (rw [hc3]; decide)) (by first | (rw [hc3]; done) | (rw [hc3]; rfl)) (by decide) ?_
    refine lv_aload_n hx hb eX9_doAct_104.2.2.2.2.2.2.2.1 rfl (lv_at hl 0 rfl) ?_
    refine va_get (D := (dC, dI)) (ci := 9) (v := .ref wY) (C := RX9) (T := TX9) (N := 9) hx hb hts i_X9 hown hK hP 0 rfl rfl 2 (Nat.le_of_ble_eq_true rfl) (hts _ q_146) (fun _ h9 => h9) rfl eX9_doAct_104.2.2.2.2.2.2.2.2.1 ?_
    have hm := mgk (wc := (wd_X0_shakeTree cI cC cZ cB cJ wY wJ wQ xH tX jE mX pD oO oQ eG bZ bD bI aI wD gF qA nJ nY dQ jC eO eW dO fJ fY jD nG)) hP mk_83 15 rfl rfl rfl
    refine g_calli hP hD hS hA (mixT mk_83) (mixF mk_83) hm.1 hm.2 (nd_F _) (dis_g _) (g_runV (As := []) (rest := []) C0 hP hD hS (mixT mk_83) hm.1 (nd_T _) 1 0 rfl rfl (c_X0_shakeTree l dC dI cI cC cZ cB cJ wY wJ wQ xH tX jE mX pD oO oQ eG H.size bZ bD bI aI wD gF qA nJ nY dQ jC eO eW dO fJ fY jD nG _ hp) q_352 q_355 q_353 q_354 q_187 h_X0_shakeTree rfl rfl ⟨Nat.le_of_ble_eq_true rfl, Nat.le_of_ble_eq_true rfl⟩ rfl rfl hl.1 rfl (lv_room (Nat.le_of_ble_eq_true rfl)) eX9_doAct_104.2.2.2.2.2.2.2.2.2.1 ⟨Nat.zero_le _, Nat.zero_le _⟩) (fun r_13 u H locs hp hP hD hS => ?_)
    obtain ⟨no_ground_14, no_bruised_15, aFa⟩ := u
    have hPD := PDm (ws' := (wd_X9_doAct cI cC cZ cB cJ a_x xG xD wY wJ wQ xI xK xJ tW xH tX jE mX pD oO oQ eG uS sW uR qY sY bZ bD bI aI wD gF pE qA nJ nY dQ jC eO no_ground_14 no_bruised_15 fJ fY jD aFa pG qB sH uP pQ mW qO qQ oF)) hP hD 15 rfl rfl rfl
    have hP := hPD.1
    have hD := hPD.2
    exact W.iret (v := r_13) hx hb hr (fun t ht hW => ⟨⟨r_13, (jC, eO, no_ground_14, no_bruised_15, fJ, fY, jD, aFa, qO, qQ), rfl, hp, by rw [ht]; exact hP, va_K.moved hW.alike hK, hD⟩, hS.F ht⟩) hS.2.2 eX9_doAct_104.2.2.2.2.2.2.2.2.2.2.1
  by_cases hc4 : p0 = 109
  · have hp := hp.2.2.2.2.1 hc4
    refine lv_tableIn (tgt := 80) hx hb eX9_doAct_0.2.1 (by first | (rw [hc4]; done) | (rw [hc4]; decide)) (by first | (rw [hc4]; done) | (rw [hc4]; decide)) (by first | (rw [hc4]; done) | (rw [hc4]; rfl)) (by decide) ?_
    refine lv_aload_n hx hb eX9_doAct_0.2.2.1 rfl (lv_at hl 0 rfl) ?_
    refine va_get (D := (dC, dI)) (ci := 9) (v := .ref wY) (C := RX9) (T := TX9) (N := 9) hx hb hts i_X9 hown hK hP 0 rfl rfl 2 (Nat.le_of_ble_eq_true rfl) (hts _ q_146) (fun _ h9 => h9) rfl eX9_doAct_0.2.2.2.1 ?_
    refine lv_iload_n hx hb eX9_doAct_0.2.2.2.2.1 rfl (lv_at hl 2 rfl) ?_
    have hm := mgk (wc := (wd_X0_setLadder cI cC cZ cB cJ wY wJ wQ xH tX jE mX pD oO oQ eG bZ bD bI aI nJ nY dQ jC eO eW dO fJ fY jD nG)) hP mk_84 15 rfl rfl rfl
    refine g_calli hP hD hS hA (mixT mk_84) (mixF mk_84) hm.1 hm.2 (nd_F _) (dis_g _) (g_runV (As := [.int p1]) (rest := []) C0 hP hD hS (mixT mk_84) hm.1 (nd_T _) 1 0 rfl rfl (c_X0_setLadder l dC dI cI cC cZ cB cJ wY wJ wQ xH tX jE mX pD oO oQ eG H.size p1 bZ bD bI aI nJ nY dQ jC eO eW dO fJ fY jD nG _ hp) q_251 q_254 q_252 q_253 q_187 h_X0_setLadder rfl rfl ⟨Nat.le_of_ble_eq_true rfl, Nat.le_of_ble_eq_true rfl⟩ rfl rfl hl.1 rfl (lv_room (Nat.le_of_ble_eq_true rfl)) eX9_doAct_0.2.2.2.2.2.1 ⟨Nat.zero_le _, Nat.zero_le _⟩) (fun r_17 u H locs hp hP hD hS => ?_)
    obtain ⟨no_apron_18, no_basket_19, no_ladder_20, no_clock_21⟩ := u
    have hPD := PDm (ws' := (wd_X9_doAct cI cC cZ cB cJ a_x xG xD wY wJ wQ xI xK xJ tW xH tX jE mX pD oO oQ eG uS sW uR qY sY bZ bD bI aI wD gF pE qA nJ nY dQ no_apron_18 no_basket_19 eW dO no_ladder_20 fY jD no_clock_21 pG qB sH uP pQ mW qO qQ oF)) hP hD 15 rfl rfl rfl
    have hP := hPD.1
    have hD := hPD.2
    exact W.iret (v := r_17) hx hb hr (fun t ht hW => ⟨⟨r_17, (no_apron_18, no_basket_19, eW, dO, no_ladder_20, fY, jD, no_clock_21, qO, qQ), rfl, hp, by rw [ht]; exact hP, va_K.moved hW.alike hK, hD⟩, hS.F ht⟩) hS.2.2 eX9_doAct_0.2.2.2.2.2.2.1
  by_cases hc5 : p0 = 111
  · have hp := hp.2.2.2.2.2.1 hc5
    refine lv_tableIn (tgt := 134) hx hb eX9_doAct_0.2.1 (by first | (rw [hc5]; done) | (rw [hc5]; decide)) (by first | (rw [hc5]; done) | (rw [hc5]; decide)) (by first | (rw [hc5]; done) | (rw [hc5]; rfl)) (by decide) ?_
    refine lv_aload_n hx hb eX9_doAct_134.1 rfl (lv_at hl 0 rfl) ?_
    refine va_get (D := (dC, dI)) (ci := 9) (v := .ref wY) (C := RX9) (T := TX9) (N := 9) hx hb hts i_X9 hown hK hP 0 rfl rfl 2 (Nat.le_of_ble_eq_true rfl) (hts _ q_146) (fun _ h9 => h9) rfl eX9_doAct_134.2.1 ?_
    refine lv_iconst (v := 0) hx hb eX9_doAct_134.2.2.1 ic_0 ?_
    have hm := mgk (wc := (wd_X0_setHelper cI cC cZ cB cJ wY wJ wQ xH jC eO eW dO fJ fY jD nG)) hP mk_80 15 rfl rfl rfl
    refine g_calli hP hD hS hA (mixT mk_80) (mixF mk_80) hm.1 hm.2 (nd_F _) (dis_g _) (g_runV (As := [.int 0]) (rest := []) C0 hP hD hS (mixT mk_80) hm.1 (nd_T _) 1 0 rfl rfl (c_X0_setHelper l dC dI cI cC cZ cB cJ wY wJ wQ xH H.size 0 jC eO eW dO fJ fY jD nG _ hp) q_263 q_266 q_264 q_265 q_187 h_X0_setHelper rfl rfl ⟨Nat.le_of_ble_eq_true rfl, Nat.le_of_ble_eq_true rfl⟩ rfl rfl hl.1 rfl (lv_room (Nat.le_of_ble_eq_true rfl)) eX9_doAct_134.2.2.2.1 ⟨Nat.zero_le _, Nat.zero_le _⟩) (fun r_22 u H locs hp hP hD hS => ?_)
    obtain ⟨no_helper_23, rfl⟩ : ∃ z, z = u := ⟨_, rfl⟩
    have hPD := PDm (ws' := (wd_X9_doAct cI cC cZ cB cJ a_x xG xD wY wJ wQ xI xK xJ tW xH tX jE mX pD oO oQ eG uS sW uR qY sY bZ bD bI aI wD gF pE qA nJ nY dQ jC eO eW dO fJ no_helper_23 jD nG pG qB sH uP pQ mW qO qQ oF)) hP hD 15 rfl rfl rfl
    have hP := hPD.1
    have hD := hPD.2
    exact W.iret (v := r_22) hx hb hr (fun t ht hW => ⟨⟨r_22, (jC, eO, eW, dO, fJ, no_helper_23, jD, nG, qO, qQ), rfl, hp, by rw [ht]; exact hP, va_K.moved hW.alike hK, hD⟩, hS.F ht⟩) hS.2.2 eX9_doAct_134.2.2.2.2.1
  by_cases hc6 : p0 = 112
  · have hp := hp.2.2.2.2.2.2.1 hc6
    refine lv_tableIn (tgt := 89) hx hb eX9_doAct_0.2.1 (by first | (rw [hc6]; done) | (rw [hc6]; decide)) (by first | (rw [hc6]; done) | (rw [hc6]; decide)) (by first | (rw [hc6]; done) | (rw [hc6]; rfl)) (by decide) ?_
    refine lv_aload_n hx hb eX9_doAct_0.2.2.2.2.2.2.2.1 rfl (lv_at hl 0 rfl) ?_
    refine va_get (D := (dC, dI)) (ci := 9) (v := .ref wY) (C := RX9) (T := TX9) (N := 9) hx hb hts i_X9 hown hK hP 0 rfl rfl 2 (Nat.le_of_ble_eq_true rfl) (hts _ q_146) (fun _ h9 => h9) rfl eX9_doAct_0.2.2.2.2.2.2.2.2.1 ?_
    refine lv_iload_n hx hb eX9_doAct_0.2.2.2.2.2.2.2.2.2.1 rfl (lv_at hl 2 rfl) ?_
    refine lv_iconst (v := 0) hx hb eX9_doAct_0.2.2.2.2.2.2.2.2.2.2.1 ic_0 ?_
    have hm := mgk (wc := (wd_X0_pickFruit cI cC cZ cB cJ wY wJ wQ xH tX jE mX pD oO oQ eG uS sW uR qY sY bZ bD bI aI wD gF pE qA nJ nY dQ jC eO eW dO fJ fY jD nG pG qB sH uP pQ mW qO qQ oF)) hP mk_82 15 rfl rfl rfl
    refine g_calli hP hD hS hA (mixT mk_82) (mixF mk_82) hm.1 hm.2 (nd_F _) (dis_g _) (g_runV (As := [.int p1, .int 0]) (rest := []) C0 hP hD hS (mixT mk_82) hm.1 (nd_T _) 1 0 rfl rfl (c_X0_pickFruit l dC dI cI cC cZ cB cJ wY wJ wQ xH tX jE mX pD oO oQ eG uS sW uR qY sY H.size p1 0 bZ bD bI aI wD gF pE qA nJ nY dQ jC eO eW dO fJ fY jD nG pG qB sH uP pQ mW qO qQ oF _ hp) q_330 q_333 q_331 q_332 q_187 h_X0_pickFruit rfl rfl ⟨Nat.le_of_ble_eq_true rfl, Nat.le_of_ble_eq_true rfl⟩ rfl rfl hl.1 rfl (lv_room (Nat.le_of_ble_eq_true rfl)) eX9_doAct_0.2.2.2.2.2.2.2.2.2.2.2.1 ⟨Nat.zero_le _, Nat.zero_le _⟩) (fun r_24 u H locs hp hP hD hS => ?_)
    obtain ⟨no_apron_25, no_bruised_26, no_clock_27, ru_given_28, ru_stack_29⟩ := u
    have hPD := PDm (ws' := (wd_X9_doAct cI cC cZ cB cJ a_x xG xD wY wJ wQ xI xK xJ tW xH tX jE mX pD oO oQ eG uS sW uR qY sY bZ bD bI aI wD gF pE qA nJ nY dQ no_apron_25 eO eW no_bruised_26 fJ fY jD no_clock_27 pG qB sH uP pQ mW ru_given_28 ru_stack_29 oF)) hP hD 15 rfl rfl rfl
    have hP := hPD.1
    have hD := hPD.2
    exact W.iret (v := r_24) hx hb hr (fun t ht hW => ⟨⟨r_24, (no_apron_25, eO, eW, no_bruised_26, fJ, fY, jD, no_clock_27, ru_given_28, ru_stack_29), rfl, hp, by rw [ht]; exact hP, va_K.moved hW.alike hK, hD⟩, hS.F ht⟩) hS.2.2 eX9_doAct_0.2.2.2.2.2.2.2.2.2.2.2.2.1
  have hp := hp.2.2.2.2.2.2.2 hc0 hc1 hc2 hc3 hc4 hc5 hc6
  have key : W p l e rm_X9_doAct s m args below meth c H locs 0 0 (MQ below (q_X9_doAct dC dI cI cC cZ cB cJ A a_x xG xD wY wJ wQ xI xK xJ tW xH tX jE mX pD oO oQ eG uS sW uR qY sY bZ bD bI aI wD gF pE qA nJ nY dQ pG qB sH uP pQ mW oF post) args s 0 0 A) (F0 m 143 ls []) := by
    exact ks_X9_doAct_143 C0 jC eO eW dO fJ fY jD nG qO qQ H locs ls hp hP hD hS (lv_sub hl [0] rfl)
  by_cases hh0 : p0 = 98
  · exact lv_tableIn (tgt := 143) hx hb eX9_doAct_0.2.1 (by first | (rw [hh0]; done) | (rw [hh0]; decide)) (by first | (rw [hh0]; done) | (rw [hh0]; decide)) (by first | (rw [hh0]; done) | (rw [hh0]; rfl)) (by decide) key
  by_cases hh1 : p0 = 99
  · exact lv_tableIn (tgt := 143) hx hb eX9_doAct_0.2.1 (by first | (rw [hh1]; done) | (rw [hh1]; decide)) (by first | (rw [hh1]; done) | (rw [hh1]; decide)) (by first | (rw [hh1]; done) | (rw [hh1]; rfl)) (by decide) key
  by_cases hh2 : p0 = 101
  · exact lv_tableIn (tgt := 143) hx hb eX9_doAct_0.2.1 (by first | (rw [hh2]; done) | (rw [hh2]; decide)) (by first | (rw [hh2]; done) | (rw [hh2]; decide)) (by first | (rw [hh2]; done) | (rw [hh2]; rfl)) (by decide) key
  by_cases hh3 : p0 = 102
  · exact lv_tableIn (tgt := 143) hx hb eX9_doAct_0.2.1 (by first | (rw [hh3]; done) | (rw [hh3]; decide)) (by first | (rw [hh3]; done) | (rw [hh3]; decide)) (by first | (rw [hh3]; done) | (rw [hh3]; rfl)) (by decide) key
  by_cases hh4 : p0 = 103
  · exact lv_tableIn (tgt := 143) hx hb eX9_doAct_0.2.1 (by first | (rw [hh4]; done) | (rw [hh4]; decide)) (by first | (rw [hh4]; done) | (rw [hh4]; decide)) (by first | (rw [hh4]; done) | (rw [hh4]; rfl)) (by decide) key
  by_cases hh5 : p0 = 105
  · exact lv_tableIn (tgt := 143) hx hb eX9_doAct_0.2.1 (by first | (rw [hh5]; done) | (rw [hh5]; decide)) (by first | (rw [hh5]; done) | (rw [hh5]; decide)) (by first | (rw [hh5]; done) | (rw [hh5]; rfl)) (by decide) key
  by_cases hh6 : p0 = 106
  · exact lv_tableIn (tgt := 143) hx hb eX9_doAct_0.2.1 (by first | (rw [hh6]; done) | (rw [hh6]; decide)) (by first | (rw [hh6]; done) | (rw [hh6]; decide)) (by first | (rw [hh6]; done) | (rw [hh6]; rfl)) (by decide) key
  by_cases hh7 : p0 = 108
  · exact lv_tableIn (tgt := 143) hx hb eX9_doAct_0.2.1 (by first | (rw [hh7]; done) | (rw [hh7]; decide)) (by first | (rw [hh7]; done) | (rw [hh7]; decide)) (by first | (rw [hh7]; done) | (rw [hh7]; rfl)) (by decide) key
  by_cases hh8 : p0 = 110
  · exact lv_tableIn (tgt := 143) hx hb eX9_doAct_0.2.1 (by first | (rw [hh8]; done) | (rw [hh8]; decide)) (by first | (rw [hh8]; done) | (rw [hh8]; decide)) (by first | (rw [hh8]; done) | (rw [hh8]; rfl)) (by decide) key
  exact lv_tableOut (tgt := 143) hx hb eX9_doAct_0.2.1 (by have g0 := lv_neT (a := 97) hc0 rfl; have g1 := lv_neT (a := 100) hc1 rfl; have g2 := lv_neT (a := 104) hc2 rfl; have g3 := lv_neT (a := 107) hc3 rfl; have g4 := lv_neT (a := 109) hc4 rfl; have g5 := lv_neT (a := 111) hc5 rfl; have g6 := lv_neT (a := 112) hc6 rfl; have f0 := lv_neT (a := 98) hh0 rfl; have f1 := lv_neT (a := 99) hh1 rfl; have f2 := lv_neT (a := 101) hh2 rfl; have f3 := lv_neT (a := 102) hh3 rfl; have f4 := lv_neT (a := 103) hh4 rfl; have f5 := lv_neT (a := 105) hh5 rfl; have f6 := lv_neT (a := 106) hh6 rfl; have f7 := lv_neT (a := 108) hh7 rfl; have f8 := lv_neT (a := 110) hh8 rfl; omega) (by decide) key
noncomputable abbrev wd_X6_clear (cI cC cZ cB cJ : ClassId) (xK qT : Nat) (qF : Int32) : va_W := [(xK, .inr (6, [.ref qT, .int qF]))]
noncomputable abbrev q_X6_clear (dC : Nat → ClassId) (dI : Nat → Nat → Nat) (cI cC cZ cB cJ : ClassId) (A : Nat → Prop) (xK qT : Nat) (post : Int32 → Prop) : Array Value → State → Outcome → State → Prop := va_Qv (fun (u : Int32) => post u) (fun u t => gB (dC, dI) (tyl cI cC cZ cB cJ) A (wd_X6_clear cI cC cZ cB cJ xK qT u) t) A
noncomputable abbrev rm_X6_clear : Room := { frames := 0, cells := 0, slots := 0, locals := 0 }
noncomputable def wp_X6_clear (post : Int32 → Prop) (qF : Int32) : Prop := post 0
set_option maxHeartbeats 4000000 in
set_option maxRecDepth 100000 in
theorem c_X6_clear (l : Launch) (dC : Nat → ClassId) (dI : Nat → Nat → Nat) (cI cC cZ cB cJ : ClassId) (xK qT sz : Nat) (qF : Int32) (post : Int32 → Prop) (hw : wp_X6_clear post qF) : Met l yX6_clear (gw yX6_clear cX6_clear 1 none) rm_X6_clear (va_Pc [.ref xK] (gPre (dC, dI) (tyl cI cC cZ cB cJ) (wd_X6_clear cI cC cZ cB cJ xK qT qF) sz)) (q_X6_clear dC dI cI cC cZ cB cJ (va_A (wd_X6_clear cI cC cZ cB cJ xK qT qF) sz) xK qT post) 0 0 (va_A (wd_X6_clear cI cC cZ cB cJ xK qT qF) sz) := by
  refine g_enter (own := RX6) (dC, dI) (tyl cI cC cZ cB cJ) (wd_X6_clear cI cC cZ cB cJ xK qT qF) sz [.ref xK] (fun A => q_X6_clear dC dI cI cC cZ cB cJ A xK qT post) pn_RX6 rfl (Nat.le_of_ble_eq_true rfl) ?_
  intro p e s m args below meth c A H locs ls C0 hP hD hS hl
  have hl : lv_has ls 1 [(0, .ref xK)] := hl
  obtain ⟨hx, hb, hr, hml, hown, hts, hlocks, hA, hK, hN, tL, tM, hZL, hTL, hZM, hTM, hZX⟩ := id C0
  have hp := hw
  unfold wp_X6_clear at hp
  refine lv_aload_n hx hb eX6_clear_0.1 rfl (lv_at hl 0 rfl) ?_
  refine lv_iconst (v := 0) hx hb eX6_clear_0.2.1 ic_0 ?_
  refine va_put (D := (dC, dI)) (ci := 6) (v := .int 0) (ty := .int) (C := RX6) (T := TX6) (N := 2) hx hb hts i_X6 tyX6 tyX6_ok nmX6 hown hK hP hD hS 0 rfl rfl 1 (Nat.le_of_ble_eq_true rfl) (hts _ q_361) (fun _ h9 => h9) rfl (tyX6_ok 1 (Nat.le_of_ble_eq_true rfl)) rfl rfl (Nat.le_of_ble_eq_true rfl) eX6_clear_0.2.2.1 (fun H locs hP hD hS => ?_)
  have hP : va_P (dC, dI) classes (wd_X6_clear cI cC cZ cB cJ xK qT 0) H := hP
  have hD : va_D A (wd_X6_clear cI cC cZ cB cJ xK qT 0) := hD
  exact W.vret hx hb hr (fun t ht hW => ⟨⟨0, rfl, hp, by rw [ht]; exact hP, va_K.moved hW.alike hK, hD⟩, hS.F ht⟩) hS.2.2 eX6_clear_0.2.2.2
noncomputable abbrev wd_X6_add (cI cC cZ cB cJ : ClassId) (xK qT : Nat) (qF : Int32) (jJ : Nat → Int32) : va_W := [(xK, .inr (6, [.ref qT, .int qF])), (qT, .inl (cI, 16, .inl jJ))]
noncomputable abbrev q_X6_add (dC : Nat → ClassId) (dI : Nat → Nat → Nat) (cI cC cZ cB cJ : ClassId) (A : Nat → Prop) (xK qT : Nat) (post : Int32 → (Nat → Int32) → Prop) : Array Value → State → Outcome → State → Prop := va_Qv (fun (u : Int32 × (Nat → Int32)) => post u.1 u.2) (fun u t => gB (dC, dI) (tyl cI cC cZ cB cJ) A (wd_X6_add cI cC cZ cB cJ xK qT u.1 u.2) t) A
noncomputable abbrev rm_X6_add : Room := { frames := 0, cells := 0, slots := 0, locals := 0 }
noncomputable def wp_X6_add (post : Int32 → (Nat → Int32) → Prop) (p0 qF : Int32) (jJ : Nat → Int32) : Prop := (16 ≤ qF → post qF jJ) ∧ (¬ 16 ≤ qF → vp_in qF 16 ∧ (∀ v_1 : Int32, v_1 = qF + 1 → post v_1 (upd jJ qF.toNatClampNeg p0)))
set_option maxHeartbeats 4000000 in
set_option maxRecDepth 100000 in
theorem c_X6_add (l : Launch) (dC : Nat → ClassId) (dI : Nat → Nat → Nat) (cI cC cZ cB cJ : ClassId) (xK qT sz : Nat) (p0 qF : Int32) (jJ : Nat → Int32) (post : Int32 → (Nat → Int32) → Prop) (hw : wp_X6_add post p0 qF jJ) : Met l yX6_add (gw yX6_add cX6_add 2 none) rm_X6_add (va_Pc [.ref xK, .int p0] (gPre (dC, dI) (tyl cI cC cZ cB cJ) (wd_X6_add cI cC cZ cB cJ xK qT qF jJ) sz)) (q_X6_add dC dI cI cC cZ cB cJ (va_A (wd_X6_add cI cC cZ cB cJ xK qT qF jJ) sz) xK qT post) 0 0 (va_A (wd_X6_add cI cC cZ cB cJ xK qT qF jJ) sz) := by
  refine g_enter (own := RX6) (dC, dI) (tyl cI cC cZ cB cJ) (wd_X6_add cI cC cZ cB cJ xK qT qF jJ) sz [.ref xK, .int p0] (fun A => q_X6_add dC dI cI cC cZ cB cJ A xK qT post) pn_RX6 rfl (Nat.le_of_ble_eq_true rfl) ?_
  intro p e s m args below meth c A H locs ls C0 hP hD hS hl
  have hl : lv_has ls 2 [(0, .ref xK), (1, .int p0)] := hl
  obtain ⟨hx, hb, hr, hml, hown, hts, hlocks, hA, hK, hN, tL, tM, hZL, hTL, hZM, hTM, hZX⟩ := id C0
  have hp := hw
  unfold wp_X6_add at hp
  refine lv_aload_n hx hb eX6_add_0.1 rfl (lv_at hl 0 rfl) ?_
  refine va_get (D := (dC, dI)) (ci := 6) (v := .int qF) (C := RX6) (T := TX6) (N := 2) hx hb hts i_X6 hown hK hP 0 rfl rfl 1 (Nat.le_of_ble_eq_true rfl) (hts _ q_361) (fun _ h9 => h9) rfl eX6_add_0.2.1 ?_
  refine lv_aload_n hx hb eX6_add_0.2.2.1 rfl (lv_at hl 0 rfl) ?_
  refine va_get (D := (dC, dI)) (ci := 6) (v := .ref qT) (C := RX6) (T := TX6) (N := 2) hx hb hts i_X6 hown hK hP 0 rfl rfl 0 (Nat.le_of_ble_eq_true rfl) (hts _ q_362) (fun _ h9 => h9) rfl eX6_add_0.2.2.2.1 ?_
  refine va_alen (v := 16) hx hb hK hP 1 0 rfl rfl rfl eX6_add_0.2.2.2.2.1 ?_
  refine lv_icmp_ge (tgt := 32) hx hb eX6_add_0.2.2.2.2.2.1 (by decide) (fun hc => ?_) (fun hc => ?_)
  · have hp := hp.1 hc
    exact W.vret hx hb hr (fun t ht hW => ⟨⟨(qF, jJ), rfl, hp, by rw [ht]; exact hP, va_K.moved hW.alike hK, hD⟩, hS.F ht⟩) hS.2.2 eX6_add_28.2.2
  · have hp := hp.2 hc
    refine lv_aload_n hx hb eX6_add_0.2.2.2.2.2.2.1 rfl (lv_at hl 0 rfl) ?_
    refine va_get (D := (dC, dI)) (ci := 6) (v := .ref qT) (C := RX6) (T := TX6) (N := 2) hx hb hts i_X6 hown hK hP 0 rfl rfl 0 (Nat.le_of_ble_eq_true rfl) (hts _ q_362) (fun _ h9 => h9) rfl eX6_add_0.2.2.2.2.2.2.2.1 ?_
    refine lv_aload_n hx hb eX6_add_0.2.2.2.2.2.2.2.2.1 rfl (lv_at hl 0 rfl) ?_
    refine va_get (D := (dC, dI)) (ci := 6) (v := .int qF) (C := RX6) (T := TX6) (N := 2) hx hb hts i_X6 hown hK hP 0 rfl rfl 1 (Nat.le_of_ble_eq_true rfl) (hts _ q_361) (fun _ h9 => h9) rfl eX6_add_0.2.2.2.2.2.2.2.2.2.1 ?_
    refine lv_iload_n hx hb eX6_add_0.2.2.2.2.2.2.2.2.2.2.1 rfl (lv_at hl 1 rfl) ?_
    have hin := hp.1
    have hp := hp.2
    refine va_iast hx hb hK hP hD hS 1 0 rfl rfl hin eX6_add_0.2.2.2.2.2.2.2.2.2.2.2.1 (fun H locs hP hD hS => ?_)
    have hP : va_P (dC, dI) classes (wd_X6_add cI cC cZ cB cJ xK qT qF (upd jJ qF.toNatClampNeg p0)) H := hP
    have hD : va_D A (wd_X6_add cI cC cZ cB cJ xK qT qF (upd jJ qF.toNatClampNeg p0)) := hD
    refine lv_aload_n hx hb eX6_add_0.2.2.2.2.2.2.2.2.2.2.2.2.1 rfl (lv_at hl 0 rfl) ?_
    refine lv_dup hx hb eX6_add_0.2.2.2.2.2.2.2.2.2.2.2.2.2.1 rfl ?_
    refine va_get (D := (dC, dI)) (ci := 6) (v := .int qF) (C := RX6) (T := TX6) (N := 2) hx hb hts i_X6 hown hK hP 0 rfl rfl 1 (Nat.le_of_ble_eq_true rfl) (hts _ q_361) (fun _ h9 => h9) rfl eX6_add_0.2.2.2.2.2.2.2.2.2.2.2.2.2.2.1 ?_
    refine lv_iconst (v := 1) hx hb eX6_add_0.2.2.2.2.2.2.2.2.2.2.2.2.2.2.2 ic_1 ?_
    refine lv_iadd hx hb eX6_add_28.1 ?_
    refine lv_topi (fun v_1 ev_1 => ?_)
    have hp := hp v_1 ev_1
    refine va_put (D := (dC, dI)) (ci := 6) (v := .int v_1) (ty := .int) (C := RX6) (T := TX6) (N := 2) hx hb hts i_X6 tyX6 tyX6_ok nmX6 hown hK hP hD hS 0 rfl rfl 1 (Nat.le_of_ble_eq_true rfl) (hts _ q_361) (fun _ h9 => h9) rfl (tyX6_ok 1 (Nat.le_of_ble_eq_true rfl)) rfl rfl (Nat.le_of_ble_eq_true rfl) eX6_add_28.2.1 (fun H locs hP hD hS => ?_)
    have hP : va_P (dC, dI) classes (wd_X6_add cI cC cZ cB cJ xK qT v_1 (upd jJ qF.toNatClampNeg p0)) H := hP
    have hD : va_D A (wd_X6_add cI cC cZ cB cJ xK qT v_1 (upd jJ qF.toNatClampNeg p0)) := hD
    exact W.vret hx hb hr (fun t ht hW => ⟨⟨(v_1, (upd jJ qF.toNatClampNeg p0)), rfl, hp, by rw [ht]; exact hP, va_K.moved hW.alike hK, hD⟩, hS.F ht⟩) hS.2.2 eX6_add_28.2.2
noncomputable abbrev wd_X9_tell (cI cC cZ cB cJ : ClassId) (a_x xG xD wY wJ wQ xI xK xJ tW qT : Nat) (qF : Int32) (jJ : Nat → Int32) : va_W := [(a_x, .inr (9, [.ref xG, .ref xD, .ref wY, .ref wJ, .ref wQ, .ref xI, .ref xK, .ref xJ, .ref tW])), (xK, .inr (6, [.ref qT, .int qF])), (qT, .inl (cI, 16, .inl jJ))]
noncomputable abbrev q_X9_tell (dC : Nat → ClassId) (dI : Nat → Nat → Nat) (cI cC cZ cB cJ : ClassId) (A : Nat → Prop) (a_x xG xD wY wJ wQ xI xK xJ tW qT : Nat) (post : Int32 → (Nat → Int32) → Prop) : Array Value → State → Outcome → State → Prop := va_Qv (fun (u : Int32 × (Nat → Int32)) => post u.1 u.2) (fun u t => gB (dC, dI) (tyl cI cC cZ cB cJ) A (wd_X9_tell cI cC cZ cB cJ a_x xG xD wY wJ wQ xI xK xJ tW qT u.1 u.2) t) A
noncomputable abbrev rm_X9_tell : Room := { frames := 1, cells := 0, slots := 0, locals := 21 }
noncomputable def wp_X9_tell (post : Int32 → (Nat → Int32) → Prop) (p0 qF : Int32) (jJ : Nat → Int32) : Prop := wp_X6_clear (fun aAa => wp_X6_add (fun aAO aAD => post aAO aAD) p0 aAa jJ) qF
set_option maxHeartbeats 4000000 in
set_option maxRecDepth 100000 in
theorem c_X9_tell (l : Launch) (dC : Nat → ClassId) (dI : Nat → Nat → Nat) (cI cC cZ cB cJ : ClassId) (a_x xG xD wY wJ wQ xI xK xJ tW qT sz : Nat) (p0 qF : Int32) (jJ : Nat → Int32) (post : Int32 → (Nat → Int32) → Prop) (hw : wp_X9_tell post p0 qF jJ) : Met l yX9_tell (gw yX9_tell cX9_tell 2 none) rm_X9_tell (va_Pc [.ref a_x, .int p0] (gPre (dC, dI) (tyl cI cC cZ cB cJ) (wd_X9_tell cI cC cZ cB cJ a_x xG xD wY wJ wQ xI xK xJ tW qT qF jJ) sz)) (q_X9_tell dC dI cI cC cZ cB cJ (va_A (wd_X9_tell cI cC cZ cB cJ a_x xG xD wY wJ wQ xI xK xJ tW qT qF jJ) sz) a_x xG xD wY wJ wQ xI xK xJ tW qT post) 0 0 (va_A (wd_X9_tell cI cC cZ cB cJ a_x xG xD wY wJ wQ xI xK xJ tW qT qF jJ) sz) := by
  refine g_enter (own := RX9) (dC, dI) (tyl cI cC cZ cB cJ) (wd_X9_tell cI cC cZ cB cJ a_x xG xD wY wJ wQ xI xK xJ tW qT qF jJ) sz [.ref a_x, .int p0] (fun A => q_X9_tell dC dI cI cC cZ cB cJ A a_x xG xD wY wJ wQ xI xK xJ tW qT post) pn_RX9 rfl (Nat.le_of_ble_eq_true rfl) ?_
  intro p e s m args below meth c A H locs ls C0 hP hD hS hl
  have hl : lv_has ls 2 [(0, .ref a_x), (1, .int p0)] := hl
  obtain ⟨hx, hb, hr, hml, hown, hts, hlocks, hA, hK, hN, tL, tM, hZL, hTL, hZM, hTM, hZX⟩ := id C0
  have hp := hw
  unfold wp_X9_tell at hp
  refine lv_aload_n hx hb eX9_tell_0.1 rfl (lv_at hl 0 rfl) ?_
  refine va_get (D := (dC, dI)) (ci := 9) (v := .ref xK) (C := RX9) (T := TX9) (N := 9) hx hb hts i_X9 hown hK hP 0 rfl rfl 6 (Nat.le_of_ble_eq_true rfl) (hts _ q_363) (fun _ h9 => h9) rfl eX9_tell_0.2.1 ?_
  have hm := mgk (wc := (wd_X6_clear cI cC cZ cB cJ xK qT qF)) hP mk_31 3 rfl rfl rfl
  refine g_callv hP hD hS hA (mixT mk_31) (mixF mk_31) hm.1 hm.2 (nd_F _) (dis_g _) (g_runV (As := []) (rest := []) C0 hP hD hS (mixT mk_31) hm.1 (nd_T _) 1 6 rfl rfl (c_X6_clear l dC dI cI cC cZ cB cJ xK qT H.size qF _ hp) q_364 q_368 q_366 q_367 q_365 h_X6_clear rfl rfl ⟨Nat.le_of_ble_eq_true rfl, Nat.le_of_ble_eq_true rfl⟩ rfl rfl hl.1 rfl (lv_room (Nat.le_of_ble_eq_true rfl)) eX9_tell_0.2.2.1 ⟨Nat.zero_le _, Nat.zero_le _⟩) (fun u H locs hp hP hD hS => ?_)
  obtain ⟨aAa, rfl⟩ : ∃ z, z = u := ⟨_, rfl⟩
  have hPD := PDm (ws' := (wd_X9_tell cI cC cZ cB cJ a_x xG xD wY wJ wQ xI xK xJ tW qT aAa jJ)) hP hD 3 rfl rfl rfl
  have hP := hPD.1
  have hD := hPD.2
  refine lv_aload_n hx hb eX9_tell_0.2.2.2.1 rfl (lv_at hl 0 rfl) ?_
  refine va_get (D := (dC, dI)) (ci := 9) (v := .ref xK) (C := RX9) (T := TX9) (N := 9) hx hb hts i_X9 hown hK hP 0 rfl rfl 6 (Nat.le_of_ble_eq_true rfl) (hts _ q_363) (fun _ h9 => h9) rfl eX9_tell_0.2.2.2.2.1 ?_
  refine lv_iload_n hx hb eX9_tell_0.2.2.2.2.2.1 rfl (lv_at hl 1 rfl) ?_
  have hm := mgk (wc := (wd_X6_add cI cC cZ cB cJ xK qT aAa jJ)) hP mk_0 3 rfl rfl rfl
  refine g_callv hP hD hS hA (mixT mk_0) (mixF mk_0) hm.1 hm.2 (nd_F _) (dis_g _) (g_runV (As := [.int p0]) (rest := []) C0 hP hD hS (mixT mk_0) hm.1 (nd_T _) 1 6 rfl rfl (c_X6_add l dC dI cI cC cZ cB cJ xK qT H.size p0 aAa jJ _ hp) q_369 q_372 q_370 q_371 q_365 h_X6_add rfl rfl ⟨Nat.le_of_ble_eq_true rfl, Nat.le_of_ble_eq_true rfl⟩ rfl rfl hl.1 rfl (lv_room (Nat.le_of_ble_eq_true rfl)) eX9_tell_0.2.2.2.2.2.2.1 ⟨Nat.zero_le _, Nat.zero_le _⟩) (fun u H locs hp hP hD hS => ?_)
  obtain ⟨aAO, aAD⟩ := u
  have hPD := PDm (ws' := (wd_X9_tell cI cC cZ cB cJ a_x xG xD wY wJ wQ xI xK xJ tW qT aAO aAD)) hP hD 3 rfl rfl rfl
  have hP := hPD.1
  have hD := hPD.2
  exact W.vret hx hb hr (fun t ht hW => ⟨⟨(aAO, aAD), rfl, hp, by rw [ht]; exact hP, va_K.moved hW.alike hK, hD⟩, hS.F ht⟩) hS.2.2 eX9_tell_0.2.2.2.2.2.2.2
noncomputable abbrev wd_X9_tell_ (cI cC cZ cB cJ : ClassId) (a_x xG xD wY wJ wQ xI xK xJ tW qT : Nat) (qF : Int32) (jJ : Nat → Int32) : va_W := [(a_x, .inr (9, [.ref xG, .ref xD, .ref wY, .ref wJ, .ref wQ, .ref xI, .ref xK, .ref xJ, .ref tW])), (xK, .inr (6, [.ref qT, .int qF])), (qT, .inl (cI, 16, .inl jJ))]
noncomputable abbrev q_X9_tell_ (dC : Nat → ClassId) (dI : Nat → Nat → Nat) (cI cC cZ cB cJ : ClassId) (A : Nat → Prop) (a_x xG xD wY wJ wQ xI xK xJ tW qT : Nat) (post : Int32 → (Nat → Int32) → Prop) : Array Value → State → Outcome → State → Prop := va_Qv (fun (u : Int32 × (Nat → Int32)) => post u.1 u.2) (fun u t => gB (dC, dI) (tyl cI cC cZ cB cJ) A (wd_X9_tell_ cI cC cZ cB cJ a_x xG xD wY wJ wQ xI xK xJ tW qT u.1 u.2) t) A
noncomputable abbrev rm_X9_tell_ : Room := { frames := 2, cells := 0, slots := 0, locals := 42 }
noncomputable def wp_X9_tell_ (post : Int32 → (Nat → Int32) → Prop) (p0 p1 qF : Int32) (jJ : Nat → Int32) : Prop := wp_X9_tell (fun aAa aB0 => wp_X6_add (fun aAq zE => post aAq zE) p1 aAa aB0) p0 qF jJ
set_option maxHeartbeats 4000000 in
set_option maxRecDepth 100000 in
theorem c_X9_tell_ (l : Launch) (dC : Nat → ClassId) (dI : Nat → Nat → Nat) (cI cC cZ cB cJ : ClassId) (a_x xG xD wY wJ wQ xI xK xJ tW qT sz : Nat) (p0 p1 qF : Int32) (jJ : Nat → Int32) (post : Int32 → (Nat → Int32) → Prop) (hw : wp_X9_tell_ post p0 p1 qF jJ) : Met l yX9_tell_ (gw yX9_tell_ cX9_tell_ 3 none) rm_X9_tell_ (va_Pc [.ref a_x, .int p0, .int p1] (gPre (dC, dI) (tyl cI cC cZ cB cJ) (wd_X9_tell_ cI cC cZ cB cJ a_x xG xD wY wJ wQ xI xK xJ tW qT qF jJ) sz)) (q_X9_tell_ dC dI cI cC cZ cB cJ (va_A (wd_X9_tell_ cI cC cZ cB cJ a_x xG xD wY wJ wQ xI xK xJ tW qT qF jJ) sz) a_x xG xD wY wJ wQ xI xK xJ tW qT post) 0 0 (va_A (wd_X9_tell_ cI cC cZ cB cJ a_x xG xD wY wJ wQ xI xK xJ tW qT qF jJ) sz) := by
  refine g_enter (own := RX9) (dC, dI) (tyl cI cC cZ cB cJ) (wd_X9_tell_ cI cC cZ cB cJ a_x xG xD wY wJ wQ xI xK xJ tW qT qF jJ) sz [.ref a_x, .int p0, .int p1] (fun A => q_X9_tell_ dC dI cI cC cZ cB cJ A a_x xG xD wY wJ wQ xI xK xJ tW qT post) pn_RX9 rfl (Nat.le_of_ble_eq_true rfl) ?_
  intro p e s m args below meth c A H locs ls C0 hP hD hS hl
  have hl : lv_has ls 3 [(0, .ref a_x), (1, .int p0), (2, .int p1)] := hl
  obtain ⟨hx, hb, hr, hml, hown, hts, hlocks, hA, hK, hN, tL, tM, hZL, hTL, hZM, hTM, hZX⟩ := id C0
  have hp := hw
  unfold wp_X9_tell_ at hp
  refine lv_aload_n hx hb eX9_tell__0.1 rfl (lv_at hl 0 rfl) ?_
  refine lv_iload_n hx hb eX9_tell__0.2.1 rfl (lv_at hl 1 rfl) ?_
  have hm := mgk (wc := (wd_X9_tell cI cC cZ cB cJ a_x xG xD wY wJ wQ xI xK xJ tW qT qF jJ)) hP aBD 3 rfl rfl rfl
  refine g_callv hP hD hS hA (mixT aBD) (mixF aBD) hm.1 hm.2 (nd_F _) (dis_g _) (g_runV (As := [.int p0]) (rest := []) C0 hP hD hS (mixT aBD) hm.1 (nd_T _) 0 9 rfl rfl (c_X9_tell l dC dI cI cC cZ cB cJ a_x xG xD wY wJ wQ xI xK xJ tW qT H.size p0 qF jJ _ hp) q_373 q_376 q_374 q_375 q_256 h_X9_tell rfl rfl ⟨Nat.le_of_ble_eq_true rfl, Nat.le_of_ble_eq_true rfl⟩ rfl rfl hl.1 rfl (lv_room (Nat.le_of_ble_eq_true rfl)) eX9_tell__0.2.2.1 ⟨Nat.zero_le _, Nat.zero_le _⟩) (fun u H locs hp hP hD hS => ?_)
  obtain ⟨aAa, aB0⟩ := u
  have hPD := PDm (ws' := (wd_X9_tell_ cI cC cZ cB cJ a_x xG xD wY wJ wQ xI xK xJ tW qT aAa aB0)) hP hD 3 rfl rfl rfl
  have hP := hPD.1
  have hD := hPD.2
  refine lv_aload_n hx hb eX9_tell__0.2.2.2.1 rfl (lv_at hl 0 rfl) ?_
  refine va_get (D := (dC, dI)) (ci := 9) (v := .ref xK) (C := RX9) (T := TX9) (N := 9) hx hb hts i_X9 hown hK hP 0 rfl rfl 6 (Nat.le_of_ble_eq_true rfl) (hts _ q_363) (fun _ h9 => h9) rfl eX9_tell__0.2.2.2.2.1 ?_
  refine lv_iload_n hx hb eX9_tell__0.2.2.2.2.2.1 rfl (lv_at hl 2 rfl) ?_
  have hm := mgk (wc := (wd_X6_add cI cC cZ cB cJ xK qT aAa aB0)) hP mk_0 3 rfl rfl rfl
  refine g_callv hP hD hS hA (mixT mk_0) (mixF mk_0) hm.1 hm.2 (nd_F _) (dis_g _) (g_runV (As := [.int p1]) (rest := []) C0 hP hD hS (mixT mk_0) hm.1 (nd_T _) 1 6 rfl rfl (c_X6_add l dC dI cI cC cZ cB cJ xK qT H.size p1 aAa aB0 _ hp) q_369 q_372 q_370 q_371 q_365 h_X6_add rfl rfl ⟨Nat.le_of_ble_eq_true rfl, Nat.le_of_ble_eq_true rfl⟩ rfl rfl hl.1 rfl (lv_room (Nat.le_of_ble_eq_true rfl)) eX9_tell__0.2.2.2.2.2.2.1 ⟨Nat.zero_le _, Nat.zero_le _⟩) (fun u H locs hp hP hD hS => ?_)
  obtain ⟨aAq, zE⟩ := u
  have hPD := PDm (ws' := (wd_X9_tell_ cI cC cZ cB cJ a_x xG xD wY wJ wQ xI xK xJ tW qT aAq zE)) hP hD 3 rfl rfl rfl
  have hP := hPD.1
  have hD := hPD.2
  exact W.vret hx hb hr (fun t ht hW => ⟨⟨(aAq, zE), rfl, hp, by rw [ht]; exact hP, va_K.moved hW.alike hK, hD⟩, hS.F ht⟩) hS.2.2 eX9_tell__0.2.2.2.2.2.2.2
noncomputable abbrev wd_X9_doActs (cI cC cZ cB cJ : ClassId) (a_x xG xD wY wJ wQ xI xK xJ tW xH tX jE mX pD oO oQ eG uS sW uR qY sY vX uO vQ qT : Nat) (vZ : Nat → Int32) (bZ bD bI aI : Int32) (wD gF pE qA nJ nY dQ : Nat → Int32) (jC eO eW dO fJ fY jD nG pG qB sH uP pQ mW : Int32) (qO qQ oF : Nat → Int32) (oE uF : Int32) (sG : Nat → Int32) (qF : Int32) (jJ : Nat → Int32) : va_W := [(a_x, .inr (9, [.ref xG, .ref xD, .ref wY, .ref wJ, .ref wQ, .ref xI, .ref xK, .ref xJ, .ref tW])), (tW, .inl (cI, 30, .inl vZ)), (wY, .inr (0, [.ref wJ, .ref wQ, .ref xH])), (wJ, .inr (3, [.ref tX, .ref jE, .ref mX, .ref pD, .ref oO, .ref oQ, .ref eG, .int bZ, .int bD, .int bI, .int aI])), (tX, .inl (cI, 16, .inl wD)), (jE, .inl (cI, 16, .inl gF)), (mX, .inl (cI, 16, .inl pE)), (pD, .inl (cI, 16, .inl qA)), (oO, .inl (cI, 8, .inl nJ)), (oQ, .inl (cI, 8, .inl nY)), (eG, .inl (cI, 5, .inl dQ)), (wQ, .inr (2, [.int jC, .int eO, .int eW, .int dO, .int fJ, .int fY, .int jD, .int nG])), (xH, .inr (7, [.ref uS, .ref sW, .ref uR, .ref qY, .ref sY, .int pG, .int qB, .int sH, .int uP, .int pQ, .int mW])), (uS, .inl (cI, 7, .inl qO)), (uR, .inl (cI, 40, .inl qQ)), (qY, .inl (cI, 40, .inl oF)), (xI, .inr (4, [.ref vX, .ref uO, .ref vQ, .int oE, .int uF])), (vX, .inl (cI, 104, .inl sG)), (xK, .inr (6, [.ref qT, .int qF])), (qT, .inl (cI, 16, .inl jJ))]
noncomputable abbrev q_X9_doActs (dC : Nat → ClassId) (dI : Nat → Nat → Nat) (cI cC cZ cB cJ : ClassId) (A : Nat → Prop) (a_x xG xD wY wJ wQ xI xK xJ tW xH tX jE mX pD oO oQ eG uS sW uR qY sY vX uO vQ qT : Nat) (vZ : Nat → Int32) (bZ bD bI aI : Int32) (wD gF pE qA nJ nY dQ : Nat → Int32) (pG qB sH uP pQ mW : Int32) (oF : Nat → Int32) (post : Int32 → Int32 → Int32 → Int32 → Int32 → Int32 → Int32 → Int32 → Int32 → (Nat → Int32) → (Nat → Int32) → Int32 → Int32 → (Nat → Int32) → Int32 → (Nat → Int32) → Prop) : Array Value → State → Outcome → State → Prop := va_Qi (fun (r : Int32) (u : Int32 × Int32 × Int32 × Int32 × Int32 × Int32 × Int32 × Int32 × (Nat → Int32) × (Nat → Int32) × Int32 × Int32 × (Nat → Int32) × Int32 × (Nat → Int32)) => post r u.1 u.2.1 u.2.2.1 u.2.2.2.1 u.2.2.2.2.1 u.2.2.2.2.2.1 u.2.2.2.2.2.2.1 u.2.2.2.2.2.2.2.1 u.2.2.2.2.2.2.2.2.1 u.2.2.2.2.2.2.2.2.2.1 u.2.2.2.2.2.2.2.2.2.2.1 u.2.2.2.2.2.2.2.2.2.2.2.1 u.2.2.2.2.2.2.2.2.2.2.2.2.1 u.2.2.2.2.2.2.2.2.2.2.2.2.2.1 u.2.2.2.2.2.2.2.2.2.2.2.2.2.2) (fun u t => gB (dC, dI) (tyl cI cC cZ cB cJ) A (wd_X9_doActs cI cC cZ cB cJ a_x xG xD wY wJ wQ xI xK xJ tW xH tX jE mX pD oO oQ eG uS sW uR qY sY vX uO vQ qT vZ bZ bD bI aI wD gF pE qA nJ nY dQ u.1 u.2.1 u.2.2.1 u.2.2.2.1 u.2.2.2.2.1 u.2.2.2.2.2.1 u.2.2.2.2.2.2.1 u.2.2.2.2.2.2.2.1 pG qB sH uP pQ mW u.2.2.2.2.2.2.2.2.1 u.2.2.2.2.2.2.2.2.2.1 oF u.2.2.2.2.2.2.2.2.2.2.1 u.2.2.2.2.2.2.2.2.2.2.2.1 u.2.2.2.2.2.2.2.2.2.2.2.2.1 u.2.2.2.2.2.2.2.2.2.2.2.2.2.1 u.2.2.2.2.2.2.2.2.2.2.2.2.2.2) t) A
noncomputable abbrev rm_X9_doActs : Room := { frames := 6, cells := 0, slots := 0, locals := 138 }
section S_X9_doActs
variable {p : Program} {l : Launch} {e : Env} {s : State} {m : MethodId} {args : Array Value} {below : List Frame} {meth : Method} {c : Code} {dC : Nat → ClassId} {dI : Nat → Nat → Nat} {cI cC cZ cB cJ : ClassId} {A : Nat → Prop} {a_x xG xD wY wJ wQ xI xK xJ tW xH tX jE mX pD oO oQ eG uS sW uR qY sY vX uO vQ qT : Nat} {vZ : Nat → Int32} {bZ bD bI aI : Int32} {wD gF pE qA nJ nY dQ : Nat → Int32} {pG qB sH uP pQ mW : Int32} {oF : Nat → Int32} {post : Int32 → Int32 → Int32 → Int32 → Int32 → Int32 → Int32 → Int32 → Int32 → (Nat → Int32) → (Nat → Int32) → Int32 → Int32 → (Nat → Int32) → Int32 → (Nat → Int32) → Prop}
noncomputable def ws_X9_doActs_118 (post : Int32 → Int32 → Int32 → Int32 → Int32 → Int32 → Int32 → Int32 → Int32 → (Nat → Int32) → (Nat → Int32) → Int32 → Int32 → (Nat → Int32) → Int32 → (Nat → Int32) → Prop) (vZ : Nat → Int32) (bZ bD : Int32) (wD gF pE qA nJ nY dQ : Nat → Int32) (pG : Int32) (oF : Nat → Int32) (x2 x3 x4 jC eO eW dO fJ fY jD nG : Int32) (qO qQ : Nat → Int32) (oE uF : Int32) (sG : Nat → Int32) (qF : Int32) (jJ : Nat → Int32) : Prop := wp_X9_tell_ (fun aAO aAD => post x2 jC eO eW dO fJ fY jD nG qO qQ oE uF sG aAO aAD) x4 x3 qF jJ
set_option maxHeartbeats 4000000 in
set_option maxRecDepth 100000 in
theorem ks_X9_doActs_118 (C0 : gc cX9_doActs (some .int) 7 RX9 (dC, dI) (tyl cI cC cZ cB cJ) A p s m args meth c) : ∀ (x2 x3 x4 jC eO eW dO fJ fY jD nG : Int32) (qO qQ : Nat → Int32) (oE uF : Int32) (sG : Nat → Int32) (qF : Int32) (jJ : Nat → Int32) (H : Heap) (locs : List Loc) (ls : Array Slot), (ws_X9_doActs_118 post vZ bZ bD wD gF pE qA nJ nY dQ pG oF) x2 x3 x4 jC eO eW dO fJ fY jD nG qO qQ oE uF sG qF jJ → va_P (dC, dI) classes (wd_X9_doActs cI cC cZ cB cJ a_x xG xD wY wJ wQ xI xK xJ tW xH tX jE mX pD oO oQ eG uS sW uR qY sY vX uO vQ qT vZ bZ bD bI aI wD gF pE qA nJ nY dQ jC eO eW dO fJ fY jD nG pG qB sH uP pQ mW qO qQ oF oE uF sG qF jJ) H → va_D A (wd_X9_doActs cI cC cZ cB cJ a_x xG xD wY wJ wQ xI xK xJ tW xH tX jE mX pD oO oQ eG uS sW uR qY sY vX uO vQ qT vZ bZ bD bI aI wD gF pE qA nJ nY dQ jC eO eW dO fJ fY jD nG pG qB sH uP pQ mW qO qQ oF oE uF sG qF jJ) → va_S A s.heap H locs → lv_has ls 7 [(0, .ref a_x), (2, .int x2), (3, .int x3), (4, .int x4)] → W p l e rm_X9_doActs s m args below meth c H locs 0 0 (MQ below (q_X9_doActs dC dI cI cC cZ cB cJ A a_x xG xD wY wJ wQ xI xK xJ tW xH tX jE mX pD oO oQ eG uS sW uR qY sY vX uO vQ qT vZ bZ bD bI aI wD gF pE qA nJ nY dQ pG qB sH uP pQ mW oF post) args s 0 0 A) (F0 m 118 ls []) := by
  obtain ⟨hx, hb, hr, hml, hown, hts, hlocks, hA, hK, hN, tL, tM, hZL, hTL, hZM, hTM, hZX⟩ := id C0
  intro x2 x3 x4 jC eO eW dO fJ fY jD nG qO qQ oE uF sG qF jJ H locs ls hp hP hD hS hl
  unfold ws_X9_doActs_118 at hp
  refine lv_aload_n hx hb eX9_doActs_91.2.2.2.2.2.2.2.2.2.2.2.2.2.1 rfl (lv_at hl 0 rfl) ?_
  refine lv_iload hx hb eX9_doActs_91.2.2.2.2.2.2.2.2.2.2.2.2.2.2.1 (lv_at hl 3 rfl) ?_
  refine lv_iload_n hx hb eX9_doActs_91.2.2.2.2.2.2.2.2.2.2.2.2.2.2.2 rfl (lv_at hl 2 rfl) ?_
  have hm := mgk (wc := (wd_X9_tell_ cI cC cZ cB cJ a_x xG xD wY wJ wQ xI xK xJ tW qT qF jJ)) hP mk_86 20 rfl rfl rfl
  refine g_callv hP hD hS hA (mixT mk_86) (mixF mk_86) hm.1 hm.2 (nd_F _) (dis_g _) (g_runV (As := [.int x4, .int x3]) (rest := []) C0 hP hD hS (mixT mk_86) hm.1 (nd_T _) 0 9 rfl rfl (c_X9_tell_ l dC dI cI cC cZ cB cJ a_x xG xD wY wJ wQ xI xK xJ tW qT H.size x4 x3 qF jJ _ hp) q_377 q_380 q_378 q_379 q_256 h_X9_tell_ rfl rfl ⟨Nat.le_of_ble_eq_true rfl, Nat.le_of_ble_eq_true rfl⟩ rfl rfl hl.1 rfl (lv_room (Nat.le_of_ble_eq_true rfl)) eX9_doActs_122.1 ⟨Nat.zero_le _, Nat.zero_le _⟩) (fun u H locs hp hP hD hS => ?_)
  obtain ⟨aAO, aAD⟩ := u
  have hPD := PDm (ws' := (wd_X9_doActs cI cC cZ cB cJ a_x xG xD wY wJ wQ xI xK xJ tW xH tX jE mX pD oO oQ eG uS sW uR qY sY vX uO vQ qT vZ bZ bD bI aI wD gF pE qA nJ nY dQ jC eO eW dO fJ fY jD nG pG qB sH uP pQ mW qO qQ oF oE uF sG aAO aAD)) hP hD 20 rfl rfl rfl
  have hP := hPD.1
  have hD := hPD.2
  refine lv_iload_n hx hb eX9_doActs_122.2.1 rfl (lv_at hl 1 rfl) ?_
  exact W.iret (v := x2) hx hb hr (fun t ht hW => ⟨⟨x2, (jC, eO, eW, dO, fJ, fY, jD, nG, qO, qQ, oE, uF, sG, aAO, aAD), rfl, hp, by rw [ht]; exact hP, va_K.moved hW.alike hK, hD⟩, hS.F ht⟩) hS.2.2 eX9_doActs_122.2.2
noncomputable def ws_X9_doActs_107 (post : Int32 → Int32 → Int32 → Int32 → Int32 → Int32 → Int32 → Int32 → Int32 → (Nat → Int32) → (Nat → Int32) → Int32 → Int32 → (Nat → Int32) → Int32 → (Nat → Int32) → Prop) (vZ : Nat → Int32) (bZ bD : Int32) (wD gF pE qA nJ nY dQ : Nat → Int32) (pG : Int32) (oF : Nat → Int32) (x2 x3 x4 jC eO eW dO fJ fY jD nG : Int32) (qO qQ : Nat → Int32) (oE uF : Int32) (sG : Nat → Int32) (qF : Int32) (jJ : Nat → Int32) : Prop := (x2 ≤ 0 → ws_X9_doActs_118 post vZ bZ bD wD gF pE qA nJ nY dQ pG oF x2 x3 x4 jC eO eW dO fJ fY jD nG qO qQ oE uF sG qF jJ) ∧ (¬ x2 ≤ 0 → wp_X4_hold (fun pa_undoable_4 pa_free_5 => ws_X9_doActs_118 post vZ bZ bD wD gF pE qA nJ nY dQ pG oF x2 x3 x4 jC eO eW dO fJ fY jD nG qO qQ pa_undoable_4 pa_free_5 sG qF jJ) oE uF)
set_option maxHeartbeats 4000000 in
set_option maxRecDepth 100000 in
theorem ks_X9_doActs_107 (C0 : gc cX9_doActs (some .int) 7 RX9 (dC, dI) (tyl cI cC cZ cB cJ) A p s m args meth c) : ∀ (x2 x3 x4 jC eO eW dO fJ fY jD nG : Int32) (qO qQ : Nat → Int32) (oE uF : Int32) (sG : Nat → Int32) (qF : Int32) (jJ : Nat → Int32) (H : Heap) (locs : List Loc) (ls : Array Slot), (ws_X9_doActs_107 post vZ bZ bD wD gF pE qA nJ nY dQ pG oF) x2 x3 x4 jC eO eW dO fJ fY jD nG qO qQ oE uF sG qF jJ → va_P (dC, dI) classes (wd_X9_doActs cI cC cZ cB cJ a_x xG xD wY wJ wQ xI xK xJ tW xH tX jE mX pD oO oQ eG uS sW uR qY sY vX uO vQ qT vZ bZ bD bI aI wD gF pE qA nJ nY dQ jC eO eW dO fJ fY jD nG pG qB sH uP pQ mW qO qQ oF oE uF sG qF jJ) H → va_D A (wd_X9_doActs cI cC cZ cB cJ a_x xG xD wY wJ wQ xI xK xJ tW xH tX jE mX pD oO oQ eG uS sW uR qY sY vX uO vQ qT vZ bZ bD bI aI wD gF pE qA nJ nY dQ jC eO eW dO fJ fY jD nG pG qB sH uP pQ mW qO qQ oF oE uF sG qF jJ) → va_S A s.heap H locs → lv_has ls 7 [(0, .ref a_x), (2, .int x2), (3, .int x3), (4, .int x4)] → W p l e rm_X9_doActs s m args below meth c H locs 0 0 (MQ below (q_X9_doActs dC dI cI cC cZ cB cJ A a_x xG xD wY wJ wQ xI xK xJ tW xH tX jE mX pD oO oQ eG uS sW uR qY sY vX uO vQ qT vZ bZ bD bI aI wD gF pE qA nJ nY dQ pG qB sH uP pQ mW oF post) args s 0 0 A) (F0 m 107 ls []) := by
  obtain ⟨hx, hb, hr, hml, hown, hts, hlocks, hA, hK, hN, tL, tM, hZL, hTL, hZM, hTM, hZX⟩ := id C0
  intro x2 x3 x4 jC eO eW dO fJ fY jD nG qO qQ oE uF sG qF jJ H locs ls hp hP hD hS hl
  unfold ws_X9_doActs_107 at hp
  refine lv_iload_n hx hb eX9_doActs_91.2.2.2.2.2.2.2.2.1 rfl (lv_at hl 1 rfl) ?_
  refine lv_if_le (tgt := 118) hx hb eX9_doActs_91.2.2.2.2.2.2.2.2.2.1 (by decide) (fun hc => ?_) (fun hc => ?_)
  · have hp := hp.1 hc
    exact ks_X9_doActs_118 C0 x2 x3 x4 jC eO eW dO fJ fY jD nG qO qQ oE uF sG qF jJ H locs ls hp hP hD hS (lv_sub hl [0, 1, 2, 3] rfl)
  · have hp := hp.2 hc
    refine lv_aload_n hx hb eX9_doActs_91.2.2.2.2.2.2.2.2.2.2.1 rfl (lv_at hl 0 rfl) ?_
    refine va_get (D := (dC, dI)) (ci := 9) (v := .ref xI) (C := RX9) (T := TX9) (N := 9) hx hb hts i_X9 hown hK hP 0 rfl rfl 5 (Nat.le_of_ble_eq_true rfl) (hts _ q_91) (fun _ h9 => h9) rfl eX9_doActs_91.2.2.2.2.2.2.2.2.2.2.2.1 ?_
    have hm := mgk (wc := (wd_X4_hold cI cC cZ cB cJ xI vX uO vQ oE uF)) hP mk_87 20 rfl rfl rfl
    refine g_callv hP hD hS hA (mixT mk_87) (mixF mk_87) hm.1 hm.2 (nd_F _) (dis_g _) (g_runV (As := []) (rest := []) C0 hP hD hS (mixT mk_87) hm.1 (nd_T _) 16 4 rfl rfl (c_X4_hold l dC dI cI cC cZ cB cJ xI vX uO vQ H.size oE uF _ hp) q_243 q_246 q_244 q_245 q_93 h_X4_hold rfl rfl ⟨Nat.le_of_ble_eq_true rfl, Nat.le_of_ble_eq_true rfl⟩ rfl rfl hl.1 rfl (lv_room (Nat.le_of_ble_eq_true rfl)) eX9_doActs_91.2.2.2.2.2.2.2.2.2.2.2.2.1 ⟨Nat.zero_le _, Nat.zero_le _⟩) (fun u H locs hp hP hD hS => ?_)
    obtain ⟨pa_undoable_4, pa_free_5⟩ := u
    have hPD := PDm (ws' := (wd_X9_doActs cI cC cZ cB cJ a_x xG xD wY wJ wQ xI xK xJ tW xH tX jE mX pD oO oQ eG uS sW uR qY sY vX uO vQ qT vZ bZ bD bI aI wD gF pE qA nJ nY dQ jC eO eW dO fJ fY jD nG pG qB sH uP pQ mW qO qQ oF pa_undoable_4 pa_free_5 sG qF jJ)) hP hD 20 rfl rfl rfl
    have hP := hPD.1
    have hD := hPD.2
    exact ks_X9_doActs_118 C0 x2 x3 x4 jC eO eW dO fJ fY jD nG qO qQ pa_undoable_4 pa_free_5 sG qF jJ H locs ls hp hP hD hS (lv_sub hl [0, 1, 2, 3] rfl)
noncomputable def ws_X9_doActs_101 (post : Int32 → Int32 → Int32 → Int32 → Int32 → Int32 → Int32 → Int32 → Int32 → (Nat → Int32) → (Nat → Int32) → Int32 → Int32 → (Nat → Int32) → Int32 → (Nat → Int32) → Prop) (K21 : Int32 → Int32 → Int32 → Int32 → Int32 → Int32 → Int32 → Int32 → Int32 → Int32 → Int32 → Int32 → Int32 → (Nat → Int32) → (Nat → Int32) → Int32 → Int32 → (Nat → Int32) → Int32 → (Nat → Int32) → Prop) (vZ : Nat → Int32) (bZ bD : Int32) (wD gF pE qA nJ nY dQ : Nat → Int32) (pG : Int32) (oF : Nat → Int32) (x1 x2 x3 x4 x5 jC eO eW dO fJ fY jD nG : Int32) (qO qQ : Nat → Int32) (oE uF : Int32) (sG : Nat → Int32) (qF : Int32) (jJ : Nat → Int32) : Prop := ∀ v_23 : Int32, v_23 = x5 + 1 → K21 x1 x2 x3 x4 v_23 jC eO eW dO fJ fY jD nG qO qQ oE uF sG qF jJ
set_option maxHeartbeats 4000000 in
set_option maxRecDepth 100000 in
theorem ks_X9_doActs_101 (C0 : gc cX9_doActs (some .int) 7 RX9 (dC, dI) (tyl cI cC cZ cB cJ) A p s m args meth c) {K21 : Int32 → Int32 → Int32 → Int32 → Int32 → Int32 → Int32 → Int32 → Int32 → Int32 → Int32 → Int32 → Int32 → (Nat → Int32) → (Nat → Int32) → Int32 → Int32 → (Nat → Int32) → Int32 → (Nat → Int32) → Prop} (hK21 : ∀ (x1 : Int32) (x2 : Int32) (x3 : Int32) (x4 : Int32) (x5 : Int32) (jC : Int32) (eO : Int32) (eW : Int32) (dO : Int32) (fJ : Int32) (fY : Int32) (jD : Int32) (nG : Int32) (qO : Nat → Int32) (qQ : Nat → Int32) (oE : Int32) (uF : Int32) (sG : Nat → Int32) (qF : Int32) (jJ : Nat → Int32) (H : Heap) (locs : List Loc) (ls : Array Slot), K21 x1 x2 x3 x4 x5 jC eO eW dO fJ fY jD nG qO qQ oE uF sG qF jJ → va_P (dC, dI) classes (wd_X9_doActs cI cC cZ cB cJ a_x xG xD wY wJ wQ xI xK xJ tW xH tX jE mX pD oO oQ eG uS sW uR qY sY vX uO vQ qT vZ bZ bD bI aI wD gF pE qA nJ nY dQ jC eO eW dO fJ fY jD nG pG qB sH uP pQ mW qO qQ oF oE uF sG qF jJ) H → va_D A (wd_X9_doActs cI cC cZ cB cJ a_x xG xD wY wJ wQ xI xK xJ tW xH tX jE mX pD oO oQ eG uS sW uR qY sY vX uO vQ qT vZ bZ bD bI aI wD gF pE qA nJ nY dQ jC eO eW dO fJ fY jD nG pG qB sH uP pQ mW qO qQ oF oE uF sG qF jJ) → va_S A s.heap H locs → lv_has ls 7 [(0, .ref a_x), (1, .int x1), (2, .int x2), (3, .int x3), (4, .int x4), (5, .int x5)] → W p l e rm_X9_doActs s m args below meth c H locs 0 0 (MQ below (q_X9_doActs dC dI cI cC cZ cB cJ A a_x xG xD wY wJ wQ xI xK xJ tW xH tX jE mX pD oO oQ eG uS sW uR qY sY vX uO vQ qT vZ bZ bD bI aI wD gF pE qA nJ nY dQ pG qB sH uP pQ mW oF post) args s 0 0 A) (F0 m 21 ls [])) : ∀ (x1 x2 x3 x4 x5 jC eO eW dO fJ fY jD nG : Int32) (qO qQ : Nat → Int32) (oE uF : Int32) (sG : Nat → Int32) (qF : Int32) (jJ : Nat → Int32) (H : Heap) (locs : List Loc) (ls : Array Slot), (ws_X9_doActs_101 post K21 vZ bZ bD wD gF pE qA nJ nY dQ pG oF) x1 x2 x3 x4 x5 jC eO eW dO fJ fY jD nG qO qQ oE uF sG qF jJ → va_P (dC, dI) classes (wd_X9_doActs cI cC cZ cB cJ a_x xG xD wY wJ wQ xI xK xJ tW xH tX jE mX pD oO oQ eG uS sW uR qY sY vX uO vQ qT vZ bZ bD bI aI wD gF pE qA nJ nY dQ jC eO eW dO fJ fY jD nG pG qB sH uP pQ mW qO qQ oF oE uF sG qF jJ) H → va_D A (wd_X9_doActs cI cC cZ cB cJ a_x xG xD wY wJ wQ xI xK xJ tW xH tX jE mX pD oO oQ eG uS sW uR qY sY vX uO vQ qT vZ bZ bD bI aI wD gF pE qA nJ nY dQ jC eO eW dO fJ fY jD nG pG qB sH uP pQ mW qO qQ oF oE uF sG qF jJ) → va_S A s.heap H locs → lv_has ls 7 [(0, .ref a_x), (1, .int x1), (2, .int x2), (3, .int x3), (4, .int x4), (5, .int x5)] → W p l e rm_X9_doActs s m args below meth c H locs 0 0 (MQ below (q_X9_doActs dC dI cI cC cZ cB cJ A a_x xG xD wY wJ wQ xI xK xJ tW xH tX jE mX pD oO oQ eG uS sW uR qY sY vX uO vQ qT vZ bZ bD bI aI wD gF pE qA nJ nY dQ pG qB sH uP pQ mW oF post) args s 0 0 A) (F0 m 101 ls []) := by
  obtain ⟨hx, hb, hr, hml, hown, hts, hlocks, hA, hK, hN, tL, tM, hZL, hTL, hZM, hTM, hZX⟩ := id C0
  intro x1 x2 x3 x4 x5 jC eO eW dO fJ fY jD nG qO qQ oE uF sG qF jJ H locs ls hp hP hD hS hl
  unfold ws_X9_doActs_101 at hp
  obtain ⟨v_23, ev_23⟩ : ∃ y : Int32, y = x5 + 1 := ⟨_, rfl⟩
  refine lv_iinc (v := v_23) (lv' := [(5, .int v_23), (0, .ref a_x), (1, .int x1), (2, .int x2), (3, .int x3), (4, .int x4)]) hx hb eX9_doActs_91.2.2.2.2.2.2.1 hl (k := 5) rfl (by rw [ev_23]; rfl) (by decide) rfl (fun ls hl => ?_)
  have hp := hp v_23 ev_23
  refine lv_goto (tgt := 21) hx hb eX9_doActs_91.2.2.2.2.2.2.2.1 (by decide) ?_
  exact hK21 x1 x2 x3 x4 v_23 jC eO eW dO fJ fY jD nG qO qQ oE uF sG qF jJ H locs ls hp hP hD hS (lv_sub hl [1, 2, 3, 4, 5, 0] rfl)
noncomputable def ws_X9_doActs_99 (post : Int32 → Int32 → Int32 → Int32 → Int32 → Int32 → Int32 → Int32 → Int32 → (Nat → Int32) → (Nat → Int32) → Int32 → Int32 → (Nat → Int32) → Int32 → (Nat → Int32) → Prop) (K21 : Int32 → Int32 → Int32 → Int32 → Int32 → Int32 → Int32 → Int32 → Int32 → Int32 → Int32 → Int32 → Int32 → (Nat → Int32) → (Nat → Int32) → Int32 → Int32 → (Nat → Int32) → Int32 → (Nat → Int32) → Prop) (vZ : Nat → Int32) (bZ bD : Int32) (wD gF pE qA nJ nY dQ : Nat → Int32) (pG : Int32) (oF : Nat → Int32) (x1 x2 x4 x5 k0 k1 jC eO eW dO fJ fY jD nG : Int32) (qO qQ : Nat → Int32) (oE uF : Int32) (sG : Nat → Int32) (qF : Int32) (jJ : Nat → Int32) : Prop := ∀ v_22 : Int32, v_22 = k0 + k1 → ws_X9_doActs_101 post K21 vZ bZ bD wD gF pE qA nJ nY dQ pG oF x1 x2 v_22 x4 x5 jC eO eW dO fJ fY jD nG qO qQ oE uF sG qF jJ
set_option maxHeartbeats 4000000 in
set_option maxRecDepth 100000 in
theorem ks_X9_doActs_99 (C0 : gc cX9_doActs (some .int) 7 RX9 (dC, dI) (tyl cI cC cZ cB cJ) A p s m args meth c) {K21 : Int32 → Int32 → Int32 → Int32 → Int32 → Int32 → Int32 → Int32 → Int32 → Int32 → Int32 → Int32 → Int32 → (Nat → Int32) → (Nat → Int32) → Int32 → Int32 → (Nat → Int32) → Int32 → (Nat → Int32) → Prop} (hK21 : ∀ (x1 : Int32) (x2 : Int32) (x3 : Int32) (x4 : Int32) (x5 : Int32) (jC : Int32) (eO : Int32) (eW : Int32) (dO : Int32) (fJ : Int32) (fY : Int32) (jD : Int32) (nG : Int32) (qO : Nat → Int32) (qQ : Nat → Int32) (oE : Int32) (uF : Int32) (sG : Nat → Int32) (qF : Int32) (jJ : Nat → Int32) (H : Heap) (locs : List Loc) (ls : Array Slot), K21 x1 x2 x3 x4 x5 jC eO eW dO fJ fY jD nG qO qQ oE uF sG qF jJ → va_P (dC, dI) classes (wd_X9_doActs cI cC cZ cB cJ a_x xG xD wY wJ wQ xI xK xJ tW xH tX jE mX pD oO oQ eG uS sW uR qY sY vX uO vQ qT vZ bZ bD bI aI wD gF pE qA nJ nY dQ jC eO eW dO fJ fY jD nG pG qB sH uP pQ mW qO qQ oF oE uF sG qF jJ) H → va_D A (wd_X9_doActs cI cC cZ cB cJ a_x xG xD wY wJ wQ xI xK xJ tW xH tX jE mX pD oO oQ eG uS sW uR qY sY vX uO vQ qT vZ bZ bD bI aI wD gF pE qA nJ nY dQ jC eO eW dO fJ fY jD nG pG qB sH uP pQ mW qO qQ oF oE uF sG qF jJ) → va_S A s.heap H locs → lv_has ls 7 [(0, .ref a_x), (1, .int x1), (2, .int x2), (3, .int x3), (4, .int x4), (5, .int x5)] → W p l e rm_X9_doActs s m args below meth c H locs 0 0 (MQ below (q_X9_doActs dC dI cI cC cZ cB cJ A a_x xG xD wY wJ wQ xI xK xJ tW xH tX jE mX pD oO oQ eG uS sW uR qY sY vX uO vQ qT vZ bZ bD bI aI wD gF pE qA nJ nY dQ pG qB sH uP pQ mW oF post) args s 0 0 A) (F0 m 21 ls [])) : ∀ (x1 x2 x4 x5 k0 k1 jC eO eW dO fJ fY jD nG : Int32) (qO qQ : Nat → Int32) (oE uF : Int32) (sG : Nat → Int32) (qF : Int32) (jJ : Nat → Int32) (H : Heap) (locs : List Loc) (ls : Array Slot), (ws_X9_doActs_99 post K21 vZ bZ bD wD gF pE qA nJ nY dQ pG oF) x1 x2 x4 x5 k0 k1 jC eO eW dO fJ fY jD nG qO qQ oE uF sG qF jJ → va_P (dC, dI) classes (wd_X9_doActs cI cC cZ cB cJ a_x xG xD wY wJ wQ xI xK xJ tW xH tX jE mX pD oO oQ eG uS sW uR qY sY vX uO vQ qT vZ bZ bD bI aI wD gF pE qA nJ nY dQ jC eO eW dO fJ fY jD nG pG qB sH uP pQ mW qO qQ oF oE uF sG qF jJ) H → va_D A (wd_X9_doActs cI cC cZ cB cJ a_x xG xD wY wJ wQ xI xK xJ tW xH tX jE mX pD oO oQ eG uS sW uR qY sY vX uO vQ qT vZ bZ bD bI aI wD gF pE qA nJ nY dQ jC eO eW dO fJ fY jD nG pG qB sH uP pQ mW qO qQ oF oE uF sG qF jJ) → va_S A s.heap H locs → lv_has ls 7 [(0, .ref a_x), (1, .int x1), (2, .int x2), (4, .int x4), (5, .int x5)] → W p l e rm_X9_doActs s m args below meth c H locs 0 0 (MQ below (q_X9_doActs dC dI cI cC cZ cB cJ A a_x xG xD wY wJ wQ xI xK xJ tW xH tX jE mX pD oO oQ eG uS sW uR qY sY vX uO vQ qT vZ bZ bD bI aI wD gF pE qA nJ nY dQ pG qB sH uP pQ mW oF post) args s 0 0 A) (F0 m 99 ls [.int k1, .int k0]) := by
  obtain ⟨hx, hb, hr, hml, hown, hts, hlocks, hA, hK, hN, tL, tM, hZL, hTL, hZM, hTM, hZX⟩ := id C0
  intro x1 x2 x4 x5 k0 k1 jC eO eW dO fJ fY jD nG qO qQ oE uF sG qF jJ H locs ls hp hP hD hS hl
  unfold ws_X9_doActs_99 at hp
  refine lv_iadd hx hb eX9_doActs_91.2.2.2.2.1 ?_
  refine lv_topi (fun v_22 ev_22 => ?_)
  have hp := hp v_22 ev_22
  refine lv_istore_n (lv' := [(3, .int v_22), (0, .ref a_x), (1, .int x1), (2, .int x2), (4, .int x4), (5, .int x5)]) hx hb eX9_doActs_91.2.2.2.2.2.1 rfl hl (by decide) rfl (fun ls hl => ?_)
  exact ks_X9_doActs_101 C0 hK21 x1 x2 v_22 x4 x5 jC eO eW dO fJ fY jD nG qO qQ oE uF sG qF jJ H locs ls hp hP hD hS (lv_sub hl [1, 2, 3, 0, 4, 5] rfl)
noncomputable def ws_X9_doActs_94 (post : Int32 → Int32 → Int32 → Int32 → Int32 → Int32 → Int32 → Int32 → Int32 → (Nat → Int32) → (Nat → Int32) → Int32 → Int32 → (Nat → Int32) → Int32 → (Nat → Int32) → Prop) (K21 : Int32 → Int32 → Int32 → Int32 → Int32 → Int32 → Int32 → Int32 → Int32 → Int32 → Int32 → Int32 → Int32 → (Nat → Int32) → (Nat → Int32) → Int32 → Int32 → (Nat → Int32) → Int32 → (Nat → Int32) → Prop) (vZ : Nat → Int32) (bZ bD : Int32) (wD gF pE qA nJ nY dQ : Nat → Int32) (pG : Int32) (oF : Nat → Int32) (x1 x2 x4 x5 k0 jC eO eW dO fJ fY jD nG : Int32) (qO qQ : Nat → Int32) (oE uF : Int32) (sG : Nat → Int32) (qF : Int32) (jJ : Nat → Int32) : Prop := ws_X9_doActs_99 post K21 vZ bZ bD wD gF pE qA nJ nY dQ pG oF x1 x2 x4 x5 k0 1 jC eO eW dO fJ fY jD nG qO qQ oE uF sG qF jJ
set_option maxHeartbeats 4000000 in
set_option maxRecDepth 100000 in
theorem ks_X9_doActs_94 (C0 : gc cX9_doActs (some .int) 7 RX9 (dC, dI) (tyl cI cC cZ cB cJ) A p s m args meth c) {K21 : Int32 → Int32 → Int32 → Int32 → Int32 → Int32 → Int32 → Int32 → Int32 → Int32 → Int32 → Int32 → Int32 → (Nat → Int32) → (Nat → Int32) → Int32 → Int32 → (Nat → Int32) → Int32 → (Nat → Int32) → Prop} (hK21 : ∀ (x1 : Int32) (x2 : Int32) (x3 : Int32) (x4 : Int32) (x5 : Int32) (jC : Int32) (eO : Int32) (eW : Int32) (dO : Int32) (fJ : Int32) (fY : Int32) (jD : Int32) (nG : Int32) (qO : Nat → Int32) (qQ : Nat → Int32) (oE : Int32) (uF : Int32) (sG : Nat → Int32) (qF : Int32) (jJ : Nat → Int32) (H : Heap) (locs : List Loc) (ls : Array Slot), K21 x1 x2 x3 x4 x5 jC eO eW dO fJ fY jD nG qO qQ oE uF sG qF jJ → va_P (dC, dI) classes (wd_X9_doActs cI cC cZ cB cJ a_x xG xD wY wJ wQ xI xK xJ tW xH tX jE mX pD oO oQ eG uS sW uR qY sY vX uO vQ qT vZ bZ bD bI aI wD gF pE qA nJ nY dQ jC eO eW dO fJ fY jD nG pG qB sH uP pQ mW qO qQ oF oE uF sG qF jJ) H → va_D A (wd_X9_doActs cI cC cZ cB cJ a_x xG xD wY wJ wQ xI xK xJ tW xH tX jE mX pD oO oQ eG uS sW uR qY sY vX uO vQ qT vZ bZ bD bI aI wD gF pE qA nJ nY dQ jC eO eW dO fJ fY jD nG pG qB sH uP pQ mW qO qQ oF oE uF sG qF jJ) → va_S A s.heap H locs → lv_has ls 7 [(0, .ref a_x), (1, .int x1), (2, .int x2), (3, .int x3), (4, .int x4), (5, .int x5)] → W p l e rm_X9_doActs s m args below meth c H locs 0 0 (MQ below (q_X9_doActs dC dI cI cC cZ cB cJ A a_x xG xD wY wJ wQ xI xK xJ tW xH tX jE mX pD oO oQ eG uS sW uR qY sY vX uO vQ qT vZ bZ bD bI aI wD gF pE qA nJ nY dQ pG qB sH uP pQ mW oF post) args s 0 0 A) (F0 m 21 ls [])) : ∀ (x1 x2 x4 x5 k0 jC eO eW dO fJ fY jD nG : Int32) (qO qQ : Nat → Int32) (oE uF : Int32) (sG : Nat → Int32) (qF : Int32) (jJ : Nat → Int32) (H : Heap) (locs : List Loc) (ls : Array Slot), (ws_X9_doActs_94 post K21 vZ bZ bD wD gF pE qA nJ nY dQ pG oF) x1 x2 x4 x5 k0 jC eO eW dO fJ fY jD nG qO qQ oE uF sG qF jJ → va_P (dC, dI) classes (wd_X9_doActs cI cC cZ cB cJ a_x xG xD wY wJ wQ xI xK xJ tW xH tX jE mX pD oO oQ eG uS sW uR qY sY vX uO vQ qT vZ bZ bD bI aI wD gF pE qA nJ nY dQ jC eO eW dO fJ fY jD nG pG qB sH uP pQ mW qO qQ oF oE uF sG qF jJ) H → va_D A (wd_X9_doActs cI cC cZ cB cJ a_x xG xD wY wJ wQ xI xK xJ tW xH tX jE mX pD oO oQ eG uS sW uR qY sY vX uO vQ qT vZ bZ bD bI aI wD gF pE qA nJ nY dQ jC eO eW dO fJ fY jD nG pG qB sH uP pQ mW qO qQ oF oE uF sG qF jJ) → va_S A s.heap H locs → lv_has ls 7 [(0, .ref a_x), (1, .int x1), (2, .int x2), (4, .int x4), (5, .int x5)] → W p l e rm_X9_doActs s m args below meth c H locs 0 0 (MQ below (q_X9_doActs dC dI cI cC cZ cB cJ A a_x xG xD wY wJ wQ xI xK xJ tW xH tX jE mX pD oO oQ eG uS sW uR qY sY vX uO vQ qT vZ bZ bD bI aI wD gF pE qA nJ nY dQ pG qB sH uP pQ mW oF post) args s 0 0 A) (F0 m 94 ls [.int k0]) := by
  obtain ⟨hx, hb, hr, hml, hown, hts, hlocks, hA, hK, hN, tL, tM, hZL, hTL, hZM, hTM, hZX⟩ := id C0
  intro x1 x2 x4 x5 k0 jC eO eW dO fJ fY jD nG qO qQ oE uF sG qF jJ H locs ls hp hP hD hS hl
  unfold ws_X9_doActs_94 at hp
  refine lv_iconst (v := 1) hx hb eX9_doActs_91.2.1 ic_1 ?_
  refine lv_goto (tgt := 99) hx hb eX9_doActs_91.2.2.1 (by decide) ?_
  exact ks_X9_doActs_99 C0 hK21 x1 x2 x4 x5 k0 1 jC eO eW dO fJ fY jD nG qO qQ oE uF sG qF jJ H locs ls hp hP hD hS (lv_sub hl [0, 1, 2, 3, 4] rfl)
noncomputable def ws_X9_doActs_21 (post : Int32 → Int32 → Int32 → Int32 → Int32 → Int32 → Int32 → Int32 → Int32 → (Nat → Int32) → (Nat → Int32) → Int32 → Int32 → (Nat → Int32) → Int32 → (Nat → Int32) → Prop) (next : Int32 → Int32 → Int32 → Int32 → Int32 → Int32 → Int32 → Int32 → Int32 → Int32 → Int32 → Int32 → Int32 → (Nat → Int32) → (Nat → Int32) → Int32 → Int32 → (Nat → Int32) → Int32 → (Nat → Int32) → Prop) (vZ : Nat → Int32) (bZ bD : Int32) (wD gF pE qA nJ nY dQ : Nat → Int32) (pG : Int32) (oF : Nat → Int32) (x1 x2 x3 x4 x5 jC eO eW dO fJ fY jD nG : Int32) (qO qQ : Nat → Int32) (oE uF : Int32) (sG : Nat → Int32) (qF : Int32) (jJ : Nat → Int32) : Prop := (x1 ≤ x5 → ws_X9_doActs_107 post vZ bZ bD wD gF pE qA nJ nY dQ pG oF x2 x3 x4 jC eO eW dO fJ fY jD nG qO qQ oE uF sG qF jJ) ∧ (¬ x1 ≤ x5 → (30 ≤ x5 → ws_X9_doActs_107 post vZ bZ bD wD gF pE qA nJ nY dQ pG oF x2 x3 x4 jC eO eW dO fJ fY jD nG qO qQ oE uF sG qF jJ) ∧ (¬ 30 ≤ x5 → (¬ x4 = 0 → ws_X9_doActs_107 post vZ bZ bD wD gF pE qA nJ nY dQ pG oF x2 x3 x4 jC eO eW dO fJ fY jD nG qO qQ oE uF sG qF jJ) ∧ (x4 = 0 → vp_in x5 30 ∧ (∀ v_6 : Int32, v_6 = vZ x5.toNatClampNeg → ∀ v_7 : Int32, v_7 = v_6 / 100 → vp_in x5 30 ∧ (∀ v_8 : Int32, v_8 = vZ x5.toNatClampNeg → ∀ v_9 : Int32, v_9 = v_8 - v_8 / 100 * 100 → wp_X9_doAct (fun r_10 aDy aCl aCm aBY aCn aCo aDz aDA aDB aDC => (0 ≤ r_10 → ∀ v_21 : Int32, v_21 = x2 + 1 → (v_7 = 112 → ws_X9_doActs_94 post next vZ bZ bD wD gF pE qA nJ nY dQ pG oF x1 v_21 x4 x5 x3 aDy aCl aCm aBY aCn aCo aDz aDA aDB aDC oE uF sG qF jJ) ∧ (¬ v_7 = 112 → (¬ v_7 = 104 → ws_X9_doActs_99 post next vZ bZ bD wD gF pE qA nJ nY dQ pG oF x1 v_21 x4 x5 x3 0 aDy aCl aCm aBY aCn aCo aDz aDA aDB aDC oE uF sG qF jJ) ∧ (v_7 = 104 → ws_X9_doActs_94 post next vZ bZ bD wD gF pE qA nJ nY dQ pG oF x1 v_21 x4 x5 x3 aDy aCl aCm aBY aCn aCo aDz aDA aDB aDC oE uF sG qF jJ))) ∧ (¬ 0 ≤ r_10 → ws_X9_doActs_101 post next vZ bZ bD wD gF pE qA nJ nY dQ pG oF x1 x2 x3 1 x5 aDy aCl aCm aBY aCn aCo aDz aDA aDB aDC oE uF sG qF jJ)) v_7 v_9 bZ bD wD gF pE qA nJ nY dQ jC eO eW dO fJ fY jD nG pG qO qQ oF)))))
noncomputable def wb_X9_doActs_21 (post : Int32 → Int32 → Int32 → Int32 → Int32 → Int32 → Int32 → Int32 → Int32 → (Nat → Int32) → (Nat → Int32) → Int32 → Int32 → (Nat → Int32) → Int32 → (Nat → Int32) → Prop) (vZ : Nat → Int32) (bZ bD : Int32) (wD gF pE qA nJ nY dQ : Nat → Int32) (pG : Int32) (oF : Nat → Int32) : Nat → Int32 → Int32 → Int32 → Int32 → Int32 → Int32 → Int32 → Int32 → Int32 → Int32 → Int32 → Int32 → Int32 → (Nat → Int32) → (Nat → Int32) → Int32 → Int32 → (Nat → Int32) → Int32 → (Nat → Int32) → Prop := fun n => Nat.rec (motive := fun _ => Int32 → Int32 → Int32 → Int32 → Int32 → Int32 → Int32 → Int32 → Int32 → Int32 → Int32 → Int32 → Int32 → (Nat → Int32) → (Nat → Int32) → Int32 → Int32 → (Nat → Int32) → Int32 → (Nat → Int32) → Prop) (fun _ _ _ _ _ _ _ _ _ _ _ _ _ _ _ _ _ _ _ _ => False) (fun _ ih => ws_X9_doActs_21 post ih vZ bZ bD wD gF pE qA nJ nY dQ pG oF) n
set_option maxHeartbeats 4000000 in
set_option maxRecDepth 100000 in
theorem ks_X9_doActs_21 (C0 : gc cX9_doActs (some .int) 7 RX9 (dC, dI) (tyl cI cC cZ cB cJ) A p s m args meth c) {next : Int32 → Int32 → Int32 → Int32 → Int32 → Int32 → Int32 → Int32 → Int32 → Int32 → Int32 → Int32 → Int32 → (Nat → Int32) → (Nat → Int32) → Int32 → Int32 → (Nat → Int32) → Int32 → (Nat → Int32) → Prop} (hKn : ∀ (x1 : Int32) (x2 : Int32) (x3 : Int32) (x4 : Int32) (x5 : Int32) (jC : Int32) (eO : Int32) (eW : Int32) (dO : Int32) (fJ : Int32) (fY : Int32) (jD : Int32) (nG : Int32) (qO : Nat → Int32) (qQ : Nat → Int32) (oE : Int32) (uF : Int32) (sG : Nat → Int32) (qF : Int32) (jJ : Nat → Int32) (H : Heap) (locs : List Loc) (ls : Array Slot), next x1 x2 x3 x4 x5 jC eO eW dO fJ fY jD nG qO qQ oE uF sG qF jJ → va_P (dC, dI) classes (wd_X9_doActs cI cC cZ cB cJ a_x xG xD wY wJ wQ xI xK xJ tW xH tX jE mX pD oO oQ eG uS sW uR qY sY vX uO vQ qT vZ bZ bD bI aI wD gF pE qA nJ nY dQ jC eO eW dO fJ fY jD nG pG qB sH uP pQ mW qO qQ oF oE uF sG qF jJ) H → va_D A (wd_X9_doActs cI cC cZ cB cJ a_x xG xD wY wJ wQ xI xK xJ tW xH tX jE mX pD oO oQ eG uS sW uR qY sY vX uO vQ qT vZ bZ bD bI aI wD gF pE qA nJ nY dQ jC eO eW dO fJ fY jD nG pG qB sH uP pQ mW qO qQ oF oE uF sG qF jJ) → va_S A s.heap H locs → lv_has ls 7 [(0, .ref a_x), (1, .int x1), (2, .int x2), (3, .int x3), (4, .int x4), (5, .int x5)] → W p l e rm_X9_doActs s m args below meth c H locs 0 0 (MQ below (q_X9_doActs dC dI cI cC cZ cB cJ A a_x xG xD wY wJ wQ xI xK xJ tW xH tX jE mX pD oO oQ eG uS sW uR qY sY vX uO vQ qT vZ bZ bD bI aI wD gF pE qA nJ nY dQ pG qB sH uP pQ mW oF post) args s 0 0 A) (F0 m 21 ls [])) : ∀ (x1 x2 x3 x4 x5 jC eO eW dO fJ fY jD nG : Int32) (qO qQ : Nat → Int32) (oE uF : Int32) (sG : Nat → Int32) (qF : Int32) (jJ : Nat → Int32) (H : Heap) (locs : List Loc) (ls : Array Slot), (ws_X9_doActs_21 post next vZ bZ bD wD gF pE qA nJ nY dQ pG oF) x1 x2 x3 x4 x5 jC eO eW dO fJ fY jD nG qO qQ oE uF sG qF jJ → va_P (dC, dI) classes (wd_X9_doActs cI cC cZ cB cJ a_x xG xD wY wJ wQ xI xK xJ tW xH tX jE mX pD oO oQ eG uS sW uR qY sY vX uO vQ qT vZ bZ bD bI aI wD gF pE qA nJ nY dQ jC eO eW dO fJ fY jD nG pG qB sH uP pQ mW qO qQ oF oE uF sG qF jJ) H → va_D A (wd_X9_doActs cI cC cZ cB cJ a_x xG xD wY wJ wQ xI xK xJ tW xH tX jE mX pD oO oQ eG uS sW uR qY sY vX uO vQ qT vZ bZ bD bI aI wD gF pE qA nJ nY dQ jC eO eW dO fJ fY jD nG pG qB sH uP pQ mW qO qQ oF oE uF sG qF jJ) → va_S A s.heap H locs → lv_has ls 7 [(0, .ref a_x), (1, .int x1), (2, .int x2), (3, .int x3), (4, .int x4), (5, .int x5)] → W p l e rm_X9_doActs s m args below meth c H locs 0 0 (MQ below (q_X9_doActs dC dI cI cC cZ cB cJ A a_x xG xD wY wJ wQ xI xK xJ tW xH tX jE mX pD oO oQ eG uS sW uR qY sY vX uO vQ qT vZ bZ bD bI aI wD gF pE qA nJ nY dQ pG qB sH uP pQ mW oF post) args s 0 0 A) (F0 m 21 ls []) := by
  obtain ⟨hx, hb, hr, hml, hown, hts, hlocks, hA, hK, hN, tL, tM, hZL, hTL, hZM, hTM, hZX⟩ := id C0
  intro x1 x2 x3 x4 x5 jC eO eW dO fJ fY jD nG qO qQ oE uF sG qF jJ H locs ls hp hP hD hS hl
  unfold ws_X9_doActs_21 at hp
  refine lv_iload hx hb eX9_doActs_0.2.2.2.2.2.2.2.2.2.2.2.2.2.1 (lv_at hl 5 rfl) ?_
  refine lv_iload_n hx hb eX9_doActs_0.2.2.2.2.2.2.2.2.2.2.2.2.2.2.1 rfl (lv_at hl 1 rfl) ?_
  refine lv_icmp_ge (tgt := 107) hx hb eX9_doActs_0.2.2.2.2.2.2.2.2.2.2.2.2.2.2.2 (by decide) (fun hc => ?_) (fun hc => ?_)
  · have hp := hp.1 hc
    exact ks_X9_doActs_107 C0 x2 x3 x4 jC eO eW dO fJ fY jD nG qO qQ oE uF sG qF jJ H locs ls hp hP hD hS (lv_sub hl [0, 2, 3, 4] rfl)
  · have hp := hp.2 hc
    refine lv_iload hx hb eX9_doActs_27.1 (lv_at hl 5 rfl) ?_
    refine lv_bipush (v := 30) hx hb eX9_doActs_27.2.1 bp_30 ?_
    refine lv_icmp_ge (tgt := 107) hx hb eX9_doActs_27.2.2.1 (by decide) (fun hc => ?_) (fun hc => ?_)
    · have hp := hp.1 hc
      exact ks_X9_doActs_107 C0 x2 x3 x4 jC eO eW dO fJ fY jD nG qO qQ oE uF sG qF jJ H locs ls hp hP hD hS (lv_sub hl [0, 2, 3, 4] rfl)
    · have hp := hp.2 hc
      refine lv_iload hx hb eX9_doActs_27.2.2.2.1 (lv_at hl 4 rfl) ?_
      refine lv_if_ne (tgt := 107) hx hb eX9_doActs_27.2.2.2.2.1 (by decide) (fun hc => ?_) (fun hc => ?_)
      · have hp := hp.1 hc
        exact ks_X9_doActs_107 C0 x2 x3 x4 jC eO eW dO fJ fY jD nG qO qQ oE uF sG qF jJ H locs ls hp hP hD hS (lv_sub hl [0, 2, 3, 4] rfl)
      · have hp := hp.2 hc
        refine lv_aload_n hx hb eX9_doActs_27.2.2.2.2.2.1 rfl (lv_at hl 0 rfl) ?_
        refine va_get (D := (dC, dI)) (ci := 9) (v := .ref tW) (C := RX9) (T := TX9) (N := 9) hx hb hts i_X9 hown hK hP 0 rfl rfl 8 (Nat.le_of_ble_eq_true rfl) (hts _ q_381) (fun _ h9 => h9) rfl eX9_doActs_27.2.2.2.2.2.2.1 ?_
        refine lv_iload hx hb eX9_doActs_27.2.2.2.2.2.2.2.1 (lv_at hl 5 rfl) ?_
        have hin := hp.1
        have hp := hp.2
        refine va_iald hx hb hK hP 1 0 rfl rfl hin eX9_doActs_27.2.2.2.2.2.2.2.2.1 ?_
        refine lv_topi (fun v_6 ev_6 => ?_)
        have hp := hp v_6 ev_6
        refine lv_bipush (v := 100) hx hb eX9_doActs_27.2.2.2.2.2.2.2.2.2.1 bp_100 ?_
        refine lv_idiv hx hb eX9_doActs_27.2.2.2.2.2.2.2.2.2.2.1 (by decide) ?_
        refine lv_topi (fun v_7 ev_7 => ?_)
        have hp := hp v_7 ev_7
        refine lv_istore (lv' := [(6, .int v_7), (0, .ref a_x), (1, .int x1), (2, .int x2), (3, .int x3), (4, .int x4), (5, .int x5)]) hx hb eX9_doActs_27.2.2.2.2.2.2.2.2.2.2.2.1 hl (by decide) rfl (fun ls hl => ?_)
        refine lv_aload_n hx hb eX9_doActs_27.2.2.2.2.2.2.2.2.2.2.2.2.1 rfl (lv_at hl 1 rfl) ?_
        refine lv_iload hx hb eX9_doActs_27.2.2.2.2.2.2.2.2.2.2.2.2.2.1 (lv_at hl 0 rfl) ?_
        refine lv_aload_n hx hb eX9_doActs_27.2.2.2.2.2.2.2.2.2.2.2.2.2.2.1 rfl (lv_at hl 1 rfl) ?_
        refine va_get (D := (dC, dI)) (ci := 9) (v := .ref tW) (C := RX9) (T := TX9) (N := 9) hx hb hts i_X9 hown hK hP 0 rfl rfl 8 (Nat.le_of_ble_eq_true rfl) (hts _ q_381) (fun _ h9 => h9) rfl eX9_doActs_27.2.2.2.2.2.2.2.2.2.2.2.2.2.2.2 ?_
        refine lv_iload hx hb eX9_doActs_58.1 (lv_at hl 6 rfl) ?_
        have hin := hp.1
        have hp := hp.2
        refine va_iald hx hb hK hP 1 0 rfl rfl hin eX9_doActs_58.2.1 ?_
        refine lv_topi (fun v_8 ev_8 => ?_)
        have hp := hp v_8 ev_8
        refine lv_bipush (v := 100) hx hb eX9_doActs_58.2.2.1 bp_100 ?_
        refine lv_irem hx hb eX9_doActs_58.2.2.2.1 (by decide) ?_
        refine lv_topi (fun v_9 ev_9 => ?_)
        have hp := hp v_9 ev_9
        have hm := mgk (wc := (wd_X9_doAct cI cC cZ cB cJ a_x xG xD wY wJ wQ xI xK xJ tW xH tX jE mX pD oO oQ eG uS sW uR qY sY bZ bD bI aI wD gF pE qA nJ nY dQ jC eO eW dO fJ fY jD nG pG qB sH uP pQ mW qO qQ oF)) hP mk_88 20 rfl rfl rfl
        refine g_calli hP hD hS hA (mixT mk_88) (mixF mk_88) hm.1 hm.2 (nd_F _) (dis_g _) (g_runV (As := [.int v_7, .int v_9]) (rest := []) C0 hP hD hS (mixT mk_88) hm.1 (nd_T _) 0 9 rfl rfl (c_X9_doAct l dC dI cI cC cZ cB cJ a_x xG xD wY wJ wQ xI xK xJ tW xH tX jE mX pD oO oQ eG uS sW uR qY sY H.size v_7 v_9 bZ bD bI aI wD gF pE qA nJ nY dQ jC eO eW dO fJ fY jD nG pG qB sH uP pQ mW qO qQ oF _ hp) q_382 q_385 q_383 q_384 q_256 h_X9_doAct rfl rfl ⟨Nat.le_of_ble_eq_true rfl, Nat.le_of_ble_eq_true rfl⟩ rfl rfl hl.1 rfl (lv_room (Nat.le_of_ble_eq_true rfl)) eX9_doActs_58.2.2.2.2.1 ⟨Nat.zero_le _, Nat.zero_le _⟩) (fun r_10 u H locs hp hP hD hS => ?_)
        obtain ⟨aDy, aCl, aCm, aBY, aCn, aCo, aDz, aDA, aDB, aDC⟩ := u
        have hPD := PDm (ws' := (wd_X9_doActs cI cC cZ cB cJ a_x xG xD wY wJ wQ xI xK xJ tW xH tX jE mX pD oO oQ eG uS sW uR qY sY vX uO vQ qT vZ bZ bD bI aI wD gF pE qA nJ nY dQ aDy aCl aCm aBY aCn aCo aDz aDA pG qB sH uP pQ mW aDB aDC oF oE uF sG qF jJ)) hP hD 20 rfl rfl rfl
        have hP := hPD.1
        have hD := hPD.2
        refine lv_if_ge (tgt := 76) hx hb eX9_doActs_58.2.2.2.2.2.1 (by decide) (fun hc => ?_) (fun hc => ?_)
        · have hp := hp.1 hc
          obtain ⟨v_21, ev_21⟩ : ∃ y : Int32, y = x2 + 1 := ⟨_, rfl⟩
          refine lv_iinc (v := v_21) (lv' := [(2, .int v_21), (6, .int v_7), (0, .ref a_x), (1, .int x1), (3, .int x3), (4, .int x4), (5, .int x5)]) hx hb eX9_doActs_58.2.2.2.2.2.2.2.2.2.1 hl (k := 3) rfl (by rw [ev_21]; rfl) (by decide) rfl (fun ls hl => ?_)
          have hp := hp v_21 ev_21
          refine lv_iload_n hx hb eX9_doActs_58.2.2.2.2.2.2.2.2.2.2.1 rfl (lv_at hl 4 rfl) ?_
          refine lv_iload hx hb eX9_doActs_58.2.2.2.2.2.2.2.2.2.2.2.1 (lv_at hl 1 rfl) ?_
          refine lv_bipush (v := 112) hx hb eX9_doActs_58.2.2.2.2.2.2.2.2.2.2.2.2.1 bp_112 ?_
          refine lv_icmp_eq (tgt := 94) hx hb eX9_doActs_58.2.2.2.2.2.2.2.2.2.2.2.2.2.1 (by decide) (fun hc => ?_) (fun hc => ?_)
          · have hp := hp.1 hc
            exact ks_X9_doActs_94 C0 hKn x1 v_21 x4 x5 x3 aDy aCl aCm aBY aCn aCo aDz aDA aDB aDC oE uF sG qF jJ H locs ls hp hP hD hS (lv_sub hl [2, 3, 0, 5, 6] rfl)
          · have hp := hp.2 hc
            refine lv_iload hx hb eX9_doActs_58.2.2.2.2.2.2.2.2.2.2.2.2.2.2.1 (lv_at hl 1 rfl) ?_
            refine lv_bipush (v := 104) hx hb eX9_doActs_58.2.2.2.2.2.2.2.2.2.2.2.2.2.2.2 bp_104 ?_
            refine lv_icmp_ne (tgt := 98) hx hb eX9_doActs_91.1 (by decide) (fun hc => ?_) (fun hc => ?_)
            · have hp := hp.1 hc
              refine lv_iconst (v := 0) hx hb eX9_doActs_91.2.2.2.1 ic_0 ?_
              exact ks_X9_doActs_99 C0 hKn x1 v_21 x4 x5 x3 0 aDy aCl aCm aBY aCn aCo aDz aDA aDB aDC oE uF sG qF jJ H locs ls hp hP hD hS (lv_sub hl [2, 3, 0, 5, 6] rfl)
            · have hp := hp.2 hc
              exact ks_X9_doActs_94 C0 hKn x1 v_21 x4 x5 x3 aDy aCl aCm aBY aCn aCo aDz aDA aDB aDC oE uF sG qF jJ H locs ls hp hP hD hS (lv_sub hl [2, 3, 0, 5, 6] rfl)
        · have hp := hp.2 hc
          refine lv_iconst (v := 1) hx hb eX9_doActs_58.2.2.2.2.2.2.1 ic_1 ?_
          refine lv_istore (lv' := [(4, .int 1), (6, .int v_7), (0, .ref a_x), (1, .int x1), (2, .int x2), (3, .int x3), (5, .int x5)]) hx hb eX9_doActs_58.2.2.2.2.2.2.2.1 hl (by decide) rfl (fun ls hl => ?_)
          refine lv_goto (tgt := 101) hx hb eX9_doActs_58.2.2.2.2.2.2.2.2.1 (by decide) ?_
          exact ks_X9_doActs_101 C0 hKn x1 x2 x3 1 x5 aDy aCl aCm aBY aCn aCo aDz aDA aDB aDC oE uF sG qF jJ H locs ls hp hP hD hS (lv_sub hl [2, 3, 4, 5, 0, 6] rfl)
set_option maxHeartbeats 4000000 in
set_option maxRecDepth 100000 in
theorem kb_X9_doActs_21 (C0 : gc cX9_doActs (some .int) 7 RX9 (dC, dI) (tyl cI cC cZ cB cJ) A p s m args meth c) : ∀ (n : Nat), ∀ (x1 x2 x3 x4 x5 jC eO eW dO fJ fY jD nG : Int32) (qO qQ : Nat → Int32) (oE uF : Int32) (sG : Nat → Int32) (qF : Int32) (jJ : Nat → Int32) (H : Heap) (locs : List Loc) (ls : Array Slot), (wb_X9_doActs_21 post vZ bZ bD wD gF pE qA nJ nY dQ pG oF n) x1 x2 x3 x4 x5 jC eO eW dO fJ fY jD nG qO qQ oE uF sG qF jJ → va_P (dC, dI) classes (wd_X9_doActs cI cC cZ cB cJ a_x xG xD wY wJ wQ xI xK xJ tW xH tX jE mX pD oO oQ eG uS sW uR qY sY vX uO vQ qT vZ bZ bD bI aI wD gF pE qA nJ nY dQ jC eO eW dO fJ fY jD nG pG qB sH uP pQ mW qO qQ oF oE uF sG qF jJ) H → va_D A (wd_X9_doActs cI cC cZ cB cJ a_x xG xD wY wJ wQ xI xK xJ tW xH tX jE mX pD oO oQ eG uS sW uR qY sY vX uO vQ qT vZ bZ bD bI aI wD gF pE qA nJ nY dQ jC eO eW dO fJ fY jD nG pG qB sH uP pQ mW qO qQ oF oE uF sG qF jJ) → va_S A s.heap H locs → lv_has ls 7 [(0, .ref a_x), (1, .int x1), (2, .int x2), (3, .int x3), (4, .int x4), (5, .int x5)] → W p l e rm_X9_doActs s m args below meth c H locs 0 0 (MQ below (q_X9_doActs dC dI cI cC cZ cB cJ A a_x xG xD wY wJ wQ xI xK xJ tW xH tX jE mX pD oO oQ eG uS sW uR qY sY vX uO vQ qT vZ bZ bD bI aI wD gF pE qA nJ nY dQ pG qB sH uP pQ mW oF post) args s 0 0 A) (F0 m 21 ls []) := by
  intro n
  induction n with
  | zero =>
    intro x1 x2 x3 x4 x5 jC eO eW dO fJ fY jD nG qO qQ oE uF sG qF jJ H locs ls hp
    exact False.elim hp
  | succ n ih =>
    intro x1 x2 x3 x4 x5 jC eO eW dO fJ fY jD nG qO qQ oE uF sG qF jJ H locs ls hp
    exact ks_X9_doActs_21 C0 ih x1 x2 x3 x4 x5 jC eO eW dO fJ fY jD nG qO qQ oE uF sG qF jJ H locs ls hp
end S_X9_doActs
noncomputable def wp_X9_doActs (post : Int32 → Int32 → Int32 → Int32 → Int32 → Int32 → Int32 → Int32 → Int32 → (Nat → Int32) → (Nat → Int32) → Int32 → Int32 → (Nat → Int32) → Int32 → (Nat → Int32) → Prop) (p0 : Int32) (vZ : Nat → Int32) (bZ bD : Int32) (wD gF pE qA nJ nY dQ : Nat → Int32) (jC eO eW dO fJ fY jD nG pG : Int32) (qO qQ oF : Nat → Int32) (oE uF : Int32) (sG : Nat → Int32) (qF : Int32) (jJ : Nat → Int32) : Prop := wp_X4_note (fun yP => ∃ n : Nat, wb_X9_doActs_21 post vZ bZ bD wD gF pE qA nJ nY dQ pG oF n p0 0 0 0 0 jC eO eW dO fJ fY jD nG qO qQ oE uF yP qF jJ) jC eO eW dO fJ fY jD nG uF sG
set_option maxHeartbeats 4000000 in
set_option maxRecDepth 100000 in
theorem c_X9_doActs (l : Launch) (dC : Nat → ClassId) (dI : Nat → Nat → Nat) (cI cC cZ cB cJ : ClassId) (a_x xG xD wY wJ wQ xI xK xJ tW xH tX jE mX pD oO oQ eG uS sW uR qY sY vX uO vQ qT sz : Nat) (p0 : Int32) (vZ : Nat → Int32) (bZ bD bI aI : Int32) (wD gF pE qA nJ nY dQ : Nat → Int32) (jC eO eW dO fJ fY jD nG pG qB sH uP pQ mW : Int32) (qO qQ oF : Nat → Int32) (oE uF : Int32) (sG : Nat → Int32) (qF : Int32) (jJ : Nat → Int32) (post : Int32 → Int32 → Int32 → Int32 → Int32 → Int32 → Int32 → Int32 → Int32 → (Nat → Int32) → (Nat → Int32) → Int32 → Int32 → (Nat → Int32) → Int32 → (Nat → Int32) → Prop) (hw : wp_X9_doActs post p0 vZ bZ bD wD gF pE qA nJ nY dQ jC eO eW dO fJ fY jD nG pG qO qQ oF oE uF sG qF jJ) : Met l yX9_doActs (gw yX9_doActs cX9_doActs 7 (some .int)) rm_X9_doActs (va_Pc [.ref a_x, .int p0] (gPre (dC, dI) (tyl cI cC cZ cB cJ) (wd_X9_doActs cI cC cZ cB cJ a_x xG xD wY wJ wQ xI xK xJ tW xH tX jE mX pD oO oQ eG uS sW uR qY sY vX uO vQ qT vZ bZ bD bI aI wD gF pE qA nJ nY dQ jC eO eW dO fJ fY jD nG pG qB sH uP pQ mW qO qQ oF oE uF sG qF jJ) sz)) (q_X9_doActs dC dI cI cC cZ cB cJ (va_A (wd_X9_doActs cI cC cZ cB cJ a_x xG xD wY wJ wQ xI xK xJ tW xH tX jE mX pD oO oQ eG uS sW uR qY sY vX uO vQ qT vZ bZ bD bI aI wD gF pE qA nJ nY dQ jC eO eW dO fJ fY jD nG pG qB sH uP pQ mW qO qQ oF oE uF sG qF jJ) sz) a_x xG xD wY wJ wQ xI xK xJ tW xH tX jE mX pD oO oQ eG uS sW uR qY sY vX uO vQ qT vZ bZ bD bI aI wD gF pE qA nJ nY dQ pG qB sH uP pQ mW oF post) 0 0 (va_A (wd_X9_doActs cI cC cZ cB cJ a_x xG xD wY wJ wQ xI xK xJ tW xH tX jE mX pD oO oQ eG uS sW uR qY sY vX uO vQ qT vZ bZ bD bI aI wD gF pE qA nJ nY dQ jC eO eW dO fJ fY jD nG pG qB sH uP pQ mW qO qQ oF oE uF sG qF jJ) sz) := by
  refine g_enter (own := RX9) (dC, dI) (tyl cI cC cZ cB cJ) (wd_X9_doActs cI cC cZ cB cJ a_x xG xD wY wJ wQ xI xK xJ tW xH tX jE mX pD oO oQ eG uS sW uR qY sY vX uO vQ qT vZ bZ bD bI aI wD gF pE qA nJ nY dQ jC eO eW dO fJ fY jD nG pG qB sH uP pQ mW qO qQ oF oE uF sG qF jJ) sz [.ref a_x, .int p0] (fun A => q_X9_doActs dC dI cI cC cZ cB cJ A a_x xG xD wY wJ wQ xI xK xJ tW xH tX jE mX pD oO oQ eG uS sW uR qY sY vX uO vQ qT vZ bZ bD bI aI wD gF pE qA nJ nY dQ pG qB sH uP pQ mW oF post) pn_RX9 rfl (Nat.le_of_ble_eq_true rfl) ?_
  intro p e s m args below meth c A H locs ls C0 hP hD hS hl
  have hl : lv_has ls 7 [(0, .ref a_x), (1, .int p0)] := hl
  obtain ⟨hx, hb, hr, hml, hown, hts, hlocks, hA, hK, hN, tL, tM, hZL, hTL, hZM, hTM, hZX⟩ := id C0
  have hp := hw
  unfold wp_X9_doActs at hp
  refine lv_aload_n hx hb eX9_doActs_0.1 rfl (lv_at hl 0 rfl) ?_
  refine va_get (D := (dC, dI)) (ci := 9) (v := .ref xI) (C := RX9) (T := TX9) (N := 9) hx hb hts i_X9 hown hK hP 0 rfl rfl 5 (Nat.le_of_ble_eq_true rfl) (hts _ q_91) (fun _ h9 => h9) rfl eX9_doActs_0.2.1 ?_
  refine lv_aload_n hx hb eX9_doActs_0.2.2.1 rfl (lv_at hl 0 rfl) ?_
  refine va_get (D := (dC, dI)) (ci := 9) (v := .ref wQ) (C := RX9) (T := TX9) (N := 9) hx hb hts i_X9 hown hK hP 0 rfl rfl 4 (Nat.le_of_ble_eq_true rfl) (hts _ q_179) (fun _ h9 => h9) rfl eX9_doActs_0.2.2.2.1 ?_
  have hm := mgk (wc := (wd_X4_note cI cC cZ cB cJ wQ xI vX uO vQ jC eO eW dO fJ fY jD nG oE uF sG)) hP mk_89 20 rfl rfl rfl
  refine g_callv hP hD hS hA (mixT mk_89) (mixF mk_89) hm.1 hm.2 (nd_F _) (dis_g _) (g_runV (As := [.ref wQ]) (rest := []) C0 hP hD hS (mixT mk_89) hm.1 (nd_T _) 16 4 rfl rfl (c_X4_note l dC dI cI cC cZ cB cJ wQ xI vX uO vQ H.size jC eO eW dO fJ fY jD nG oE uF sG _ hp) q_247 q_250 q_248 q_249 q_93 h_X4_note rfl rfl ⟨Nat.le_of_ble_eq_true rfl, Nat.le_of_ble_eq_true rfl⟩ rfl rfl hl.1 rfl (lv_room (Nat.le_of_ble_eq_true rfl)) eX9_doActs_0.2.2.2.2.1 ⟨Nat.zero_le _, Nat.zero_le _⟩) (fun u H locs hp hP hD hS => ?_)
  obtain ⟨yP, rfl⟩ : ∃ z, z = u := ⟨_, rfl⟩
  have hPD := PDm (ws' := (wd_X9_doActs cI cC cZ cB cJ a_x xG xD wY wJ wQ xI xK xJ tW xH tX jE mX pD oO oQ eG uS sW uR qY sY vX uO vQ qT vZ bZ bD bI aI wD gF pE qA nJ nY dQ jC eO eW dO fJ fY jD nG pG qB sH uP pQ mW qO qQ oF oE uF yP qF jJ)) hP hD 20 rfl rfl rfl
  have hP := hPD.1
  have hD := hPD.2
  refine lv_iconst (v := 0) hx hb eX9_doActs_0.2.2.2.2.2.1 ic_0 ?_
  refine lv_istore_n (lv' := [(2, .int 0), (0, .ref a_x), (1, .int p0)]) hx hb eX9_doActs_0.2.2.2.2.2.2.1 rfl hl (by decide) rfl (fun ls hl => ?_)
  refine lv_iconst (v := 0) hx hb eX9_doActs_0.2.2.2.2.2.2.2.1 ic_0 ?_
  refine lv_istore_n (lv' := [(3, .int 0), (2, .int 0), (0, .ref a_x), (1, .int p0)]) hx hb eX9_doActs_0.2.2.2.2.2.2.2.2.1 rfl hl (by decide) rfl (fun ls hl => ?_)
  refine lv_iconst (v := 0) hx hb eX9_doActs_0.2.2.2.2.2.2.2.2.2.1 ic_0 ?_
  refine lv_istore (lv' := [(4, .int 0), (3, .int 0), (2, .int 0), (0, .ref a_x), (1, .int p0)]) hx hb eX9_doActs_0.2.2.2.2.2.2.2.2.2.2.1 hl (by decide) rfl (fun ls hl => ?_)
  refine lv_iconst (v := 0) hx hb eX9_doActs_0.2.2.2.2.2.2.2.2.2.2.2.1 ic_0 ?_
  refine lv_istore (lv' := [(5, .int 0), (4, .int 0), (3, .int 0), (2, .int 0), (0, .ref a_x), (1, .int p0)]) hx hb eX9_doActs_0.2.2.2.2.2.2.2.2.2.2.2.2.1 hl (by decide) rfl (fun ls hl => ?_)
  obtain ⟨n9, hp⟩ := hp
  exact kb_X9_doActs_21 C0 n9 p0 0 0 0 0 jC eO eW dO fJ fY jD nG qO qQ oE uF yP qF jJ H locs ls hp hP hD hS (lv_sub hl [4, 5, 3, 2, 1, 0] rfl)
noncomputable abbrev wd_X9_readAct (cI cC cZ cB cJ : ClassId) (a_x xG xD wY wJ wQ xI xK xJ tW uT : Nat) (qI qJ rY : Int32) (qM : Nat → Int32) : va_W := [(a_x, .inr (9, [.ref xG, .ref xD, .ref wY, .ref wJ, .ref wQ, .ref xI, .ref xK, .ref xJ, .ref tW])), (xG, .inr (8, [.ref uT, .int qI, .int qJ, .int rY])), (uT, .inl (cC, 80, .inl qM))]
noncomputable abbrev q_X9_readAct (dC : Nat → ClassId) (dI : Nat → Nat → Nat) (cI cC cZ cB cJ : ClassId) (A : Nat → Prop) (a_x xG xD wY wJ wQ xI xK xJ tW uT : Nat) (qI rY : Int32) (qM : Nat → Int32) (post : Int32 → Int32 → Prop) : Array Value → State → Outcome → State → Prop := va_Qi (fun (r u : Int32) => post r u) (fun u t => gB (dC, dI) (tyl cI cC cZ cB cJ) A (wd_X9_readAct cI cC cZ cB cJ a_x xG xD wY wJ wQ xI xK xJ tW uT qI u rY qM) t) A
noncomputable abbrev rm_X9_readAct : Room := { frames := 2, cells := 0, slots := 0, locals := 45 }
section S_X9_readAct
variable {p : Program} {l : Launch} {e : Env} {s : State} {m : MethodId} {args : Array Value} {below : List Frame} {meth : Method} {c : Code} {dC : Nat → ClassId} {dI : Nat → Nat → Nat} {cI cC cZ cB cJ : ClassId} {A : Nat → Prop} {a_x xG xD wY wJ wQ xI xK xJ tW uT : Nat} {qI rY : Int32} {qM : Nat → Int32} {post : Int32 → Int32 → Prop}
noncomputable def ws_X9_readAct_143 (post : Int32 → Int32 → Prop) (rY : Int32) (qM : Nat → Int32) (x1 x2 qJ : Int32) : Prop := wp_X8_skip (fun xO => (¬ x2 = 0 → wp_X8_readNumber (fun r_3 xU => (¬ r_3 = (-1) → ∀ v_5 : Int32, v_5 = x1 * 100 → post (v_5 + r_3) xU) ∧ (r_3 = (-1) → post (-1) xU)) x2 xO rY qM) ∧ (x2 = 0 → post (x1 * 100) xO)) qJ rY
set_option maxHeartbeats 4000000 in
set_option maxRecDepth 100000 in
theorem ks_X9_readAct_143 (C0 : gc cX9_readAct (some .int) 4 RX9 (dC, dI) (tyl cI cC cZ cB cJ) A p s m args meth c) : ∀ (x1 x2 qJ : Int32) (H : Heap) (locs : List Loc) (ls : Array Slot), (ws_X9_readAct_143 post rY qM) x1 x2 qJ → va_P (dC, dI) classes (wd_X9_readAct cI cC cZ cB cJ a_x xG xD wY wJ wQ xI xK xJ tW uT qI qJ rY qM) H → va_D A (wd_X9_readAct cI cC cZ cB cJ a_x xG xD wY wJ wQ xI xK xJ tW uT qI qJ rY qM) → va_S A s.heap H locs → lv_has ls 4 [(0, .ref a_x), (1, .int x1), (2, .int x2)] → W p l e rm_X9_readAct s m args below meth c H locs 0 0 (MQ below (q_X9_readAct dC dI cI cC cZ cB cJ A a_x xG xD wY wJ wQ xI xK xJ tW uT qI rY qM post) args s 0 0 A) (F0 m 143 ls []) := by
  obtain ⟨hx, hb, hr, hml, hown, hts, hlocks, hA, hK, hN, tL, tM, hZL, hTL, hZM, hTM, hZX⟩ := id C0
  intro x1 x2 qJ H locs ls hp hP hD hS hl
  unfold ws_X9_readAct_143 at hp
  refine lv_aload_n hx hb eX9_readAct_142.2.1 rfl (lv_at hl 0 rfl) ?_
  refine va_get (D := (dC, dI)) (ci := 9) (v := .ref xG) (C := RX9) (T := TX9) (N := 9) hx hb hts i_X9 hown hK hP 0 rfl rfl 0 (Nat.le_of_ble_eq_true rfl) (hts _ q_3) (fun _ h9 => h9) rfl eX9_readAct_142.2.2.1 ?_
  have hm := mgk (wc := (wd_X8_skip cI cC cZ cB cJ xG uT qI qJ rY)) hP mk_31 3 rfl rfl rfl
  refine g_callv hP hD hS hA (mixT mk_31) (mixF mk_31) hm.1 hm.2 (nd_F _) (dis_g _) (g_runV (As := []) (rest := []) C0 hP hD hS (mixT mk_31) hm.1 (nd_T _) 1 8 rfl rfl (c_X8_skip l dC dI cI cC cZ cB cJ xG uT H.size qI qJ rY _ hp) q_29 q_387 q_30 q_31 q_5 h_X8_skip rfl rfl ⟨Nat.le_of_ble_eq_true rfl, Nat.le_of_ble_eq_true rfl⟩ rfl rfl hl.1 rfl (lv_room (Nat.le_of_ble_eq_true rfl)) eX9_readAct_142.2.2.2.1 ⟨Nat.zero_le _, Nat.zero_le _⟩) (fun u H locs hp hP hD hS => ?_)
  obtain ⟨xO, rfl⟩ : ∃ z, z = u := ⟨_, rfl⟩
  have hPD := PDm (ws' := (wd_X9_readAct cI cC cZ cB cJ a_x xG xD wY wJ wQ xI xK xJ tW uT qI xO rY qM)) hP hD 3 rfl rfl rfl
  have hP := hPD.1
  have hD := hPD.2
  refine lv_iload_n hx hb eX9_readAct_142.2.2.2.2.1 rfl (lv_at hl 2 rfl) ?_
  refine lv_if_ne (tgt := 159) hx hb eX9_readAct_142.2.2.2.2.2.1 (by decide) (fun hc => ?_) (fun hc => ?_)
  · have hp := hp.1 hc
    refine lv_aload_n hx hb eX9_readAct_142.2.2.2.2.2.2.2.2.2.2.1 rfl (lv_at hl 0 rfl) ?_
    refine va_get (D := (dC, dI)) (ci := 9) (v := .ref xG) (C := RX9) (T := TX9) (N := 9) hx hb hts i_X9 hown hK hP 0 rfl rfl 0 (Nat.le_of_ble_eq_true rfl) (hts _ q_3) (fun _ h9 => h9) rfl eX9_readAct_142.2.2.2.2.2.2.2.2.2.2.2.1 ?_
    refine lv_iload_n hx hb eX9_readAct_142.2.2.2.2.2.2.2.2.2.2.2.2.1 rfl (lv_at hl 2 rfl) ?_
    have hm := mgk (wc := (wd_X8_readNumber cI cC cZ cB cJ xG uT qI xO rY qM)) hP mk_0 3 rfl rfl rfl
    refine g_calli hP hD hS hA (mixT mk_0) (mixF mk_0) hm.1 hm.2 (nd_F _) (dis_g _) (g_runV (As := [.int x2]) (rest := []) C0 hP hD hS (mixT mk_0) hm.1 (nd_T _) 1 8 rfl rfl (c_X8_readNumber l dC dI cI cC cZ cB cJ xG uT H.size x2 qI xO rY qM _ hp) q_37 q_388 q_38 q_39 q_5 h_X8_readNumber rfl rfl ⟨Nat.le_of_ble_eq_true rfl, Nat.le_of_ble_eq_true rfl⟩ rfl rfl hl.1 rfl (lv_room (Nat.le_of_ble_eq_true rfl)) eX9_readAct_142.2.2.2.2.2.2.2.2.2.2.2.2.2.1 ⟨Nat.zero_le _, Nat.zero_le _⟩) (fun r_3 u H locs hp hP hD hS => ?_)
    obtain ⟨xU, rfl⟩ : ∃ z, z = u := ⟨_, rfl⟩
    have hPD := PDm (ws' := (wd_X9_readAct cI cC cZ cB cJ a_x xG xD wY wJ wQ xI xK xJ tW uT qI xU rY qM)) hP hD 3 rfl rfl rfl
    have hP := hPD.1
    have hD := hPD.2
    refine lv_istore_n (lv' := [(3, .int r_3), (0, .ref a_x), (1, .int x1), (2, .int x2)]) hx hb eX9_readAct_142.2.2.2.2.2.2.2.2.2.2.2.2.2.2.1 rfl hl (by decide) rfl (fun ls hl => ?_)
    refine lv_iload_n hx hb eX9_readAct_142.2.2.2.2.2.2.2.2.2.2.2.2.2.2.2 rfl (lv_at hl 0 rfl) ?_
    refine lv_iconst (v := (-1)) hx hb eX9_readAct_169.1 ic_m1 ?_
    refine lv_icmp_ne (tgt := 177) hx hb eX9_readAct_169.2.1 (by decide) (fun hc => ?_) (fun hc => ?_)
    · have hp := hp.1 hc
      refine lv_iload_n hx hb eX9_readAct_169.2.2.2.2.1 rfl (lv_at hl 2 rfl) ?_
      refine lv_bipush (v := 100) hx hb eX9_readAct_169.2.2.2.2.2.1 bp_100 ?_
      refine lv_imul hx hb eX9_readAct_169.2.2.2.2.2.2.1 ?_
      refine lv_topi (fun v_5 ev_5 => ?_)
      have hp := hp v_5 ev_5
      refine lv_iload_n hx hb eX9_readAct_169.2.2.2.2.2.2.2.1 rfl (lv_at hl 0 rfl) ?_
      refine lv_iadd hx hb eX9_readAct_169.2.2.2.2.2.2.2.2.1 ?_
      exact W.iret (v := v_5 + r_3) hx hb hr (fun t ht hW => ⟨⟨v_5 + r_3, xU, rfl, hp, by rw [ht]; exact hP, va_K.moved hW.alike hK, hD⟩, hS.F ht⟩) hS.2.2 eX9_readAct_169.2.2.2.2.2.2.2.2.2
    · have hp := hp.2 hc
      refine lv_iconst (v := (-1)) hx hb eX9_readAct_169.2.2.1 ic_m1 ?_
      refine lv_goto (tgt := 183) hx hb eX9_readAct_169.2.2.2.1 (by decide) ?_
      exact W.iret (v := (-1)) hx hb hr (fun t ht hW => ⟨⟨(-1), xU, rfl, hp, by rw [ht]; exact hP, va_K.moved hW.alike hK, hD⟩, hS.F ht⟩) hS.2.2 eX9_readAct_169.2.2.2.2.2.2.2.2.2
  · have hp := hp.2 hc
    refine lv_iload_n hx hb eX9_readAct_142.2.2.2.2.2.2.1 rfl (lv_at hl 1 rfl) ?_
    refine lv_bipush (v := 100) hx hb eX9_readAct_142.2.2.2.2.2.2.2.1 bp_100 ?_
    refine lv_imul hx hb eX9_readAct_142.2.2.2.2.2.2.2.2.1 ?_
    exact W.iret (v := x1 * 100) hx hb hr (fun t ht hW => ⟨⟨x1 * 100, xO, rfl, hp, by rw [ht]; exact hP, va_K.moved hW.alike hK, hD⟩, hS.F ht⟩) hS.2.2 eX9_readAct_142.2.2.2.2.2.2.2.2.2.1
noncomputable def ws_X9_readAct_138 (post : Int32 → Int32 → Prop) (rY : Int32) (qM : Nat → Int32) (x1 x2 qJ : Int32) : Prop := ws_X9_readAct_143 post rY qM x1 x2 qJ
set_option maxHeartbeats 4000000 in
set_option maxRecDepth 100000 in
theorem ks_X9_readAct_138 (C0 : gc cX9_readAct (some .int) 4 RX9 (dC, dI) (tyl cI cC cZ cB cJ) A p s m args meth c) : ∀ (x1 x2 qJ : Int32) (H : Heap) (locs : List Loc) (ls : Array Slot), (ws_X9_readAct_138 post rY qM) x1 x2 qJ → va_P (dC, dI) classes (wd_X9_readAct cI cC cZ cB cJ a_x xG xD wY wJ wQ xI xK xJ tW uT qI qJ rY qM) H → va_D A (wd_X9_readAct cI cC cZ cB cJ a_x xG xD wY wJ wQ xI xK xJ tW uT qI qJ rY qM) → va_S A s.heap H locs → lv_has ls 4 [(0, .ref a_x), (1, .int x1), (2, .int x2)] → W p l e rm_X9_readAct s m args below meth c H locs 0 0 (MQ below (q_X9_readAct dC dI cI cC cZ cB cJ A a_x xG xD wY wJ wQ xI xK xJ tW uT qI rY qM post) args s 0 0 A) (F0 m 138 ls []) := by
  obtain ⟨hx, hb, hr, hml, hown, hts, hlocks, hA, hK, hN, tL, tM, hZL, hTL, hZM, hTM, hZX⟩ := id C0
  intro x1 x2 qJ H locs ls hp hP hD hS hl
  unfold ws_X9_readAct_138 at hp
  refine lv_goto (tgt := 143) hx hb eX9_readAct_0.2.2.2.2.2.2.2.2.2.2.2.2.2.2.1 (by decide) ?_
  exact ks_X9_readAct_143 C0 x1 x2 qJ H locs ls hp hP hD hS (lv_sub hl [0, 1, 2] rfl)
noncomputable def ws_X9_readAct_133 (post : Int32 → Int32 → Prop) (rY : Int32) (qM : Nat → Int32) (x1 qJ : Int32) : Prop := ws_X9_readAct_143 post rY qM x1 2 qJ
set_option maxHeartbeats 4000000 in
set_option maxRecDepth 100000 in
theorem ks_X9_readAct_133 (C0 : gc cX9_readAct (some .int) 4 RX9 (dC, dI) (tyl cI cC cZ cB cJ) A p s m args meth c) : ∀ (x1 qJ : Int32) (H : Heap) (locs : List Loc) (ls : Array Slot), (ws_X9_readAct_133 post rY qM) x1 qJ → va_P (dC, dI) classes (wd_X9_readAct cI cC cZ cB cJ a_x xG xD wY wJ wQ xI xK xJ tW uT qI qJ rY qM) H → va_D A (wd_X9_readAct cI cC cZ cB cJ a_x xG xD wY wJ wQ xI xK xJ tW uT qI qJ rY qM) → va_S A s.heap H locs → lv_has ls 4 [(0, .ref a_x), (1, .int x1)] → W p l e rm_X9_readAct s m args below meth c H locs 0 0 (MQ below (q_X9_readAct dC dI cI cC cZ cB cJ A a_x xG xD wY wJ wQ xI xK xJ tW uT qI rY qM post) args s 0 0 A) (F0 m 133 ls []) := by
  obtain ⟨hx, hb, hr, hml, hown, hts, hlocks, hA, hK, hN, tL, tM, hZL, hTL, hZM, hTM, hZX⟩ := id C0
  intro x1 qJ H locs ls hp hP hD hS hl
  unfold ws_X9_readAct_133 at hp
  refine lv_iconst (v := 2) hx hb eX9_readAct_0.2.2.2.2.2.2.2.2.2.2.2.1 ic_2 ?_
  refine lv_istore_n (lv' := [(2, .int 2), (0, .ref a_x), (1, .int x1)]) hx hb eX9_readAct_0.2.2.2.2.2.2.2.2.2.2.2.2.1 rfl hl (by decide) rfl (fun ls hl => ?_)
  refine lv_goto (tgt := 143) hx hb eX9_readAct_0.2.2.2.2.2.2.2.2.2.2.2.2.2.1 (by decide) ?_
  exact ks_X9_readAct_143 C0 x1 2 qJ H locs ls hp hP hD hS (lv_sub hl [1, 2, 0] rfl)
end S_X9_readAct
noncomputable def wp_X9_readAct (post : Int32 → Int32 → Prop) (qJ rY : Int32) (qM : Nat → Int32) : Prop := wp_X8_here (fun r_1 => (r_1 = 97 → ws_X9_readAct_138 post rY qM r_1 0 qJ) ∧ (r_1 = 100 → ws_X9_readAct_138 post rY qM r_1 0 qJ) ∧ (r_1 = 104 → ws_X9_readAct_133 post rY qM r_1 qJ) ∧ (r_1 = 107 → ws_X9_readAct_138 post rY qM r_1 0 qJ) ∧ (r_1 = 109 → ws_X9_readAct_143 post rY qM r_1 1 qJ) ∧ (r_1 = 111 → ws_X9_readAct_138 post rY qM r_1 0 qJ) ∧ (r_1 = 112 → ws_X9_readAct_133 post rY qM r_1 qJ) ∧ (r_1 = 122 → ws_X9_readAct_138 post rY qM r_1 0 qJ) ∧ (¬ r_1 = 97 → ¬ r_1 = 100 → ¬ r_1 = 104 → ¬ r_1 = 107 → ¬ r_1 = 109 → ¬ r_1 = 111 → ¬ r_1 = 112 → ¬ r_1 = 122 → post (-1) qJ)) qJ rY qM
set_option maxHeartbeats 4000000 in
set_option maxRecDepth 100000 in
theorem c_X9_readAct (l : Launch) (dC : Nat → ClassId) (dI : Nat → Nat → Nat) (cI cC cZ cB cJ : ClassId) (a_x xG xD wY wJ wQ xI xK xJ tW uT sz : Nat) (qI qJ rY : Int32) (qM : Nat → Int32) (post : Int32 → Int32 → Prop) (hw : wp_X9_readAct post qJ rY qM) : Met l yX9_readAct (gw yX9_readAct cX9_readAct 4 (some .int)) rm_X9_readAct (va_Pc [.ref a_x] (gPre (dC, dI) (tyl cI cC cZ cB cJ) (wd_X9_readAct cI cC cZ cB cJ a_x xG xD wY wJ wQ xI xK xJ tW uT qI qJ rY qM) sz)) (q_X9_readAct dC dI cI cC cZ cB cJ (va_A (wd_X9_readAct cI cC cZ cB cJ a_x xG xD wY wJ wQ xI xK xJ tW uT qI qJ rY qM) sz) a_x xG xD wY wJ wQ xI xK xJ tW uT qI rY qM post) 0 0 (va_A (wd_X9_readAct cI cC cZ cB cJ a_x xG xD wY wJ wQ xI xK xJ tW uT qI qJ rY qM) sz) := by
  refine g_enter (own := RX9) (dC, dI) (tyl cI cC cZ cB cJ) (wd_X9_readAct cI cC cZ cB cJ a_x xG xD wY wJ wQ xI xK xJ tW uT qI qJ rY qM) sz [.ref a_x] (fun A => q_X9_readAct dC dI cI cC cZ cB cJ A a_x xG xD wY wJ wQ xI xK xJ tW uT qI rY qM post) pn_RX9 rfl (Nat.le_of_ble_eq_true rfl) ?_
  intro p e s m args below meth c A H locs ls C0 hP hD hS hl
  have hl : lv_has ls 4 [(0, .ref a_x)] := hl
  obtain ⟨hx, hb, hr, hml, hown, hts, hlocks, hA, hK, hN, tL, tM, hZL, hTL, hZM, hTM, hZX⟩ := id C0
  have hp := hw
  unfold wp_X9_readAct at hp
  refine lv_aload_n hx hb eX9_readAct_0.1 rfl (lv_at hl 0 rfl) ?_
  refine va_get (D := (dC, dI)) (ci := 9) (v := .ref xG) (C := RX9) (T := TX9) (N := 9) hx hb hts i_X9 hown hK hP 0 rfl rfl 0 (Nat.le_of_ble_eq_true rfl) (hts _ q_3) (fun _ h9 => h9) rfl eX9_readAct_0.2.1 ?_
  have hm := mgk (wc := (wd_X8_here cI cC cZ cB cJ xG uT qI qJ rY qM)) hP mk_0 3 rfl rfl rfl
  refine g_calli hP hD hS hA (mixT mk_0) (mixF mk_0) hm.1 hm.2 (nd_F _) (dis_g _) (g_runV (As := []) (rest := []) C0 hP hD hS (mixT mk_0) hm.1 (nd_T _) 1 8 rfl rfl (c_X8_here l dC dI cI cC cZ cB cJ xG uT H.size qI qJ rY qM _ hp) q_33 q_386 q_34 q_35 q_5 h_X8_here rfl rfl ⟨Nat.le_of_ble_eq_true rfl, Nat.le_of_ble_eq_true rfl⟩ rfl rfl hl.1 rfl (lv_room (Nat.le_of_ble_eq_true rfl)) eX9_readAct_0.2.2.1 ⟨Nat.zero_le _, Nat.zero_le _⟩) (fun r_1 u H locs hp hP hD hS => ?_)
  have hPD := PDm (ws' := (wd_X9_readAct cI cC cZ cB cJ a_x xG xD wY wJ wQ xI xK xJ tW uT qI qJ rY qM)) hP hD 3 rfl rfl rfl
  have hP := hPD.1
  have hD := hPD.2
  refine lv_istore_n (lv' := [(1, .int r_1), (0, .ref a_x)]) hx hb eX9_readAct_0.2.2.2.1 rfl hl (by decide) rfl (fun ls hl => ?_)
  refine lv_iconst (v := 0) hx hb eX9_readAct_0.2.2.2.2.1 ic_0 ?_
  refine lv_istore_n (lv' := [(2, .int 0), (1, .int r_1), (0, .ref a_x)]) hx hb eX9_readAct_0.2.2.2.2.2.1 rfl hl (by decide) rfl (fun ls hl => ?_)
  refine lv_iload_n hx hb eX9_readAct_0.2.2.2.2.2.2.1 rfl (lv_at hl 1 rfl) ?_
  by_cases hc0 : r_1 = 97
  · have hp := hp.1 hc0
    refine lv_tableIn (tgt := 138) hx hb eX9_readAct_0.2.2.2.2.2.2.2.1 (by first | (rw [hc0]; done) | (rw [hc0]; decide)) (by first | (rw [hc0]; done) | (rw [hc0]; decide)) (by first | (rw [hc0]; done) | (rw [hc0]; rfl)) (by decide) ?_
    exact ks_X9_readAct_138 C0 r_1 0 qJ H locs ls hp hP hD hS (lv_sub hl [2, 1, 0] rfl)
  by_cases hc1 : r_1 = 100
  · have hp := hp.2.1 hc1
    refine lv_tableIn (tgt := 138) hx hb eX9_readAct_0.2.2.2.2.2.2.2.1 (by first | (rw [hc1]; done) | (rw [hc1]; decide)) (by first | (rw [hc1]; done) | (rw [hc1]; decide)) (by first | (rw [hc1]; done) | (rw [hc1]; rfl)) (by decide) ?_
    exact ks_X9_readAct_138 C0 r_1 0 qJ H locs ls hp hP hD hS (lv_sub hl [2, 1, 0] rfl)
  by_cases hc2 : r_1 = 104
  · have hp := hp.2.2.1 hc2
    refine lv_tableIn (tgt := 133) hx hb eX9_readAct_0.2.2.2.2.2.2.2.1 (by first | (rw [hc2]; done) | (rw [hc2]; decide)) (by first | (rw [hc2]; done) | (rw [hc2]; decide)) (by first | (rw [hc2]; done) | (rw [hc2]; rfl)) (by decide) ?_
    exact ks_X9_readAct_133 C0 r_1 qJ H locs ls hp hP hD hS (lv_sub hl [2, 1] rfl)
  by_cases hc3 : r_1 = 107
  · have hp := hp.2.2.2.1 hc3
    refine lv_tableIn (tgt := 138) hx hb eX9_readAct_0.2.2.2.2.2.2.2.1 (by first | (rw [hc3]; done) | (rw [hc3]; decide)) (by first | (rw [hc3]; done) | (rw [hc3]; decide)) (by first | (rw [hc3]; done) | (rw [hc3]; rfl)) (by decide) ?_
    exact ks_X9_readAct_138 C0 r_1 0 qJ H locs ls hp hP hD hS (lv_sub hl [2, 1, 0] rfl)
  by_cases hc4 : r_1 = 109
  · have hp := hp.2.2.2.2.1 hc4
    refine lv_tableIn (tgt := 128) hx hb eX9_readAct_0.2.2.2.2.2.2.2.1 (by first | (rw [hc4]; done) | (rw [hc4]; decide)) (by first | (rw [hc4]; done) | (rw [hc4]; decide)) (by first | (rw [hc4]; done) | (rw [hc4]; rfl)) (by decide) ?_
    refine lv_iconst (v := 1) hx hb eX9_readAct_0.2.2.2.2.2.2.2.2.1 ic_1 ?_
    refine lv_istore_n (lv' := [(2, .int 1), (1, .int r_1), (0, .ref a_x)]) hx hb eX9_readAct_0.2.2.2.2.2.2.2.2.2.1 rfl hl (by decide) rfl (fun ls hl => ?_)
    refine lv_goto (tgt := 143) hx hb eX9_readAct_0.2.2.2.2.2.2.2.2.2.2.1 (by decide) ?_
    exact ks_X9_readAct_143 C0 r_1 1 qJ H locs ls hp hP hD hS (lv_sub hl [2, 1, 0] rfl)
  by_cases hc5 : r_1 = 111
  · have hp := hp.2.2.2.2.2.1 hc5
    refine lv_tableIn (tgt := 138) hx hb eX9_readAct_0.2.2.2.2.2.2.2.1 (by first | (rw [hc5]; done) | (rw [hc5]; decide)) (by first | (rw [hc5]; done) | (rw [hc5]; decide)) (by first | (rw [hc5]; done) | (rw [hc5]; rfl)) (by decide) ?_
    exact ks_X9_readAct_138 C0 r_1 0 qJ H locs ls hp hP hD hS (lv_sub hl [2, 1, 0] rfl)
  by_cases hc6 : r_1 = 112
  · have hp := hp.2.2.2.2.2.2.1 hc6
    refine lv_tableIn (tgt := 133) hx hb eX9_readAct_0.2.2.2.2.2.2.2.1 (by first | (rw [hc6]; done) | (rw [hc6]; decide)) (by first | (rw [hc6]; done) | (rw [hc6]; decide)) (by first | (rw [hc6]; done) | (rw [hc6]; rfl)) (by decide) ?_
    exact ks_X9_readAct_133 C0 r_1 qJ H locs ls hp hP hD hS (lv_sub hl [2, 1] rfl)
  by_cases hc7 : r_1 = 122
  · have hp := hp.2.2.2.2.2.2.2.1 hc7
    refine lv_tableIn (tgt := 138) hx hb eX9_readAct_0.2.2.2.2.2.2.2.1 (by first | (rw [hc7]; done) | (rw [hc7]; decide)) (by first | (rw [hc7]; done) | (rw [hc7]; decide)) (by first | (rw [hc7]; done) | (rw [hc7]; rfl)) (by decide) ?_
    exact ks_X9_readAct_138 C0 r_1 0 qJ H locs ls hp hP hD hS (lv_sub hl [2, 1, 0] rfl)
  have hp := hp.2.2.2.2.2.2.2.2 hc0 hc1 hc2 hc3 hc4 hc5 hc6 hc7
  have key : W p l e rm_X9_readAct s m args below meth c H locs 0 0 (MQ below (q_X9_readAct dC dI cI cC cZ cB cJ A a_x xG xD wY wJ wQ xI xK xJ tW uT qI rY qM post) args s 0 0 A) (F0 m 141 ls []) := by
    refine lv_iconst (v := (-1)) hx hb eX9_readAct_0.2.2.2.2.2.2.2.2.2.2.2.2.2.2.2 ic_m1 ?_
    exact W.iret (v := (-1)) hx hb hr (fun t ht hW => ⟨⟨(-1), qJ, rfl, hp, by rw [ht]; exact hP, va_K.moved hW.alike hK, hD⟩, hS.F ht⟩) hS.2.2 eX9_readAct_142.1
  by_cases hh0 : r_1 = 98
  · exact lv_tableIn (tgt := 141) hx hb eX9_readAct_0.2.2.2.2.2.2.2.1 (by first | (rw [hh0]; done) | (rw [hh0]; decide)) (by first | (rw [hh0]; done) | (rw [hh0]; decide)) (by first | (rw [hh0]; done) | (rw [hh0]; rfl)) (by decide) key
  by_cases hh1 : r_1 = 99
  · exact lv_tableIn (tgt := 141) hx hb eX9_readAct_0.2.2.2.2.2.2.2.1 (by first | (rw [hh1]; done) | (rw [hh1]; decide)) (by first | (rw [hh1]; done) | (rw [hh1]; decide)) (by first | (rw [hh1]; done) | (rw [hh1]; rfl)) (by decide) key
  by_cases hh2 : r_1 = 101
  · exact lv_tableIn (tgt := 141) hx hb eX9_readAct_0.2.2.2.2.2.2.2.1 (by first | (rw [hh2]; done) | (rw [hh2]; decide)) (by first | (rw [hh2]; done) | (rw [hh2]; decide)) (by first | (rw [hh2]; done) | (rw [hh2]; rfl)) (by decide) key
  by_cases hh3 : r_1 = 102
  · exact lv_tableIn (tgt := 141) hx hb eX9_readAct_0.2.2.2.2.2.2.2.1 (by first | (rw [hh3]; done) | (rw [hh3]; decide)) (by first | (rw [hh3]; done) | (rw [hh3]; decide)) (by first | (rw [hh3]; done) | (rw [hh3]; rfl)) (by decide) key
  by_cases hh4 : r_1 = 103
  · exact lv_tableIn (tgt := 141) hx hb eX9_readAct_0.2.2.2.2.2.2.2.1 (by first | (rw [hh4]; done) | (rw [hh4]; decide)) (by first | (rw [hh4]; done) | (rw [hh4]; decide)) (by first | (rw [hh4]; done) | (rw [hh4]; rfl)) (by decide) key
  by_cases hh5 : r_1 = 105
  · exact lv_tableIn (tgt := 141) hx hb eX9_readAct_0.2.2.2.2.2.2.2.1 (by first | (rw [hh5]; done) | (rw [hh5]; decide)) (by first | (rw [hh5]; done) | (rw [hh5]; decide)) (by first | (rw [hh5]; done) | (rw [hh5]; rfl)) (by decide) key
  by_cases hh6 : r_1 = 106
  · exact lv_tableIn (tgt := 141) hx hb eX9_readAct_0.2.2.2.2.2.2.2.1 (by first | (rw [hh6]; done) | (rw [hh6]; decide)) (by first | (rw [hh6]; done) | (rw [hh6]; decide)) (by first | (rw [hh6]; done) | (rw [hh6]; rfl)) (by decide) key
  by_cases hh7 : r_1 = 108
  · exact lv_tableIn (tgt := 141) hx hb eX9_readAct_0.2.2.2.2.2.2.2.1 (by first | (rw [hh7]; done) | (rw [hh7]; decide)) (by first | (rw [hh7]; done) | (rw [hh7]; decide)) (by first | (rw [hh7]; done) | (rw [hh7]; rfl)) (by decide) key
  by_cases hh8 : r_1 = 110
  · exact lv_tableIn (tgt := 141) hx hb eX9_readAct_0.2.2.2.2.2.2.2.1 (by first | (rw [hh8]; done) | (rw [hh8]; decide)) (by first | (rw [hh8]; done) | (rw [hh8]; decide)) (by first | (rw [hh8]; done) | (rw [hh8]; rfl)) (by decide) key
  by_cases hh9 : r_1 = 113
  · exact lv_tableIn (tgt := 141) hx hb eX9_readAct_0.2.2.2.2.2.2.2.1 (by first | (rw [hh9]; done) | (rw [hh9]; decide)) (by first | (rw [hh9]; done) | (rw [hh9]; decide)) (by first | (rw [hh9]; done) | (rw [hh9]; rfl)) (by decide) key
  by_cases hh10 : r_1 = 114
  · exact lv_tableIn (tgt := 141) hx hb eX9_readAct_0.2.2.2.2.2.2.2.1 (by first | (rw [hh10]; done) | (rw [hh10]; decide)) (by first | (rw [hh10]; done) | (rw [hh10]; decide)) (by first | (rw [hh10]; done) | (rw [hh10]; rfl)) (by decide) key
  by_cases hh11 : r_1 = 115
  · exact lv_tableIn (tgt := 141) hx hb eX9_readAct_0.2.2.2.2.2.2.2.1 (by first | (rw [hh11]; done) | (rw [hh11]; decide)) (by first | (rw [hh11]; done) | (rw [hh11]; decide)) (by first | (rw [hh11]; done) | (rw [hh11]; rfl)) (by decide) key
  by_cases hh12 : r_1 = 116
  · exact lv_tableIn (tgt := 141) hx hb eX9_readAct_0.2.2.2.2.2.2.2.1 (by first | (rw [hh12]; done) | (rw [hh12]; decide)) (by first | (rw [hh12]; done) | (rw [hh12]; decide)) (by first | (rw [hh12]; done) | (rw [hh12]; rfl)) (by decide) key
  by_cases hh13 : r_1 = 117
  · exact lv_tableIn (tgt := 141) hx hb eX9_readAct_0.2.2.2.2.2.2.2.1 (by first | (rw [hh13]; done) | (rw [hh13]; decide)) (by first | (rw [hh13]; done) | (rw [hh13]; decide)) (by first | (rw [hh13]; done) | (rw [hh13]; rfl)) (by decide) key
  by_cases hh14 : r_1 = 118
  · exact lv_tableIn (tgt := 141) hx hb eX9_readAct_0.2.2.2.2.2.2.2.1 (by first | (rw [hh14]; done) | (rw [hh14]; decide)) (by first | (rw [hh14]; done) | (rw [hh14]; decide)) (by first | (rw [hh14]; done) | (rw [hh14]; rfl)) (by decide) key
  by_cases hh15 : r_1 = 119
  · exact lv_tableIn (tgt := 141) hx hb eX9_readAct_0.2.2.2.2.2.2.2.1 (by first | (rw [hh15]; done) | (rw [hh15]; decide)) (by first | (rw [hh15]; done) | (rw [hh15]; decide)) (by first | (rw [hh15]; done) | (rw [hh15]; rfl)) (by decide) key
  by_cases hh16 : r_1 = 120
  · exact lv_tableIn (tgt := 141) hx hb eX9_readAct_0.2.2.2.2.2.2.2.1 (by first | (rw [hh16]; done) | (rw [hh16]; decide)) (by first | (rw [hh16]; done) | (rw [hh16]; decide)) (by first | (rw [hh16]; done) | (rw [hh16]; rfl)) (by decide) key
  by_cases hh17 : r_1 = 121
  · exact lv_tableIn (tgt := 141) hx hb eX9_readAct_0.2.2.2.2.2.2.2.1 (by first | (rw [hh17]; done) | (rw [hh17]; decide)) (by first | (rw [hh17]; done) | (rw [hh17]; decide)) (by first | (rw [hh17]; done) | (rw [hh17]; rfl)) (by decide) key
  exact lv_tableOut (tgt := 141) hx hb eX9_readAct_0.2.2.2.2.2.2.2.1 (by have g0 := lv_neT (a := 97) hc0 rfl; have g1 := lv_neT (a := 100) hc1 rfl; have g2 := lv_neT (a := 104) hc2 rfl; have g3 := lv_neT (a := 107) hc3 rfl; have g4 := lv_neT (a := 109) hc4 rfl; have g5 := lv_neT (a := 111) hc5 rfl; have g6 := lv_neT (a := 112) hc6 rfl; have g7 := lv_neT (a := 122) hc7 rfl; have f0 := lv_neT (a := 98) hh0 rfl; have f1 := lv_neT (a := 99) hh1 rfl; have f2 := lv_neT (a := 101) hh2 rfl; have f3 := lv_neT (a := 102) hh3 rfl; have f4 := lv_neT (a := 103) hh4 rfl; have f5 := lv_neT (a := 105) hh5 rfl; have f6 := lv_neT (a := 106) hh6 rfl; have f7 := lv_neT (a := 108) hh7 rfl; have f8 := lv_neT (a := 110) hh8 rfl; have f9 := lv_neT (a := 113) hh9 rfl; have f10 := lv_neT (a := 114) hh10 rfl; have f11 := lv_neT (a := 115) hh11 rfl; have f12 := lv_neT (a := 116) hh12 rfl; have f13 := lv_neT (a := 117) hh13 rfl; have f14 := lv_neT (a := 118) hh14 rfl; have f15 := lv_neT (a := 119) hh15 rfl; have f16 := lv_neT (a := 120) hh16 rfl; have f17 := lv_neT (a := 121) hh17 rfl; omega) (by decide) key
noncomputable abbrev wd_X9_readActs (cI cC cZ cB cJ : ClassId) (a_x xG xD wY wJ wQ xI xK xJ tW uT : Nat) (vZ : Nat → Int32) (qI qJ rY : Int32) (qM : Nat → Int32) : va_W := [(a_x, .inr (9, [.ref xG, .ref xD, .ref wY, .ref wJ, .ref wQ, .ref xI, .ref xK, .ref xJ, .ref tW])), (tW, .inl (cI, 30, .inl vZ)), (xG, .inr (8, [.ref uT, .int qI, .int qJ, .int rY])), (uT, .inl (cC, 80, .inl qM))]
noncomputable abbrev q_X9_readActs (dC : Nat → ClassId) (dI : Nat → Nat → Nat) (cI cC cZ cB cJ : ClassId) (A : Nat → Prop) (a_x xG xD wY wJ wQ xI xK xJ tW uT : Nat) (qI rY : Int32) (qM : Nat → Int32) (post : Int32 → (Nat → Int32) → Int32 → Prop) : Array Value → State → Outcome → State → Prop := va_Qi (fun (r : Int32) (u : (Nat → Int32) × Int32) => post r u.1 u.2) (fun u t => gB (dC, dI) (tyl cI cC cZ cB cJ) A (wd_X9_readActs cI cC cZ cB cJ a_x xG xD wY wJ wQ xI xK xJ tW uT u.1 qI u.2 rY qM) t) A
noncomputable abbrev rm_X9_readActs : Room := { frames := 3, cells := 0, slots := 0, locals := 68 }
section S_X9_readActs
variable {p : Program} {l : Launch} {e : Env} {s : State} {m : MethodId} {args : Array Value} {below : List Frame} {meth : Method} {c : Code} {dC : Nat → ClassId} {dI : Nat → Nat → Nat} {cI cC cZ cB cJ : ClassId} {A : Nat → Prop} {a_x xG xD wY wJ wQ xI xK xJ tW uT : Nat} {qI rY : Int32} {qM : Nat → Int32} {post : Int32 → (Nat → Int32) → Int32 → Prop}
noncomputable def ws_X9_readActs_2 (post next : Int32 → (Nat → Int32) → Int32 → Prop) (rY : Int32) (qM : Nat → Int32) (x1 : Int32) (vZ : Nat → Int32) (qJ : Int32) : Prop := (30 ≤ x1 → post (-1) vZ qJ) ∧ (¬ 30 ≤ x1 → wp_X9_readAct (fun r_1 xO => (¬ r_1 = (-1) → vp_in x1 30 ∧ (wp_X8_take (fun r_3 xU => (¬ r_3 = 0 → ∀ v_5 : Int32, v_5 = x1 + 1 → next v_5 (upd vZ x1.toNatClampNeg r_1) xU) ∧ (r_3 = 0 → post (x1 + 1) (upd vZ x1.toNatClampNeg r_1) xU)) 59 xO rY qM)) ∧ (r_1 = (-1) → post (-1) vZ xO)) qJ rY qM)
noncomputable def wb_X9_readActs_2 (post : Int32 → (Nat → Int32) → Int32 → Prop) (rY : Int32) (qM : Nat → Int32) : Nat → Int32 → (Nat → Int32) → Int32 → Prop := fun n => Nat.rec (motive := fun _ => Int32 → (Nat → Int32) → Int32 → Prop) (fun _ _ _ => False) (fun _ ih => ws_X9_readActs_2 post ih rY qM) n
set_option maxHeartbeats 4000000 in
set_option maxRecDepth 100000 in
theorem ks_X9_readActs_2 (C0 : gc cX9_readActs (some .int) 3 RX9 (dC, dI) (tyl cI cC cZ cB cJ) A p s m args meth c) {next : Int32 → (Nat → Int32) → Int32 → Prop} (hKn : ∀ (x1 : Int32) (vZ : Nat → Int32) (qJ : Int32) (H : Heap) (locs : List Loc) (ls : Array Slot), next x1 vZ qJ → va_P (dC, dI) classes (wd_X9_readActs cI cC cZ cB cJ a_x xG xD wY wJ wQ xI xK xJ tW uT vZ qI qJ rY qM) H → va_D A (wd_X9_readActs cI cC cZ cB cJ a_x xG xD wY wJ wQ xI xK xJ tW uT vZ qI qJ rY qM) → va_S A s.heap H locs → lv_has ls 3 [(0, .ref a_x), (1, .int x1)] → W p l e rm_X9_readActs s m args below meth c H locs 0 0 (MQ below (q_X9_readActs dC dI cI cC cZ cB cJ A a_x xG xD wY wJ wQ xI xK xJ tW uT qI rY qM post) args s 0 0 A) (F0 m 2 ls [])) : ∀ (x1 : Int32) (vZ : Nat → Int32) (qJ : Int32) (H : Heap) (locs : List Loc) (ls : Array Slot), (ws_X9_readActs_2 post next rY qM) x1 vZ qJ → va_P (dC, dI) classes (wd_X9_readActs cI cC cZ cB cJ a_x xG xD wY wJ wQ xI xK xJ tW uT vZ qI qJ rY qM) H → va_D A (wd_X9_readActs cI cC cZ cB cJ a_x xG xD wY wJ wQ xI xK xJ tW uT vZ qI qJ rY qM) → va_S A s.heap H locs → lv_has ls 3 [(0, .ref a_x), (1, .int x1)] → W p l e rm_X9_readActs s m args below meth c H locs 0 0 (MQ below (q_X9_readActs dC dI cI cC cZ cB cJ A a_x xG xD wY wJ wQ xI xK xJ tW uT qI rY qM post) args s 0 0 A) (F0 m 2 ls []) := by
  obtain ⟨hx, hb, hr, hml, hown, hts, hlocks, hA, hK, hN, tL, tM, hZL, hTL, hZM, hTM, hZX⟩ := id C0
  intro x1 vZ qJ H locs ls hp hP hD hS hl
  unfold ws_X9_readActs_2 at hp
  refine lv_iload_n hx hb eX9_readActs_0.2.2.1 rfl (lv_at hl 1 rfl) ?_
  refine lv_bipush (v := 30) hx hb eX9_readActs_0.2.2.2.1 bp_30 ?_
  refine lv_icmp_ge (tgt := 49) hx hb eX9_readActs_0.2.2.2.2.1 (by decide) (fun hc => ?_) (fun hc => ?_)
  · have hp := hp.1 hc
    refine lv_iconst (v := (-1)) hx hb eX9_readActs_25.2.2.2.2.2.2.2.2.2.2.2.2.2.1 ic_m1 ?_
    exact W.iret (v := (-1)) hx hb hr (fun t ht hW => ⟨⟨(-1), (vZ, qJ), rfl, hp, by rw [ht]; exact hP, va_K.moved hW.alike hK, hD⟩, hS.F ht⟩) hS.2.2 eX9_readActs_25.2.2.2.2.2.2.2.2.2.2.2.2.2.2
  · have hp := hp.2 hc
    refine lv_aload_n hx hb eX9_readActs_0.2.2.2.2.2.1 rfl (lv_at hl 0 rfl) ?_
    have hm := mgk (wc := (wd_X9_readAct cI cC cZ cB cJ a_x xG xD wY wJ wQ xI xK xJ tW uT qI qJ rY qM)) hP mk_90 4 rfl rfl rfl
    refine g_calli hP hD hS hA (mixT mk_90) (mixF mk_90) hm.1 hm.2 (nd_F _) (dis_g _) (g_runV (As := []) (rest := []) C0 hP hD hS (mixT mk_90) hm.1 (nd_T _) 0 9 rfl rfl (c_X9_readAct l dC dI cI cC cZ cB cJ a_x xG xD wY wJ wQ xI xK xJ tW uT H.size qI qJ rY qM _ hp) q_389 q_392 q_390 q_391 q_256 h_X9_readAct rfl rfl ⟨Nat.le_of_ble_eq_true rfl, Nat.le_of_ble_eq_true rfl⟩ rfl rfl hl.1 rfl (lv_room (Nat.le_of_ble_eq_true rfl)) eX9_readActs_0.2.2.2.2.2.2.1 ⟨Nat.zero_le _, Nat.zero_le _⟩) (fun r_1 u H locs hp hP hD hS => ?_)
    obtain ⟨xO, rfl⟩ : ∃ z, z = u := ⟨_, rfl⟩
    have hPD := PDm (ws' := (wd_X9_readActs cI cC cZ cB cJ a_x xG xD wY wJ wQ xI xK xJ tW uT vZ qI xO rY qM)) hP hD 4 rfl rfl rfl
    have hP := hPD.1
    have hD := hPD.2
    refine lv_istore_n (lv' := [(2, .int r_1), (0, .ref a_x), (1, .int x1)]) hx hb eX9_readActs_0.2.2.2.2.2.2.2.1 rfl hl (by decide) rfl (fun ls hl => ?_)
    refine lv_iload_n hx hb eX9_readActs_0.2.2.2.2.2.2.2.2.1 rfl (lv_at hl 0 rfl) ?_
    refine lv_iconst (v := (-1)) hx hb eX9_readActs_0.2.2.2.2.2.2.2.2.2.1 ic_m1 ?_
    refine lv_icmp_ne (tgt := 20) hx hb eX9_readActs_0.2.2.2.2.2.2.2.2.2.2.1 (by decide) (fun hc => ?_) (fun hc => ?_)
    · have hp := hp.1 hc
      refine lv_aload_n hx hb eX9_readActs_0.2.2.2.2.2.2.2.2.2.2.2.2.2.1 rfl (lv_at hl 1 rfl) ?_
      refine va_get (D := (dC, dI)) (ci := 9) (v := .ref tW) (C := RX9) (T := TX9) (N := 9) hx hb hts i_X9 hown hK hP 0 rfl rfl 8 (Nat.le_of_ble_eq_true rfl) (hts _ q_381) (fun _ h9 => h9) rfl eX9_readActs_0.2.2.2.2.2.2.2.2.2.2.2.2.2.2.1 ?_
      refine lv_iload_n hx hb eX9_readActs_0.2.2.2.2.2.2.2.2.2.2.2.2.2.2.2 rfl (lv_at hl 2 rfl) ?_
      refine lv_iload_n hx hb eX9_readActs_25.1 rfl (lv_at hl 0 rfl) ?_
      have hin := hp.1
      have hp := hp.2
      refine va_iast hx hb hK hP hD hS 1 0 rfl rfl hin eX9_readActs_25.2.1 (fun H locs hP hD hS => ?_)
      have hP : va_P (dC, dI) classes (wd_X9_readActs cI cC cZ cB cJ a_x xG xD wY wJ wQ xI xK xJ tW uT (upd vZ x1.toNatClampNeg r_1) qI xO rY qM) H := hP
      have hD : va_D A (wd_X9_readActs cI cC cZ cB cJ a_x xG xD wY wJ wQ xI xK xJ tW uT (upd vZ x1.toNatClampNeg r_1) qI xO rY qM) := hD
      refine lv_aload_n hx hb eX9_readActs_25.2.2.1 rfl (lv_at hl 1 rfl) ?_
      refine va_get (D := (dC, dI)) (ci := 9) (v := .ref xG) (C := RX9) (T := TX9) (N := 9) hx hb hts i_X9 hown hK hP 0 rfl rfl 0 (Nat.le_of_ble_eq_true rfl) (hts _ q_3) (fun _ h9 => h9) rfl eX9_readActs_25.2.2.2.1 ?_
      refine lv_bipush (v := 59) hx hb eX9_readActs_25.2.2.2.2.1 bp_59 ?_
      have hm := mgk (wc := (wd_X8_take cI cC cZ cB cJ xG uT qI xO rY qM)) hP mk_14 4 rfl rfl rfl
      refine g_calli hP hD hS hA (mixT mk_14) (mixF mk_14) hm.1 hm.2 (nd_F _) (dis_g _) (g_runV (As := [.int 59]) (rest := []) C0 hP hD hS (mixT mk_14) hm.1 (nd_T _) 2 8 rfl rfl (c_X8_take l dC dI cI cC cZ cB cJ xG uT H.size 59 qI xO rY qM _ hp) q_41 q_393 q_42 q_43 q_5 h_X8_take rfl rfl ⟨Nat.le_of_ble_eq_true rfl, Nat.le_of_ble_eq_true rfl⟩ rfl rfl hl.1 rfl (lv_room (Nat.le_of_ble_eq_true rfl)) eX9_readActs_25.2.2.2.2.2.1 ⟨Nat.zero_le _, Nat.zero_le _⟩) (fun r_3 u H locs hp hP hD hS => ?_)
      obtain ⟨xU, rfl⟩ : ∃ z, z = u := ⟨_, rfl⟩
      have hPD := PDm (ws' := (wd_X9_readActs cI cC cZ cB cJ a_x xG xD wY wJ wQ xI xK xJ tW uT (upd vZ x1.toNatClampNeg r_1) qI xU rY qM)) hP hD 4 rfl rfl rfl
      have hP := hPD.1
      have hD := hPD.2
      refine lv_if_ne (tgt := 43) hx hb eX9_readActs_25.2.2.2.2.2.2.1 (by decide) (fun hc => ?_) (fun hc => ?_)
      · have hp := hp.1 hc
        obtain ⟨v_5, ev_5⟩ : ∃ y : Int32, y = x1 + 1 := ⟨_, rfl⟩
        refine lv_iinc (v := v_5) (lv' := [(1, .int v_5), (2, .int r_1), (0, .ref a_x)]) hx hb eX9_readActs_25.2.2.2.2.2.2.2.2.2.2.2.1 hl (k := 2) rfl (by rw [ev_5]; rfl) (by decide) rfl (fun ls hl => ?_)
        have hp := hp v_5 ev_5
        refine lv_goto (tgt := 2) hx hb eX9_readActs_25.2.2.2.2.2.2.2.2.2.2.2.2.1 (by decide) ?_
        exact hKn v_5 (upd vZ x1.toNatClampNeg r_1) xU H locs ls hp hP hD hS (lv_sub hl [2, 0] rfl)
      · have hp := hp.2 hc
        refine lv_iload_n hx hb eX9_readActs_25.2.2.2.2.2.2.2.1 rfl (lv_at hl 2 rfl) ?_
        refine lv_iconst (v := 1) hx hb eX9_readActs_25.2.2.2.2.2.2.2.2.1 ic_1 ?_
        refine lv_iadd hx hb eX9_readActs_25.2.2.2.2.2.2.2.2.2.1 ?_
        exact W.iret (v := x1 + 1) hx hb hr (fun t ht hW => ⟨⟨x1 + 1, ((upd vZ x1.toNatClampNeg r_1), xU), rfl, hp, by rw [ht]; exact hP, va_K.moved hW.alike hK, hD⟩, hS.F ht⟩) hS.2.2 eX9_readActs_25.2.2.2.2.2.2.2.2.2.2.1
    · have hp := hp.2 hc
      refine lv_iconst (v := (-1)) hx hb eX9_readActs_0.2.2.2.2.2.2.2.2.2.2.2.1 ic_m1 ?_
      exact W.iret (v := (-1)) hx hb hr (fun t ht hW => ⟨⟨(-1), (vZ, xO), rfl, hp, by rw [ht]; exact hP, va_K.moved hW.alike hK, hD⟩, hS.F ht⟩) hS.2.2 eX9_readActs_0.2.2.2.2.2.2.2.2.2.2.2.2.1
set_option maxHeartbeats 4000000 in
set_option maxRecDepth 100000 in
theorem kb_X9_readActs_2 (C0 : gc cX9_readActs (some .int) 3 RX9 (dC, dI) (tyl cI cC cZ cB cJ) A p s m args meth c) : ∀ (n : Nat), ∀ (x1 : Int32) (vZ : Nat → Int32) (qJ : Int32) (H : Heap) (locs : List Loc) (ls : Array Slot), (wb_X9_readActs_2 post rY qM n) x1 vZ qJ → va_P (dC, dI) classes (wd_X9_readActs cI cC cZ cB cJ a_x xG xD wY wJ wQ xI xK xJ tW uT vZ qI qJ rY qM) H → va_D A (wd_X9_readActs cI cC cZ cB cJ a_x xG xD wY wJ wQ xI xK xJ tW uT vZ qI qJ rY qM) → va_S A s.heap H locs → lv_has ls 3 [(0, .ref a_x), (1, .int x1)] → W p l e rm_X9_readActs s m args below meth c H locs 0 0 (MQ below (q_X9_readActs dC dI cI cC cZ cB cJ A a_x xG xD wY wJ wQ xI xK xJ tW uT qI rY qM post) args s 0 0 A) (F0 m 2 ls []) := by
  intro n
  induction n with
  | zero =>
    intro x1 vZ qJ H locs ls hp
    exact False.elim hp
  | succ n ih =>
    intro x1 vZ qJ H locs ls hp
    exact ks_X9_readActs_2 C0 ih x1 vZ qJ H locs ls hp
end S_X9_readActs
noncomputable def wp_X9_readActs (post : Int32 → (Nat → Int32) → Int32 → Prop) (vZ : Nat → Int32) (qJ rY : Int32) (qM : Nat → Int32) : Prop := ∃ n : Nat, wb_X9_readActs_2 post rY qM n 0 vZ qJ
set_option maxHeartbeats 4000000 in
set_option maxRecDepth 100000 in
theorem c_X9_readActs (l : Launch) (dC : Nat → ClassId) (dI : Nat → Nat → Nat) (cI cC cZ cB cJ : ClassId) (a_x xG xD wY wJ wQ xI xK xJ tW uT sz : Nat) (vZ : Nat → Int32) (qI qJ rY : Int32) (qM : Nat → Int32) (post : Int32 → (Nat → Int32) → Int32 → Prop) (hw : wp_X9_readActs post vZ qJ rY qM) : Met l yX9_readActs (gw yX9_readActs cX9_readActs 3 (some .int)) rm_X9_readActs (va_Pc [.ref a_x] (gPre (dC, dI) (tyl cI cC cZ cB cJ) (wd_X9_readActs cI cC cZ cB cJ a_x xG xD wY wJ wQ xI xK xJ tW uT vZ qI qJ rY qM) sz)) (q_X9_readActs dC dI cI cC cZ cB cJ (va_A (wd_X9_readActs cI cC cZ cB cJ a_x xG xD wY wJ wQ xI xK xJ tW uT vZ qI qJ rY qM) sz) a_x xG xD wY wJ wQ xI xK xJ tW uT qI rY qM post) 0 0 (va_A (wd_X9_readActs cI cC cZ cB cJ a_x xG xD wY wJ wQ xI xK xJ tW uT vZ qI qJ rY qM) sz) := by
  refine g_enter (own := RX9) (dC, dI) (tyl cI cC cZ cB cJ) (wd_X9_readActs cI cC cZ cB cJ a_x xG xD wY wJ wQ xI xK xJ tW uT vZ qI qJ rY qM) sz [.ref a_x] (fun A => q_X9_readActs dC dI cI cC cZ cB cJ A a_x xG xD wY wJ wQ xI xK xJ tW uT qI rY qM post) pn_RX9 rfl (Nat.le_of_ble_eq_true rfl) ?_
  intro p e s m args below meth c A H locs ls C0 hP hD hS hl
  have hl : lv_has ls 3 [(0, .ref a_x)] := hl
  obtain ⟨hx, hb, hr, hml, hown, hts, hlocks, hA, hK, hN, tL, tM, hZL, hTL, hZM, hTM, hZX⟩ := id C0
  have hp := hw
  unfold wp_X9_readActs at hp
  refine lv_iconst (v := 0) hx hb eX9_readActs_0.1 ic_0 ?_
  refine lv_istore_n (lv' := [(1, .int 0), (0, .ref a_x)]) hx hb eX9_readActs_0.2.1 rfl hl (by decide) rfl (fun ls hl => ?_)
  obtain ⟨n9, hp⟩ := hp
  exact kb_X9_readActs_2 C0 n9 0 vZ qJ H locs ls hp hP hD hS (lv_sub hl [1, 0] rfl)
noncomputable abbrev wd_X9_day (cI cC cZ cB cJ : ClassId) (a_x xG xD wY wJ wQ xI xK xJ tW uT xH tX jE mX pD oO oQ eG uS sW uR qY sY vX uO vQ qT : Nat) (vZ : Nat → Int32) (qI qJ rY : Int32) (qM : Nat → Int32) (bZ bD bI aI : Int32) (wD gF pE qA nJ nY dQ : Nat → Int32) (jC eO eW dO fJ fY jD nG pG qB sH uP pQ mW : Int32) (qO qQ oF : Nat → Int32) (oE uF : Int32) (sG : Nat → Int32) (qF : Int32) (jJ : Nat → Int32) : va_W := [(a_x, .inr (9, [.ref xG, .ref xD, .ref wY, .ref wJ, .ref wQ, .ref xI, .ref xK, .ref xJ, .ref tW])), (tW, .inl (cI, 30, .inl vZ)), (xG, .inr (8, [.ref uT, .int qI, .int qJ, .int rY])), (uT, .inl (cC, 80, .inl qM)), (wY, .inr (0, [.ref wJ, .ref wQ, .ref xH])), (wJ, .inr (3, [.ref tX, .ref jE, .ref mX, .ref pD, .ref oO, .ref oQ, .ref eG, .int bZ, .int bD, .int bI, .int aI])), (tX, .inl (cI, 16, .inl wD)), (jE, .inl (cI, 16, .inl gF)), (mX, .inl (cI, 16, .inl pE)), (pD, .inl (cI, 16, .inl qA)), (oO, .inl (cI, 8, .inl nJ)), (oQ, .inl (cI, 8, .inl nY)), (eG, .inl (cI, 5, .inl dQ)), (wQ, .inr (2, [.int jC, .int eO, .int eW, .int dO, .int fJ, .int fY, .int jD, .int nG])), (xH, .inr (7, [.ref uS, .ref sW, .ref uR, .ref qY, .ref sY, .int pG, .int qB, .int sH, .int uP, .int pQ, .int mW])), (uS, .inl (cI, 7, .inl qO)), (uR, .inl (cI, 40, .inl qQ)), (qY, .inl (cI, 40, .inl oF)), (xI, .inr (4, [.ref vX, .ref uO, .ref vQ, .int oE, .int uF])), (vX, .inl (cI, 104, .inl sG)), (xK, .inr (6, [.ref qT, .int qF])), (qT, .inl (cI, 16, .inl jJ))]
noncomputable abbrev q_X9_day (dC : Nat → ClassId) (dI : Nat → Nat → Nat) (cI cC cZ cB cJ : ClassId) (A : Nat → Prop) (a_x xG xD wY wJ wQ xI xK xJ tW uT xH tX jE mX pD oO oQ eG uS sW uR qY sY vX uO vQ qT : Nat) (qM : Nat → Int32) (bZ bD bI aI : Int32) (wD gF pE qA nJ nY dQ : Nat → Int32) (pG qB sH uP pQ mW : Int32) (oF : Nat → Int32) (post : Int32 → (Nat → Int32) → Int32 → Int32 → Int32 → Int32 → Int32 → Int32 → Int32 → Int32 → Int32 → Int32 → Int32 → (Nat → Int32) → (Nat → Int32) → Int32 → Int32 → (Nat → Int32) → Int32 → (Nat → Int32) → Prop) : Array Value → State → Outcome → State → Prop := va_Qi (fun (r : Int32) (u : (Nat → Int32) × Int32 × Int32 × Int32 × Int32 × Int32 × Int32 × Int32 × Int32 × Int32 × Int32 × Int32 × (Nat → Int32) × (Nat → Int32) × Int32 × Int32 × (Nat → Int32) × Int32 × (Nat → Int32)) => post r u.1 u.2.1 u.2.2.1 u.2.2.2.1 u.2.2.2.2.1 u.2.2.2.2.2.1 u.2.2.2.2.2.2.1 u.2.2.2.2.2.2.2.1 u.2.2.2.2.2.2.2.2.1 u.2.2.2.2.2.2.2.2.2.1 u.2.2.2.2.2.2.2.2.2.2.1 u.2.2.2.2.2.2.2.2.2.2.2.1 u.2.2.2.2.2.2.2.2.2.2.2.2.1 u.2.2.2.2.2.2.2.2.2.2.2.2.2.1 u.2.2.2.2.2.2.2.2.2.2.2.2.2.2.1 u.2.2.2.2.2.2.2.2.2.2.2.2.2.2.2.1 u.2.2.2.2.2.2.2.2.2.2.2.2.2.2.2.2.1 u.2.2.2.2.2.2.2.2.2.2.2.2.2.2.2.2.2.1 u.2.2.2.2.2.2.2.2.2.2.2.2.2.2.2.2.2.2) (fun u t => gB (dC, dI) (tyl cI cC cZ cB cJ) A (wd_X9_day cI cC cZ cB cJ a_x xG xD wY wJ wQ xI xK xJ tW uT xH tX jE mX pD oO oQ eG uS sW uR qY sY vX uO vQ qT u.1 u.2.1 u.2.2.1 u.2.2.2.1 qM bZ bD bI aI wD gF pE qA nJ nY dQ u.2.2.2.2.1 u.2.2.2.2.2.1 u.2.2.2.2.2.2.1 u.2.2.2.2.2.2.2.1 u.2.2.2.2.2.2.2.2.1 u.2.2.2.2.2.2.2.2.2.1 u.2.2.2.2.2.2.2.2.2.2.1 u.2.2.2.2.2.2.2.2.2.2.2.1 pG qB sH uP pQ mW u.2.2.2.2.2.2.2.2.2.2.2.2.1 u.2.2.2.2.2.2.2.2.2.2.2.2.2.1 oF u.2.2.2.2.2.2.2.2.2.2.2.2.2.2.1 u.2.2.2.2.2.2.2.2.2.2.2.2.2.2.2.1 u.2.2.2.2.2.2.2.2.2.2.2.2.2.2.2.2.1 u.2.2.2.2.2.2.2.2.2.2.2.2.2.2.2.2.2.1 u.2.2.2.2.2.2.2.2.2.2.2.2.2.2.2.2.2.2) t) A
noncomputable abbrev rm_X9_day : Room := { frames := 7, cells := 0, slots := 0, locals := 164 }
section S_X9_day
variable {p : Program} {l : Launch} {e : Env} {s : State} {m : MethodId} {args : Array Value} {below : List Frame} {meth : Method} {c : Code} {dC : Nat → ClassId} {dI : Nat → Nat → Nat} {cI cC cZ cB cJ : ClassId} {A : Nat → Prop} {a_x xG xD wY wJ wQ xI xK xJ tW uT xH tX jE mX pD oO oQ eG uS sW uR qY sY vX uO vQ qT : Nat} {qM : Nat → Int32} {bZ bD bI aI : Int32} {wD gF pE qA nJ nY dQ : Nat → Int32} {pG qB sH uP pQ mW : Int32} {oF : Nat → Int32} {post : Int32 → (Nat → Int32) → Int32 → Int32 → Int32 → Int32 → Int32 → Int32 → Int32 → Int32 → Int32 → Int32 → Int32 → (Nat → Int32) → (Nat → Int32) → Int32 → Int32 → (Nat → Int32) → Int32 → (Nat → Int32) → Prop}
noncomputable def ws_X9_day_68 (post : Int32 → (Nat → Int32) → Int32 → Int32 → Int32 → Int32 → Int32 → Int32 → Int32 → Int32 → Int32 → Int32 → Int32 → (Nat → Int32) → (Nat → Int32) → Int32 → Int32 → (Nat → Int32) → Int32 → (Nat → Int32) → Prop) (qM : Nat → Int32) (bZ bD : Int32) (wD gF pE qA nJ nY dQ : Nat → Int32) (pG : Int32) (oF : Nat → Int32) (k0 : Int32) (vZ : Nat → Int32) (qI qJ rY jC eO eW dO fJ fY jD nG : Int32) (qO qQ : Nat → Int32) (oE uF : Int32) (sG : Nat → Int32) (qF : Int32) (jJ : Nat → Int32) : Prop := wp_X8_clear (fun aCa => post k0 vZ aCa qJ rY jC eO eW dO fJ fY jD nG qO qQ oE uF sG qF jJ) qI
set_option maxHeartbeats 4000000 in
set_option maxRecDepth 100000 in
theorem ks_X9_day_68 (C0 : gc cX9_day (some .int) 4 RX9 (dC, dI) (tyl cI cC cZ cB cJ) A p s m args meth c) : ∀ (k0 : Int32) (vZ : Nat → Int32) (qI qJ rY jC eO eW dO fJ fY jD nG : Int32) (qO qQ : Nat → Int32) (oE uF : Int32) (sG : Nat → Int32) (qF : Int32) (jJ : Nat → Int32) (H : Heap) (locs : List Loc) (ls : Array Slot), (ws_X9_day_68 post qM bZ bD wD gF pE qA nJ nY dQ pG oF) k0 vZ qI qJ rY jC eO eW dO fJ fY jD nG qO qQ oE uF sG qF jJ → va_P (dC, dI) classes (wd_X9_day cI cC cZ cB cJ a_x xG xD wY wJ wQ xI xK xJ tW uT xH tX jE mX pD oO oQ eG uS sW uR qY sY vX uO vQ qT vZ qI qJ rY qM bZ bD bI aI wD gF pE qA nJ nY dQ jC eO eW dO fJ fY jD nG pG qB sH uP pQ mW qO qQ oF oE uF sG qF jJ) H → va_D A (wd_X9_day cI cC cZ cB cJ a_x xG xD wY wJ wQ xI xK xJ tW uT xH tX jE mX pD oO oQ eG uS sW uR qY sY vX uO vQ qT vZ qI qJ rY qM bZ bD bI aI wD gF pE qA nJ nY dQ jC eO eW dO fJ fY jD nG pG qB sH uP pQ mW qO qQ oF oE uF sG qF jJ) → va_S A s.heap H locs → lv_has ls 4 [(0, .ref a_x)] → W p l e rm_X9_day s m args below meth c H locs 0 0 (MQ below (q_X9_day dC dI cI cC cZ cB cJ A a_x xG xD wY wJ wQ xI xK xJ tW uT xH tX jE mX pD oO oQ eG uS sW uR qY sY vX uO vQ qT qM bZ bD bI aI wD gF pE qA nJ nY dQ pG qB sH uP pQ mW oF post) args s 0 0 A) (F0 m 68 ls [.int k0]) := by
  obtain ⟨hx, hb, hr, hml, hown, hts, hlocks, hA, hK, hN, tL, tM, hZL, hTL, hZM, hTM, hZX⟩ := id C0
  intro k0 vZ qI qJ rY jC eO eW dO fJ fY jD nG qO qQ oE uF sG qF jJ H locs ls hp hP hD hS hl
  unfold ws_X9_day_68 at hp
  refine lv_istore_n (lv' := [(3, .int k0), (0, .ref a_x)]) hx hb eX9_day_37.2.2.2.2.2.2.2.2.2.2.2.2.2.2.2 rfl hl (by decide) rfl (fun ls hl => ?_)
  refine lv_aload_n hx hb eX9_day_69.1 rfl (lv_at hl 1 rfl) ?_
  refine va_get (D := (dC, dI)) (ci := 9) (v := .ref xG) (C := RX9) (T := TX9) (N := 9) hx hb hts i_X9 hown hK hP 0 rfl rfl 0 (Nat.le_of_ble_eq_true rfl) (hts _ q_3) (fun _ h9 => h9) rfl eX9_day_69.2.1 ?_
  have hm := mgk (wc := (wd_X8_clear cI cC cZ cB cJ xG uT qI qJ rY)) hP mk_91 22 rfl rfl rfl
  refine g_callv hP hD hS hA (mixT mk_91) (mixF mk_91) hm.1 hm.2 (nd_F _) (dis_g _) (g_runV (As := []) (rest := []) C0 hP hD hS (mixT mk_91) hm.1 (nd_T _) 2 8 rfl rfl (c_X8_clear l dC dI cI cC cZ cB cJ xG uT H.size qI qJ rY _ hp) q_83 q_86 q_84 q_85 q_5 h_X8_clear rfl rfl ⟨Nat.le_of_ble_eq_true rfl, Nat.le_of_ble_eq_true rfl⟩ rfl rfl hl.1 rfl (lv_room (Nat.le_of_ble_eq_true rfl)) eX9_day_69.2.2.1 ⟨Nat.zero_le _, Nat.zero_le _⟩) (fun u H locs hp hP hD hS => ?_)
  obtain ⟨aCa, rfl⟩ : ∃ z, z = u := ⟨_, rfl⟩
  have hPD := PDm (ws' := (wd_X9_day cI cC cZ cB cJ a_x xG xD wY wJ wQ xI xK xJ tW uT xH tX jE mX pD oO oQ eG uS sW uR qY sY vX uO vQ qT vZ aCa qJ rY qM bZ bD bI aI wD gF pE qA nJ nY dQ jC eO eW dO fJ fY jD nG pG qB sH uP pQ mW qO qQ oF oE uF sG qF jJ)) hP hD 22 rfl rfl rfl
  have hP := hPD.1
  have hD := hPD.2
  refine lv_iload_n hx hb eX9_day_69.2.2.2.1 rfl (lv_at hl 0 rfl) ?_
  exact W.iret (v := k0) hx hb hr (fun t ht hW => ⟨⟨k0, (vZ, aCa, qJ, rY, jC, eO, eW, dO, fJ, fY, jD, nG, qO, qQ, oE, uF, sG, qF, jJ), rfl, hp, by rw [ht]; exact hP, va_K.moved hW.alike hK, hD⟩, hS.F ht⟩) hS.2.2 eX9_day_69.2.2.2.2
noncomputable def ws_X9_day_48 (post : Int32 → (Nat → Int32) → Int32 → Int32 → Int32 → Int32 → Int32 → Int32 → Int32 → Int32 → Int32 → Int32 → Int32 → (Nat → Int32) → (Nat → Int32) → Int32 → Int32 → (Nat → Int32) → Int32 → (Nat → Int32) → Prop) (qM : Nat → Int32) (bZ bD : Int32) (wD gF pE qA nJ nY dQ : Nat → Int32) (pG : Int32) (oF : Nat → Int32) (x1 k0 : Int32) (vZ : Nat → Int32) (qI qJ rY jC eO eW dO fJ fY jD nG : Int32) (qO qQ : Nat → Int32) (oE uF : Int32) (sG : Nat → Int32) (qF : Int32) (jJ : Nat → Int32) : Prop := (k0 = 0 → wp_X8_wrong (fun r_6 => ws_X9_day_68 post qM bZ bD wD gF pE qA nJ nY dQ pG oF r_6 vZ qI qJ rY jC eO eW dO fJ fY jD nG qO qQ oE uF sG qF jJ) qJ) ∧ (¬ k0 = 0 → wp_X9_doActs (fun r_8 no_apron_9 no_basket_10 no_ground_11 no_bruised_12 no_ladder_13 no_helper_14 no_today_15 aFa ru_given_17 ru_stack_18 pa_undoable_19 pa_free_20 pa_cells_21 ro_size_22 ro_numbers_23 => ws_X9_day_68 post qM bZ bD wD gF pE qA nJ nY dQ pG oF r_8 vZ qI qJ rY no_apron_9 no_basket_10 no_ground_11 no_bruised_12 no_ladder_13 no_helper_14 no_today_15 aFa ru_given_17 ru_stack_18 pa_undoable_19 pa_free_20 pa_cells_21 ro_size_22 ro_numbers_23) x1 vZ bZ bD wD gF pE qA nJ nY dQ jC eO eW dO fJ fY jD nG pG qO qQ oF oE uF sG qF jJ)
set_option maxHeartbeats 4000000 in
set_option maxRecDepth 100000 in
theorem ks_X9_day_48 (C0 : gc cX9_day (some .int) 4 RX9 (dC, dI) (tyl cI cC cZ cB cJ) A p s m args meth c) : ∀ (x1 k0 : Int32) (vZ : Nat → Int32) (qI qJ rY jC eO eW dO fJ fY jD nG : Int32) (qO qQ : Nat → Int32) (oE uF : Int32) (sG : Nat → Int32) (qF : Int32) (jJ : Nat → Int32) (H : Heap) (locs : List Loc) (ls : Array Slot), (ws_X9_day_48 post qM bZ bD wD gF pE qA nJ nY dQ pG oF) x1 k0 vZ qI qJ rY jC eO eW dO fJ fY jD nG qO qQ oE uF sG qF jJ → va_P (dC, dI) classes (wd_X9_day cI cC cZ cB cJ a_x xG xD wY wJ wQ xI xK xJ tW uT xH tX jE mX pD oO oQ eG uS sW uR qY sY vX uO vQ qT vZ qI qJ rY qM bZ bD bI aI wD gF pE qA nJ nY dQ jC eO eW dO fJ fY jD nG pG qB sH uP pQ mW qO qQ oF oE uF sG qF jJ) H → va_D A (wd_X9_day cI cC cZ cB cJ a_x xG xD wY wJ wQ xI xK xJ tW uT xH tX jE mX pD oO oQ eG uS sW uR qY sY vX uO vQ qT vZ qI qJ rY qM bZ bD bI aI wD gF pE qA nJ nY dQ jC eO eW dO fJ fY jD nG pG qB sH uP pQ mW qO qQ oF oE uF sG qF jJ) → va_S A s.heap H locs → lv_has ls 4 [(0, .ref a_x), (1, .int x1)] → W p l e rm_X9_day s m args below meth c H locs 0 0 (MQ below (q_X9_day dC dI cI cC cZ cB cJ A a_x xG xD wY wJ wQ xI xK xJ tW uT xH tX jE mX pD oO oQ eG uS sW uR qY sY vX uO vQ qT qM bZ bD bI aI wD gF pE qA nJ nY dQ pG qB sH uP pQ mW oF post) args s 0 0 A) (F0 m 48 ls [.int k0]) := by
  obtain ⟨hx, hb, hr, hml, hown, hts, hlocks, hA, hK, hN, tL, tM, hZL, hTL, hZM, hTM, hZX⟩ := id C0
  intro x1 k0 vZ qI qJ rY jC eO eW dO fJ fY jD nG qO qQ oE uF sG qF jJ H locs ls hp hP hD hS hl
  unfold ws_X9_day_48 at hp
  refine lv_istore_n (lv' := [(2, .int k0), (0, .ref a_x), (1, .int x1)]) hx hb eX9_day_37.2.2.2.2.2.1 rfl hl (by decide) rfl (fun ls hl => ?_)
  refine lv_iload_n hx hb eX9_day_37.2.2.2.2.2.2.1 rfl (lv_at hl 0 rfl) ?_
  refine lv_if_eq (tgt := 61) hx hb eX9_day_37.2.2.2.2.2.2.2.1 (by decide) (fun hc => ?_) (fun hc => ?_)
  · have hp := hp.1 hc
    refine lv_aload_n hx hb eX9_day_37.2.2.2.2.2.2.2.2.2.2.2.2.1 rfl (lv_at hl 1 rfl) ?_
    refine va_get (D := (dC, dI)) (ci := 9) (v := .ref xG) (C := RX9) (T := TX9) (N := 9) hx hb hts i_X9 hown hK hP 0 rfl rfl 0 (Nat.le_of_ble_eq_true rfl) (hts _ q_3) (fun _ h9 => h9) rfl eX9_day_37.2.2.2.2.2.2.2.2.2.2.2.2.2.1 ?_
    have hm := mgk (wc := (wd_X8_wrong cI cC cZ cB cJ xG uT qI qJ rY)) hP mk_91 22 rfl rfl rfl
    refine g_calli hP hD hS hA (mixT mk_91) (mixF mk_91) hm.1 hm.2 (nd_F _) (dis_g _) (g_runV (As := []) (rest := []) C0 hP hD hS (mixT mk_91) hm.1 (nd_T _) 2 8 rfl rfl (c_X8_wrong l dC dI cI cC cZ cB cJ xG uT H.size qI qJ rY _ hp) q_79 q_82 q_80 q_81 q_5 h_X8_wrong rfl rfl ⟨Nat.le_of_ble_eq_true rfl, Nat.le_of_ble_eq_true rfl⟩ rfl rfl hl.1 rfl (lv_room (Nat.le_of_ble_eq_true rfl)) eX9_day_37.2.2.2.2.2.2.2.2.2.2.2.2.2.2.1 ⟨Nat.zero_le _, Nat.zero_le _⟩) (fun r_6 u H locs hp hP hD hS => ?_)
    have hPD := PDm (ws' := (wd_X9_day cI cC cZ cB cJ a_x xG xD wY wJ wQ xI xK xJ tW uT xH tX jE mX pD oO oQ eG uS sW uR qY sY vX uO vQ qT vZ qI qJ rY qM bZ bD bI aI wD gF pE qA nJ nY dQ jC eO eW dO fJ fY jD nG pG qB sH uP pQ mW qO qQ oF oE uF sG qF jJ)) hP hD 22 rfl rfl rfl
    have hP := hPD.1
    have hD := hPD.2
    exact ks_X9_day_68 C0 r_6 vZ qI qJ rY jC eO eW dO fJ fY jD nG qO qQ oE uF sG qF jJ H locs ls hp hP hD hS (lv_sub hl [1] rfl)
  · have hp := hp.2 hc
    refine lv_aload_n hx hb eX9_day_37.2.2.2.2.2.2.2.2.1 rfl (lv_at hl 1 rfl) ?_
    refine lv_iload_n hx hb eX9_day_37.2.2.2.2.2.2.2.2.2.1 rfl (lv_at hl 2 rfl) ?_
    have hm := mgk (wc := (wd_X9_doActs cI cC cZ cB cJ a_x xG xD wY wJ wQ xI xK xJ tW xH tX jE mX pD oO oQ eG uS sW uR qY sY vX uO vQ qT vZ bZ bD bI aI wD gF pE qA nJ nY dQ jC eO eW dO fJ fY jD nG pG qB sH uP pQ mW qO qQ oF oE uF sG qF jJ)) hP mk_92 22 rfl rfl rfl
    refine g_calli hP hD hS hA (mixT mk_92) (mixF mk_92) hm.1 hm.2 (nd_F _) (dis_g _) (g_runV (As := [.int x1]) (rest := []) C0 hP hD hS (mixT mk_92) hm.1 (nd_T _) 0 9 rfl rfl (c_X9_doActs l dC dI cI cC cZ cB cJ a_x xG xD wY wJ wQ xI xK xJ tW xH tX jE mX pD oO oQ eG uS sW uR qY sY vX uO vQ qT H.size x1 vZ bZ bD bI aI wD gF pE qA nJ nY dQ jC eO eW dO fJ fY jD nG pG qB sH uP pQ mW qO qQ oF oE uF sG qF jJ _ hp) q_398 q_401 q_399 q_400 q_256 h_X9_doActs rfl rfl ⟨Nat.le_of_ble_eq_true rfl, Nat.le_of_ble_eq_true rfl⟩ rfl rfl hl.1 rfl (lv_room (Nat.le_of_ble_eq_true rfl)) eX9_day_37.2.2.2.2.2.2.2.2.2.2.1 ⟨Nat.zero_le _, Nat.zero_le _⟩) (fun r_8 u H locs hp hP hD hS => ?_)
    obtain ⟨no_apron_9, no_basket_10, no_ground_11, no_bruised_12, no_ladder_13, no_helper_14, no_today_15, aFa, ru_given_17, ru_stack_18, pa_undoable_19, pa_free_20, pa_cells_21, ro_size_22, ro_numbers_23⟩ := u
    have hPD := PDm (ws' := (wd_X9_day cI cC cZ cB cJ a_x xG xD wY wJ wQ xI xK xJ tW uT xH tX jE mX pD oO oQ eG uS sW uR qY sY vX uO vQ qT vZ qI qJ rY qM bZ bD bI aI wD gF pE qA nJ nY dQ no_apron_9 no_basket_10 no_ground_11 no_bruised_12 no_ladder_13 no_helper_14 no_today_15 aFa pG qB sH uP pQ mW ru_given_17 ru_stack_18 oF pa_undoable_19 pa_free_20 pa_cells_21 ro_size_22 ro_numbers_23)) hP hD 22 rfl rfl rfl
    have hP := hPD.1
    have hD := hPD.2
    refine lv_goto (tgt := 68) hx hb eX9_day_37.2.2.2.2.2.2.2.2.2.2.2.1 (by decide) ?_
    exact ks_X9_day_68 C0 r_8 vZ qI qJ rY no_apron_9 no_basket_10 no_ground_11 no_bruised_12 no_ladder_13 no_helper_14 no_today_15 aFa ru_given_17 ru_stack_18 pa_undoable_19 pa_free_20 pa_cells_21 ro_size_22 ro_numbers_23 H locs ls hp hP hD hS (lv_sub hl [1] rfl)
noncomputable def ws_X9_day_47 (post : Int32 → (Nat → Int32) → Int32 → Int32 → Int32 → Int32 → Int32 → Int32 → Int32 → Int32 → Int32 → Int32 → Int32 → (Nat → Int32) → (Nat → Int32) → Int32 → Int32 → (Nat → Int32) → Int32 → (Nat → Int32) → Prop) (qM : Nat → Int32) (bZ bD : Int32) (wD gF pE qA nJ nY dQ : Nat → Int32) (pG : Int32) (oF : Nat → Int32) (x1 : Int32) (vZ : Nat → Int32) (qI qJ rY jC eO eW dO fJ fY jD nG : Int32) (qO qQ : Nat → Int32) (oE uF : Int32) (sG : Nat → Int32) (qF : Int32) (jJ : Nat → Int32) : Prop := ws_X9_day_48 post qM bZ bD wD gF pE qA nJ nY dQ pG oF x1 0 vZ qI qJ rY jC eO eW dO fJ fY jD nG qO qQ oE uF sG qF jJ
set_option maxHeartbeats 4000000 in
set_option maxRecDepth 100000 in
theorem ks_X9_day_47 (C0 : gc cX9_day (some .int) 4 RX9 (dC, dI) (tyl cI cC cZ cB cJ) A p s m args meth c) : ∀ (x1 : Int32) (vZ : Nat → Int32) (qI qJ rY jC eO eW dO fJ fY jD nG : Int32) (qO qQ : Nat → Int32) (oE uF : Int32) (sG : Nat → Int32) (qF : Int32) (jJ : Nat → Int32) (H : Heap) (locs : List Loc) (ls : Array Slot), (ws_X9_day_47 post qM bZ bD wD gF pE qA nJ nY dQ pG oF) x1 vZ qI qJ rY jC eO eW dO fJ fY jD nG qO qQ oE uF sG qF jJ → va_P (dC, dI) classes (wd_X9_day cI cC cZ cB cJ a_x xG xD wY wJ wQ xI xK xJ tW uT xH tX jE mX pD oO oQ eG uS sW uR qY sY vX uO vQ qT vZ qI qJ rY qM bZ bD bI aI wD gF pE qA nJ nY dQ jC eO eW dO fJ fY jD nG pG qB sH uP pQ mW qO qQ oF oE uF sG qF jJ) H → va_D A (wd_X9_day cI cC cZ cB cJ a_x xG xD wY wJ wQ xI xK xJ tW uT xH tX jE mX pD oO oQ eG uS sW uR qY sY vX uO vQ qT vZ qI qJ rY qM bZ bD bI aI wD gF pE qA nJ nY dQ jC eO eW dO fJ fY jD nG pG qB sH uP pQ mW qO qQ oF oE uF sG qF jJ) → va_S A s.heap H locs → lv_has ls 4 [(0, .ref a_x), (1, .int x1)] → W p l e rm_X9_day s m args below meth c H locs 0 0 (MQ below (q_X9_day dC dI cI cC cZ cB cJ A a_x xG xD wY wJ wQ xI xK xJ tW uT xH tX jE mX pD oO oQ eG uS sW uR qY sY vX uO vQ qT qM bZ bD bI aI wD gF pE qA nJ nY dQ pG qB sH uP pQ mW oF post) args s 0 0 A) (F0 m 47 ls []) := by
  obtain ⟨hx, hb, hr, hml, hown, hts, hlocks, hA, hK, hN, tL, tM, hZL, hTL, hZM, hTM, hZX⟩ := id C0
  intro x1 vZ qI qJ rY jC eO eW dO fJ fY jD nG qO qQ oE uF sG qF jJ H locs ls hp hP hD hS hl
  unfold ws_X9_day_47 at hp
  refine lv_iconst (v := 0) hx hb eX9_day_37.2.2.2.2.1 ic_0 ?_
  exact ks_X9_day_48 C0 x1 0 vZ qI qJ rY jC eO eW dO fJ fY jD nG qO qQ oE uF sG qF jJ H locs ls hp hP hD hS (lv_sub hl [0, 1] rfl)
noncomputable def ws_X9_day_27 (post : Int32 → (Nat → Int32) → Int32 → Int32 → Int32 → Int32 → Int32 → Int32 → Int32 → Int32 → Int32 → Int32 → Int32 → (Nat → Int32) → (Nat → Int32) → Int32 → Int32 → (Nat → Int32) → Int32 → (Nat → Int32) → Prop) (qM : Nat → Int32) (bZ bD : Int32) (wD gF pE qA nJ nY dQ : Nat → Int32) (pG : Int32) (oF : Nat → Int32) (k0 : Int32) (vZ : Nat → Int32) (qI qJ rY jC eO eW dO fJ fY jD nG : Int32) (qO qQ : Nat → Int32) (oE uF : Int32) (sG : Nat → Int32) (qF : Int32) (jJ : Nat → Int32) : Prop := (k0 = (-1) → ws_X9_day_47 post qM bZ bD wD gF pE qA nJ nY dQ pG oF k0 vZ qI qJ rY jC eO eW dO fJ fY jD nG qO qQ oE uF sG qF jJ) ∧ (¬ k0 = (-1) → wp_X8_isThrough (fun r_24 => (r_24 = 0 → ws_X9_day_47 post qM bZ bD wD gF pE qA nJ nY dQ pG oF k0 vZ qI qJ rY jC eO eW dO fJ fY jD nG qO qQ oE uF sG qF jJ) ∧ (¬ r_24 = 0 → ws_X9_day_48 post qM bZ bD wD gF pE qA nJ nY dQ pG oF k0 1 vZ qI qJ rY jC eO eW dO fJ fY jD nG qO qQ oE uF sG qF jJ)) qI qJ)
set_option maxHeartbeats 4000000 in
set_option maxRecDepth 100000 in
theorem ks_X9_day_27 (C0 : gc cX9_day (some .int) 4 RX9 (dC, dI) (tyl cI cC cZ cB cJ) A p s m args meth c) : ∀ (k0 : Int32) (vZ : Nat → Int32) (qI qJ rY jC eO eW dO fJ fY jD nG : Int32) (qO qQ : Nat → Int32) (oE uF : Int32) (sG : Nat → Int32) (qF : Int32) (jJ : Nat → Int32) (H : Heap) (locs : List Loc) (ls : Array Slot), (ws_X9_day_27 post qM bZ bD wD gF pE qA nJ nY dQ pG oF) k0 vZ qI qJ rY jC eO eW dO fJ fY jD nG qO qQ oE uF sG qF jJ → va_P (dC, dI) classes (wd_X9_day cI cC cZ cB cJ a_x xG xD wY wJ wQ xI xK xJ tW uT xH tX jE mX pD oO oQ eG uS sW uR qY sY vX uO vQ qT vZ qI qJ rY qM bZ bD bI aI wD gF pE qA nJ nY dQ jC eO eW dO fJ fY jD nG pG qB sH uP pQ mW qO qQ oF oE uF sG qF jJ) H → va_D A (wd_X9_day cI cC cZ cB cJ a_x xG xD wY wJ wQ xI xK xJ tW uT xH tX jE mX pD oO oQ eG uS sW uR qY sY vX uO vQ qT vZ qI qJ rY qM bZ bD bI aI wD gF pE qA nJ nY dQ jC eO eW dO fJ fY jD nG pG qB sH uP pQ mW qO qQ oF oE uF sG qF jJ) → va_S A s.heap H locs → lv_has ls 4 [(0, .ref a_x)] → W p l e rm_X9_day s m args below meth c H locs 0 0 (MQ below (q_X9_day dC dI cI cC cZ cB cJ A a_x xG xD wY wJ wQ xI xK xJ tW uT xH tX jE mX pD oO oQ eG uS sW uR qY sY vX uO vQ qT qM bZ bD bI aI wD gF pE qA nJ nY dQ pG qB sH uP pQ mW oF post) args s 0 0 A) (F0 m 27 ls [.int k0]) := by
  obtain ⟨hx, hb, hr, hml, hown, hts, hlocks, hA, hK, hN, tL, tM, hZL, hTL, hZM, hTM, hZX⟩ := id C0
  intro k0 vZ qI qJ rY jC eO eW dO fJ fY jD nG qO qQ oE uF sG qF jJ H locs ls hp hP hD hS hl
  unfold ws_X9_day_27 at hp
  refine lv_istore_n (lv' := [(1, .int k0), (0, .ref a_x)]) hx hb eX9_day_4.2.2.2.2.2.2.2.2.2.2.1 rfl hl (by decide) rfl (fun ls hl => ?_)
  refine lv_iload_n hx hb eX9_day_4.2.2.2.2.2.2.2.2.2.2.2.1 rfl (lv_at hl 0 rfl) ?_
  refine lv_iconst (v := (-1)) hx hb eX9_day_4.2.2.2.2.2.2.2.2.2.2.2.2.1 ic_m1 ?_
  refine lv_icmp_eq (tgt := 47) hx hb eX9_day_4.2.2.2.2.2.2.2.2.2.2.2.2.2.1 (by decide) (fun hc => ?_) (fun hc => ?_)
  · have hp := hp.1 hc
    exact ks_X9_day_47 C0 k0 vZ qI qJ rY jC eO eW dO fJ fY jD nG qO qQ oE uF sG qF jJ H locs ls hp hP hD hS (lv_sub hl [1, 0] rfl)
  · have hp := hp.2 hc
    refine lv_aload_n hx hb eX9_day_4.2.2.2.2.2.2.2.2.2.2.2.2.2.2.1 rfl (lv_at hl 1 rfl) ?_
    refine va_get (D := (dC, dI)) (ci := 9) (v := .ref xG) (C := RX9) (T := TX9) (N := 9) hx hb hts i_X9 hown hK hP 0 rfl rfl 0 (Nat.le_of_ble_eq_true rfl) (hts _ q_3) (fun _ h9 => h9) rfl eX9_day_4.2.2.2.2.2.2.2.2.2.2.2.2.2.2.2 ?_
    have hm := mgk (wc := (wd_X8_isThrough cI cC cZ cB cJ xG uT qI qJ rY)) hP mk_91 22 rfl rfl rfl
    refine g_calli hP hD hS hA (mixT mk_91) (mixF mk_91) hm.1 hm.2 (nd_F _) (dis_g _) (g_runV (As := []) (rest := []) C0 hP hD hS (mixT mk_91) hm.1 (nd_T _) 2 8 rfl rfl (c_X8_isThrough l dC dI cI cC cZ cB cJ xG uT H.size qI qJ rY _ hp) q_97 q_100 q_98 q_99 q_5 h_X8_isThrough rfl rfl ⟨Nat.le_of_ble_eq_true rfl, Nat.le_of_ble_eq_true rfl⟩ rfl rfl hl.1 rfl (lv_room (Nat.le_of_ble_eq_true rfl)) eX9_day_37.1 ⟨Nat.zero_le _, Nat.zero_le _⟩) (fun r_24 u H locs hp hP hD hS => ?_)
    have hPD := PDm (ws' := (wd_X9_day cI cC cZ cB cJ a_x xG xD wY wJ wQ xI xK xJ tW uT xH tX jE mX pD oO oQ eG uS sW uR qY sY vX uO vQ qT vZ qI qJ rY qM bZ bD bI aI wD gF pE qA nJ nY dQ jC eO eW dO fJ fY jD nG pG qB sH uP pQ mW qO qQ oF oE uF sG qF jJ)) hP hD 22 rfl rfl rfl
    have hP := hPD.1
    have hD := hPD.2
    refine lv_if_eq (tgt := 47) hx hb eX9_day_37.2.1 (by decide) (fun hc => ?_) (fun hc => ?_)
    · have hp := hp.1 hc
      exact ks_X9_day_47 C0 k0 vZ qI qJ rY jC eO eW dO fJ fY jD nG qO qQ oE uF sG qF jJ H locs ls hp hP hD hS (lv_sub hl [1, 0] rfl)
    · have hp := hp.2 hc
      refine lv_iconst (v := 1) hx hb eX9_day_37.2.2.1 ic_1 ?_
      refine lv_goto (tgt := 48) hx hb eX9_day_37.2.2.2.1 (by decide) ?_
      exact ks_X9_day_48 C0 k0 1 vZ qI qJ rY jC eO eW dO fJ fY jD nG qO qQ oE uF sG qF jJ H locs ls hp hP hD hS (lv_sub hl [1, 0] rfl)
end S_X9_day
noncomputable def wp_X9_day (post : Int32 → (Nat → Int32) → Int32 → Int32 → Int32 → Int32 → Int32 → Int32 → Int32 → Int32 → Int32 → Int32 → Int32 → (Nat → Int32) → (Nat → Int32) → Int32 → Int32 → (Nat → Int32) → Int32 → (Nat → Int32) → Prop) (vZ : Nat → Int32) (qI qJ rY : Int32) (qM : Nat → Int32) (bZ bD : Int32) (wD gF pE qA nJ nY dQ : Nat → Int32) (jC eO eW dO fJ fY jD nG pG : Int32) (qO qQ oF : Nat → Int32) (oE uF : Int32) (sG : Nat → Int32) (qF : Int32) (jJ : Nat → Int32) : Prop := wp_X8_open (fun aAz zT => (¬ qI = 0 → wp_X9_readActs (fun r_3 x_acts_4 aAF => ws_X9_day_27 post qM bZ bD wD gF pE qA nJ nY dQ pG oF r_3 x_acts_4 qI aAF zT jC eO eW dO fJ fY jD nG qO qQ oE uF sG qF jJ) vZ aAz zT qM) ∧ (qI = 0 → ws_X9_day_27 post qM bZ bD wD gF pE qA nJ nY dQ pG oF 0 vZ qI aAz zT jC eO eW dO fJ fY jD nG qO qQ oE uF sG qF jJ)) 60 qI qJ rY
set_option maxHeartbeats 4000000 in
set_option maxRecDepth 100000 in
theorem c_X9_day (l : Launch) (dC : Nat → ClassId) (dI : Nat → Nat → Nat) (cI cC cZ cB cJ : ClassId) (a_x xG xD wY wJ wQ xI xK xJ tW uT xH tX jE mX pD oO oQ eG uS sW uR qY sY vX uO vQ qT sz : Nat) (vZ : Nat → Int32) (qI qJ rY : Int32) (qM : Nat → Int32) (bZ bD bI aI : Int32) (wD gF pE qA nJ nY dQ : Nat → Int32) (jC eO eW dO fJ fY jD nG pG qB sH uP pQ mW : Int32) (qO qQ oF : Nat → Int32) (oE uF : Int32) (sG : Nat → Int32) (qF : Int32) (jJ : Nat → Int32) (post : Int32 → (Nat → Int32) → Int32 → Int32 → Int32 → Int32 → Int32 → Int32 → Int32 → Int32 → Int32 → Int32 → Int32 → (Nat → Int32) → (Nat → Int32) → Int32 → Int32 → (Nat → Int32) → Int32 → (Nat → Int32) → Prop) (hw : wp_X9_day post vZ qI qJ rY qM bZ bD wD gF pE qA nJ nY dQ jC eO eW dO fJ fY jD nG pG qO qQ oF oE uF sG qF jJ) : Met l yX9_day (gw yX9_day cX9_day 4 (some .int)) rm_X9_day (va_Pc [.ref a_x] (gPre (dC, dI) (tyl cI cC cZ cB cJ) (wd_X9_day cI cC cZ cB cJ a_x xG xD wY wJ wQ xI xK xJ tW uT xH tX jE mX pD oO oQ eG uS sW uR qY sY vX uO vQ qT vZ qI qJ rY qM bZ bD bI aI wD gF pE qA nJ nY dQ jC eO eW dO fJ fY jD nG pG qB sH uP pQ mW qO qQ oF oE uF sG qF jJ) sz)) (q_X9_day dC dI cI cC cZ cB cJ (va_A (wd_X9_day cI cC cZ cB cJ a_x xG xD wY wJ wQ xI xK xJ tW uT xH tX jE mX pD oO oQ eG uS sW uR qY sY vX uO vQ qT vZ qI qJ rY qM bZ bD bI aI wD gF pE qA nJ nY dQ jC eO eW dO fJ fY jD nG pG qB sH uP pQ mW qO qQ oF oE uF sG qF jJ) sz) a_x xG xD wY wJ wQ xI xK xJ tW uT xH tX jE mX pD oO oQ eG uS sW uR qY sY vX uO vQ qT qM bZ bD bI aI wD gF pE qA nJ nY dQ pG qB sH uP pQ mW oF post) 0 0 (va_A (wd_X9_day cI cC cZ cB cJ a_x xG xD wY wJ wQ xI xK xJ tW uT xH tX jE mX pD oO oQ eG uS sW uR qY sY vX uO vQ qT vZ qI qJ rY qM bZ bD bI aI wD gF pE qA nJ nY dQ jC eO eW dO fJ fY jD nG pG qB sH uP pQ mW qO qQ oF oE uF sG qF jJ) sz) := by
  refine g_enter (own := RX9) (dC, dI) (tyl cI cC cZ cB cJ) (wd_X9_day cI cC cZ cB cJ a_x xG xD wY wJ wQ xI xK xJ tW uT xH tX jE mX pD oO oQ eG uS sW uR qY sY vX uO vQ qT vZ qI qJ rY qM bZ bD bI aI wD gF pE qA nJ nY dQ jC eO eW dO fJ fY jD nG pG qB sH uP pQ mW qO qQ oF oE uF sG qF jJ) sz [.ref a_x] (fun A => q_X9_day dC dI cI cC cZ cB cJ A a_x xG xD wY wJ wQ xI xK xJ tW uT xH tX jE mX pD oO oQ eG uS sW uR qY sY vX uO vQ qT qM bZ bD bI aI wD gF pE qA nJ nY dQ pG qB sH uP pQ mW oF post) pn_RX9 rfl (Nat.le_of_ble_eq_true rfl) ?_
  intro p e s m args below meth c A H locs ls C0 hP hD hS hl
  have hl : lv_has ls 4 [(0, .ref a_x)] := hl
  obtain ⟨hx, hb, hr, hml, hown, hts, hlocks, hA, hK, hN, tL, tM, hZL, hTL, hZM, hTM, hZX⟩ := id C0
  have hp := hw
  unfold wp_X9_day at hp
  refine lv_aload_n hx hb eX9_day_0.1 rfl (lv_at hl 0 rfl) ?_
  refine va_get (D := (dC, dI)) (ci := 9) (v := .ref xG) (C := RX9) (T := TX9) (N := 9) hx hb hts i_X9 hown hK hP 0 rfl rfl 0 (Nat.le_of_ble_eq_true rfl) (hts _ q_3) (fun _ h9 => h9) rfl eX9_day_0.2 ?_
  refine lv_bipush (v := 60) hx hb eX9_day_4.1 bp_60 ?_
  have hm := mgk (wc := (wd_X8_open cI cC cZ cB cJ xG uT qI qJ rY)) hP mk_91 22 rfl rfl rfl
  refine g_callv hP hD hS hA (mixT mk_91) (mixF mk_91) hm.1 hm.2 (nd_F _) (dis_g _) (g_runV (As := [.int 60]) (rest := []) C0 hP hD hS (mixT mk_91) hm.1 (nd_T _) 2 8 rfl rfl (c_X8_open l dC dI cI cC cZ cB cJ xG uT H.size 60 qI qJ rY _ hp) q_69 q_72 q_70 q_71 q_5 h_X8_open rfl rfl ⟨Nat.le_of_ble_eq_true rfl, Nat.le_of_ble_eq_true rfl⟩ rfl rfl hl.1 rfl (lv_room (Nat.le_of_ble_eq_true rfl)) eX9_day_4.2.1 ⟨Nat.zero_le _, Nat.zero_le _⟩) (fun u H locs hp hP hD hS => ?_)
  obtain ⟨aAz, zT⟩ := u
  have hPD := PDm (ws' := (wd_X9_day cI cC cZ cB cJ a_x xG xD wY wJ wQ xI xK xJ tW uT xH tX jE mX pD oO oQ eG uS sW uR qY sY vX uO vQ qT vZ qI aAz zT qM bZ bD bI aI wD gF pE qA nJ nY dQ jC eO eW dO fJ fY jD nG pG qB sH uP pQ mW qO qQ oF oE uF sG qF jJ)) hP hD 22 rfl rfl rfl
  have hP := hPD.1
  have hD := hPD.2
  refine lv_aload_n hx hb eX9_day_4.2.2.1 rfl (lv_at hl 0 rfl) ?_
  refine va_get (D := (dC, dI)) (ci := 9) (v := .ref xG) (C := RX9) (T := TX9) (N := 9) hx hb hts i_X9 hown hK hP 0 rfl rfl 0 (Nat.le_of_ble_eq_true rfl) (hts _ q_3) (fun _ h9 => h9) rfl eX9_day_4.2.2.2.1 ?_
  refine va_get (D := (dC, dI)) (ci := 8) (v := .int qI) (C := RX8) (T := TX8) (N := 4) hx hb hts i_X8 hown hK hP 2 rfl rfl 1 (Nat.le_of_ble_eq_true rfl) (hts _ q_73) (fun _ h9 => h9) rfl eX9_day_4.2.2.2.2.1 ?_
  refine lv_if_ne (tgt := 23) hx hb eX9_day_4.2.2.2.2.2.1 (by decide) (fun hc => ?_) (fun hc => ?_)
  · have hp := hp.1 hc
    refine lv_aload_n hx hb eX9_day_4.2.2.2.2.2.2.2.2.1 rfl (lv_at hl 0 rfl) ?_
    have hm := mgk (wc := (wd_X9_readActs cI cC cZ cB cJ a_x xG xD wY wJ wQ xI xK xJ tW uT vZ qI aAz zT qM)) hP mk_93 22 rfl rfl rfl
    refine g_calli hP hD hS hA (mixT mk_93) (mixF mk_93) hm.1 hm.2 (nd_F _) (dis_g _) (g_runV (As := []) (rest := []) C0 hP hD hS (mixT mk_93) hm.1 (nd_T _) 0 9 rfl rfl (c_X9_readActs l dC dI cI cC cZ cB cJ a_x xG xD wY wJ wQ xI xK xJ tW uT H.size vZ qI aAz zT qM _ hp) q_394 q_397 q_395 q_396 q_256 h_X9_readActs rfl rfl ⟨Nat.le_of_ble_eq_true rfl, Nat.le_of_ble_eq_true rfl⟩ rfl rfl hl.1 rfl (lv_room (Nat.le_of_ble_eq_true rfl)) eX9_day_4.2.2.2.2.2.2.2.2.2.1 ⟨Nat.zero_le _, Nat.zero_le _⟩) (fun r_3 u H locs hp hP hD hS => ?_)
    obtain ⟨x_acts_4, aAF⟩ := u
    have hPD := PDm (ws' := (wd_X9_day cI cC cZ cB cJ a_x xG xD wY wJ wQ xI xK xJ tW uT xH tX jE mX pD oO oQ eG uS sW uR qY sY vX uO vQ qT x_acts_4 qI aAF zT qM bZ bD bI aI wD gF pE qA nJ nY dQ jC eO eW dO fJ fY jD nG pG qB sH uP pQ mW qO qQ oF oE uF sG qF jJ)) hP hD 22 rfl rfl rfl
    have hP := hPD.1
    have hD := hPD.2
    exact ks_X9_day_27 C0 r_3 x_acts_4 qI aAF zT jC eO eW dO fJ fY jD nG qO qQ oE uF sG qF jJ H locs ls hp hP hD hS (lv_sub hl [0] rfl)
  · have hp := hp.2 hc
    refine lv_iconst (v := 0) hx hb eX9_day_4.2.2.2.2.2.2.1 ic_0 ?_
    refine lv_goto (tgt := 27) hx hb eX9_day_4.2.2.2.2.2.2.2.1 (by decide) ?_
    exact ks_X9_day_27 C0 0 vZ qI aAz zT jC eO eW dO fJ fY jD nG qO qQ oE uF sG qF jJ H locs ls hp hP hD hS (lv_sub hl [0] rfl)
noncomputable abbrev wd_X2_read (cI cC cZ cB cJ : ClassId) (wQ vX : Nat) (jC eO eW dO fJ fY jD nG : Int32) (sG : Nat → Int32) : va_W := [(wQ, .inr (2, [.int jC, .int eO, .int eW, .int dO, .int fJ, .int fY, .int jD, .int nG])), (vX, .inl (cI, 104, .inl sG))]
noncomputable abbrev q_X2_read (dC : Nat → ClassId) (dI : Nat → Nat → Nat) (cI cC cZ cB cJ : ClassId) (A : Nat → Prop) (wQ vX : Nat) (sG : Nat → Int32) (post : Int32 → Int32 → Int32 → Int32 → Int32 → Int32 → Int32 → Int32 → Prop) : Array Value → State → Outcome → State → Prop := va_Qv (fun (u : Int32 × Int32 × Int32 × Int32 × Int32 × Int32 × Int32 × Int32) => post u.1 u.2.1 u.2.2.1 u.2.2.2.1 u.2.2.2.2.1 u.2.2.2.2.2.1 u.2.2.2.2.2.2.1 u.2.2.2.2.2.2.2) (fun u t => gB (dC, dI) (tyl cI cC cZ cB cJ) A (wd_X2_read cI cC cZ cB cJ wQ vX u.1 u.2.1 u.2.2.1 u.2.2.2.1 u.2.2.2.2.1 u.2.2.2.2.2.1 u.2.2.2.2.2.2.1 u.2.2.2.2.2.2.2 sG) t) A
noncomputable abbrev rm_X2_read : Room := { frames := 0, cells := 0, slots := 0, locals := 0 }
noncomputable def wp_X2_read (post : Int32 → Int32 → Int32 → Int32 → Int32 → Int32 → Int32 → Int32 → Prop) (p1 jC eO eW dO fJ fY jD nG : Int32) (sG : Nat → Int32) : Prop := (p1 < 0 → post jC eO eW dO fJ fY jD nG) ∧ (¬ p1 < 0 → (p1 ≤ (104 - 8) → vp_in p1 104 ∧ (∀ v_1 : Int32, v_1 = sG p1.toNatClampNeg → ∀ v_2 : Int32, v_2 = p1 + 1 → vp_in v_2 104 ∧ (∀ v_3 : Int32, v_3 = sG v_2.toNatClampNeg → ∀ v_4 : Int32, v_4 = p1 + 2 → vp_in v_4 104 ∧ (∀ v_5 : Int32, v_5 = sG v_4.toNatClampNeg → ∀ v_6 : Int32, v_6 = p1 + 3 → vp_in v_6 104 ∧ (∀ v_7 : Int32, v_7 = sG v_6.toNatClampNeg → ∀ v_8 : Int32, v_8 = p1 + 4 → vp_in v_8 104 ∧ (∀ v_9 : Int32, v_9 = sG v_8.toNatClampNeg → ∀ v_10 : Int32, v_10 = p1 + 5 → vp_in v_10 104 ∧ (∀ v_11 : Int32, v_11 = sG v_10.toNatClampNeg → ∀ v_12 : Int32, v_12 = p1 + 6 → vp_in v_12 104 ∧ (∀ v_13 : Int32, v_13 = sG v_12.toNatClampNeg → ∀ v_14 : Int32, v_14 = p1 + 7 → vp_in v_14 104 ∧ (∀ v_15 : Int32, v_15 = sG v_14.toNatClampNeg → post v_1 v_3 v_5 v_7 v_9 v_11 v_13 v_15))))))))) ∧ (¬ p1 ≤ (104 - 8) → post jC eO eW dO fJ fY jD nG))
set_option maxHeartbeats 4000000 in
set_option maxRecDepth 100000 in
theorem c_X2_read (l : Launch) (dC : Nat → ClassId) (dI : Nat → Nat → Nat) (cI cC cZ cB cJ : ClassId) (wQ vX sz : Nat) (p1 jC eO eW dO fJ fY jD nG : Int32) (sG : Nat → Int32) (post : Int32 → Int32 → Int32 → Int32 → Int32 → Int32 → Int32 → Int32 → Prop) (hw : wp_X2_read post p1 jC eO eW dO fJ fY jD nG sG) : Met l yX2_read (gw yX2_read cX2_read 3 none) rm_X2_read (va_Pc [.ref wQ, .ref vX, .int p1] (gPre (dC, dI) (tyl cI cC cZ cB cJ) (wd_X2_read cI cC cZ cB cJ wQ vX jC eO eW dO fJ fY jD nG sG) sz)) (q_X2_read dC dI cI cC cZ cB cJ (va_A (wd_X2_read cI cC cZ cB cJ wQ vX jC eO eW dO fJ fY jD nG sG) sz) wQ vX sG post) 0 0 (va_A (wd_X2_read cI cC cZ cB cJ wQ vX jC eO eW dO fJ fY jD nG sG) sz) := by
  refine g_enter (own := RX2) (dC, dI) (tyl cI cC cZ cB cJ) (wd_X2_read cI cC cZ cB cJ wQ vX jC eO eW dO fJ fY jD nG sG) sz [.ref wQ, .ref vX, .int p1] (fun A => q_X2_read dC dI cI cC cZ cB cJ A wQ vX sG post) pn_RX2 rfl (Nat.le_of_ble_eq_true rfl) ?_
  intro p e s m args below meth c A H locs ls C0 hP hD hS hl
  have hl : lv_has ls 3 [(0, .ref wQ), (1, .ref vX), (2, .int p1)] := hl
  obtain ⟨hx, hb, hr, hml, hown, hts, hlocks, hA, hK, hN, tL, tM, hZL, hTL, hZM, hTM, hZX⟩ := id C0
  have hp := hw
  unfold wp_X2_read at hp
  refine lv_iload_n hx hb eX2_read_0.1 rfl (lv_at hl 2 rfl) ?_
  refine lv_if_lt (tgt := 13) hx hb eX2_read_0.2.1 (by decide) (fun hc => ?_) (fun hc => ?_)
  · have hp := hp.1 hc
    exact W.vret hx hb hr (fun t ht hW => ⟨⟨(jC, eO, eW, dO, fJ, fY, jD, nG), rfl, hp, by rw [ht]; exact hP, va_K.moved hW.alike hK, hD⟩, hS.F ht⟩) hS.2.2 eX2_read_0.2.2.2.2.2.2.2.2.1
  · have hp := hp.2 hc
    refine lv_iload_n hx hb eX2_read_0.2.2.1 rfl (lv_at hl 2 rfl) ?_
    refine lv_aload_n hx hb eX2_read_0.2.2.2.1 rfl (lv_at hl 1 rfl) ?_
    refine va_alen (v := 104) hx hb hK hP 1 0 rfl rfl rfl eX2_read_0.2.2.2.2.1 ?_
    refine lv_bipush (v := 8) hx hb eX2_read_0.2.2.2.2.2.1 bp_8 ?_
    refine lv_isub hx hb eX2_read_0.2.2.2.2.2.2.1 ?_
    refine lv_icmp_le (tgt := 14) hx hb eX2_read_0.2.2.2.2.2.2.2.1 (by decide) (fun hc => ?_) (fun hc => ?_)
    · have hp := hp.1 hc
      refine lv_aload_n hx hb eX2_read_0.2.2.2.2.2.2.2.2.2.1 rfl (lv_at hl 0 rfl) ?_
      refine lv_aload_n hx hb eX2_read_0.2.2.2.2.2.2.2.2.2.2.1 rfl (lv_at hl 1 rfl) ?_
      refine lv_iload_n hx hb eX2_read_0.2.2.2.2.2.2.2.2.2.2.2.1 rfl (lv_at hl 2 rfl) ?_
      have hin := hp.1
      have hp := hp.2
      refine va_iald hx hb hK hP 1 0 rfl rfl hin eX2_read_0.2.2.2.2.2.2.2.2.2.2.2.2.1 ?_
      refine lv_topi (fun v_1 ev_1 => ?_)
      have hp := hp v_1 ev_1
      refine va_put (D := (dC, dI)) (ci := 2) (v := .int v_1) (ty := .int) (C := RX2) (T := TX2) (N := 8) hx hb hts i_X2 tyX2 tyX2_ok nmX2 hown hK hP hD hS 0 rfl rfl 0 (Nat.le_of_ble_eq_true rfl) (hts _ q_168) (fun _ h9 => h9) rfl (tyX2_ok 0 (Nat.le_of_ble_eq_true rfl)) rfl rfl (Nat.le_of_ble_eq_true rfl) eX2_read_0.2.2.2.2.2.2.2.2.2.2.2.2.2.1 (fun H locs hP hD hS => ?_)
      have hP : va_P (dC, dI) classes (wd_X2_read cI cC cZ cB cJ wQ vX v_1 eO eW dO fJ fY jD nG sG) H := hP
      have hD : va_D A (wd_X2_read cI cC cZ cB cJ wQ vX v_1 eO eW dO fJ fY jD nG sG) := hD
      refine lv_aload_n hx hb eX2_read_0.2.2.2.2.2.2.2.2.2.2.2.2.2.2.1 rfl (lv_at hl 0 rfl) ?_
      refine lv_aload_n hx hb eX2_read_0.2.2.2.2.2.2.2.2.2.2.2.2.2.2.2 rfl (lv_at hl 1 rfl) ?_
      refine lv_iload_n hx hb eX2_read_23.1 rfl (lv_at hl 2 rfl) ?_
      refine lv_iconst (v := 1) hx hb eX2_read_23.2.1 ic_1 ?_
      refine lv_iadd hx hb eX2_read_23.2.2.1 ?_
      refine lv_topi (fun v_2 ev_2 => ?_)
      have hp := hp v_2 ev_2
      have hin := hp.1
      have hp := hp.2
      refine va_iald hx hb hK hP 1 0 rfl rfl hin eX2_read_23.2.2.2.1 ?_
      refine lv_topi (fun v_3 ev_3 => ?_)
      have hp := hp v_3 ev_3
      refine va_put (D := (dC, dI)) (ci := 2) (v := .int v_3) (ty := .int) (C := RX2) (T := TX2) (N := 8) hx hb hts i_X2 tyX2 tyX2_ok nmX2 hown hK hP hD hS 0 rfl rfl 1 (Nat.le_of_ble_eq_true rfl) (hts _ q_169) (fun _ h9 => h9) rfl (tyX2_ok 1 (Nat.le_of_ble_eq_true rfl)) rfl rfl (Nat.le_of_ble_eq_true rfl) eX2_read_23.2.2.2.2.1 (fun H locs hP hD hS => ?_)
      have hP : va_P (dC, dI) classes (wd_X2_read cI cC cZ cB cJ wQ vX v_1 v_3 eW dO fJ fY jD nG sG) H := hP
      have hD : va_D A (wd_X2_read cI cC cZ cB cJ wQ vX v_1 v_3 eW dO fJ fY jD nG sG) := hD
      refine lv_aload_n hx hb eX2_read_23.2.2.2.2.2.1 rfl (lv_at hl 0 rfl) ?_
      refine lv_aload_n hx hb eX2_read_23.2.2.2.2.2.2.1 rfl (lv_at hl 1 rfl) ?_
      refine lv_iload_n hx hb eX2_read_23.2.2.2.2.2.2.2.1 rfl (lv_at hl 2 rfl) ?_
      refine lv_iconst (v := 2) hx hb eX2_read_23.2.2.2.2.2.2.2.2.1 ic_2 ?_
      refine lv_iadd hx hb eX2_read_23.2.2.2.2.2.2.2.2.2.1 ?_
      refine lv_topi (fun v_4 ev_4 => ?_)
      have hp := hp v_4 ev_4
      have hin := hp.1
      have hp := hp.2
      refine va_iald hx hb hK hP 1 0 rfl rfl hin eX2_read_23.2.2.2.2.2.2.2.2.2.2.1 ?_
      refine lv_topi (fun v_5 ev_5 => ?_)
      have hp := hp v_5 ev_5
      refine va_put (D := (dC, dI)) (ci := 2) (v := .int v_5) (ty := .int) (C := RX2) (T := TX2) (N := 8) hx hb hts i_X2 tyX2 tyX2_ok nmX2 hown hK hP hD hS 0 rfl rfl 2 (Nat.le_of_ble_eq_true rfl) (hts _ q_170) (fun _ h9 => h9) rfl (tyX2_ok 2 (Nat.le_of_ble_eq_true rfl)) rfl rfl (Nat.le_of_ble_eq_true rfl) eX2_read_23.2.2.2.2.2.2.2.2.2.2.2.1 (fun H locs hP hD hS => ?_)
      have hP : va_P (dC, dI) classes (wd_X2_read cI cC cZ cB cJ wQ vX v_1 v_3 v_5 dO fJ fY jD nG sG) H := hP
      have hD : va_D A (wd_X2_read cI cC cZ cB cJ wQ vX v_1 v_3 v_5 dO fJ fY jD nG sG) := hD
      refine lv_aload_n hx hb eX2_read_23.2.2.2.2.2.2.2.2.2.2.2.2.1 rfl (lv_at hl 0 rfl) ?_
      refine lv_aload_n hx hb eX2_read_23.2.2.2.2.2.2.2.2.2.2.2.2.2.1 rfl (lv_at hl 1 rfl) ?_
      refine lv_iload_n hx hb eX2_read_23.2.2.2.2.2.2.2.2.2.2.2.2.2.2.1 rfl (lv_at hl 2 rfl) ?_
      refine lv_iconst (v := 3) hx hb eX2_read_23.2.2.2.2.2.2.2.2.2.2.2.2.2.2.2 ic_3 ?_
      refine lv_iadd hx hb eX2_read_43.1 ?_
      refine lv_topi (fun v_6 ev_6 => ?_)
      have hp := hp v_6 ev_6
      have hin := hp.1
      have hp := hp.2
      refine va_iald hx hb hK hP 1 0 rfl rfl hin eX2_read_43.2.1 ?_
      refine lv_topi (fun v_7 ev_7 => ?_)
      have hp := hp v_7 ev_7
      refine va_put (D := (dC, dI)) (ci := 2) (v := .int v_7) (ty := .int) (C := RX2) (T := TX2) (N := 8) hx hb hts i_X2 tyX2 tyX2_ok nmX2 hown hK hP hD hS 0 rfl rfl 3 (Nat.le_of_ble_eq_true rfl) (hts _ q_214) (fun _ h9 => h9) rfl (tyX2_ok 3 (Nat.le_of_ble_eq_true rfl)) rfl rfl (Nat.le_of_ble_eq_true rfl) eX2_read_43.2.2.1 (fun H locs hP hD hS => ?_)
      have hP : va_P (dC, dI) classes (wd_X2_read cI cC cZ cB cJ wQ vX v_1 v_3 v_5 v_7 fJ fY jD nG sG) H := hP
      have hD : va_D A (wd_X2_read cI cC cZ cB cJ wQ vX v_1 v_3 v_5 v_7 fJ fY jD nG sG) := hD
      refine lv_aload_n hx hb eX2_read_43.2.2.2.1 rfl (lv_at hl 0 rfl) ?_
      refine lv_aload_n hx hb eX2_read_43.2.2.2.2.1 rfl (lv_at hl 1 rfl) ?_
      refine lv_iload_n hx hb eX2_read_43.2.2.2.2.2.1 rfl (lv_at hl 2 rfl) ?_
      refine lv_iconst (v := 4) hx hb eX2_read_43.2.2.2.2.2.2.1 ic_4 ?_
      refine lv_iadd hx hb eX2_read_43.2.2.2.2.2.2.2.1 ?_
      refine lv_topi (fun v_8 ev_8 => ?_)
      have hp := hp v_8 ev_8
      have hin := hp.1
      have hp := hp.2
      refine va_iald hx hb hK hP 1 0 rfl rfl hin eX2_read_43.2.2.2.2.2.2.2.2.1 ?_
      refine lv_topi (fun v_9 ev_9 => ?_)
      have hp := hp v_9 ev_9
      refine va_put (D := (dC, dI)) (ci := 2) (v := .int v_9) (ty := .int) (C := RX2) (T := TX2) (N := 8) hx hb hts i_X2 tyX2 tyX2_ok nmX2 hown hK hP hD hS 0 rfl rfl 4 (Nat.le_of_ble_eq_true rfl) (hts _ q_215) (fun _ h9 => h9) rfl (tyX2_ok 4 (Nat.le_of_ble_eq_true rfl)) rfl rfl (Nat.le_of_ble_eq_true rfl) eX2_read_43.2.2.2.2.2.2.2.2.2.1 (fun H locs hP hD hS => ?_)
      have hP : va_P (dC, dI) classes (wd_X2_read cI cC cZ cB cJ wQ vX v_1 v_3 v_5 v_7 v_9 fY jD nG sG) H := hP
      have hD : va_D A (wd_X2_read cI cC cZ cB cJ wQ vX v_1 v_3 v_5 v_7 v_9 fY jD nG sG) := hD
      refine lv_aload_n hx hb eX2_read_43.2.2.2.2.2.2.2.2.2.2.1 rfl (lv_at hl 0 rfl) ?_
      refine lv_aload_n hx hb eX2_read_43.2.2.2.2.2.2.2.2.2.2.2.1 rfl (lv_at hl 1 rfl) ?_
      refine lv_iload_n hx hb eX2_read_43.2.2.2.2.2.2.2.2.2.2.2.2.1 rfl (lv_at hl 2 rfl) ?_
      refine lv_iconst (v := 5) hx hb eX2_read_43.2.2.2.2.2.2.2.2.2.2.2.2.2.1 ic_5 ?_
      refine lv_iadd hx hb eX2_read_43.2.2.2.2.2.2.2.2.2.2.2.2.2.2.1 ?_
      refine lv_topi (fun v_10 ev_10 => ?_)
      have hp := hp v_10 ev_10
      have hin := hp.1
      have hp := hp.2
      refine va_iald hx hb hK hP 1 0 rfl rfl hin eX2_read_43.2.2.2.2.2.2.2.2.2.2.2.2.2.2.2 ?_
      refine lv_topi (fun v_11 ev_11 => ?_)
      have hp := hp v_11 ev_11
      refine va_put (D := (dC, dI)) (ci := 2) (v := .int v_11) (ty := .int) (C := RX2) (T := TX2) (N := 8) hx hb hts i_X2 tyX2 tyX2_ok nmX2 hown hK hP hD hS 0 rfl rfl 5 (Nat.le_of_ble_eq_true rfl) (hts _ q_216) (fun _ h9 => h9) rfl (tyX2_ok 5 (Nat.le_of_ble_eq_true rfl)) rfl rfl (Nat.le_of_ble_eq_true rfl) eX2_read_63.1 (fun H locs hP hD hS => ?_)
      have hP : va_P (dC, dI) classes (wd_X2_read cI cC cZ cB cJ wQ vX v_1 v_3 v_5 v_7 v_9 v_11 jD nG sG) H := hP
      have hD : va_D A (wd_X2_read cI cC cZ cB cJ wQ vX v_1 v_3 v_5 v_7 v_9 v_11 jD nG sG) := hD
      refine lv_aload_n hx hb eX2_read_63.2.1 rfl (lv_at hl 0 rfl) ?_
      refine lv_aload_n hx hb eX2_read_63.2.2.1 rfl (lv_at hl 1 rfl) ?_
      refine lv_iload_n hx hb eX2_read_63.2.2.2.1 rfl (lv_at hl 2 rfl) ?_
      refine lv_bipush (v := 6) hx hb eX2_read_63.2.2.2.2.1 bp_6 ?_
      refine lv_iadd hx hb eX2_read_63.2.2.2.2.2.1 ?_
      refine lv_topi (fun v_12 ev_12 => ?_)
      have hp := hp v_12 ev_12
      have hin := hp.1
      have hp := hp.2
      refine va_iald hx hb hK hP 1 0 rfl rfl hin eX2_read_63.2.2.2.2.2.2.1 ?_
      refine lv_topi (fun v_13 ev_13 => ?_)
      have hp := hp v_13 ev_13
      refine va_put (D := (dC, dI)) (ci := 2) (v := .int v_13) (ty := .int) (C := RX2) (T := TX2) (N := 8) hx hb hts i_X2 tyX2 tyX2_ok nmX2 hown hK hP hD hS 0 rfl rfl 6 (Nat.le_of_ble_eq_true rfl) (hts _ q_217) (fun _ h9 => h9) rfl (tyX2_ok 6 (Nat.le_of_ble_eq_true rfl)) rfl rfl (Nat.le_of_ble_eq_true rfl) eX2_read_63.2.2.2.2.2.2.2.1 (fun H locs hP hD hS => ?_)
      have hP : va_P (dC, dI) classes (wd_X2_read cI cC cZ cB cJ wQ vX v_1 v_3 v_5 v_7 v_9 v_11 v_13 nG sG) H := hP
      have hD : va_D A (wd_X2_read cI cC cZ cB cJ wQ vX v_1 v_3 v_5 v_7 v_9 v_11 v_13 nG sG) := hD
      refine lv_aload_n hx hb eX2_read_63.2.2.2.2.2.2.2.2.1 rfl (lv_at hl 0 rfl) ?_
      refine lv_aload_n hx hb eX2_read_63.2.2.2.2.2.2.2.2.2.1 rfl (lv_at hl 1 rfl) ?_
      refine lv_iload_n hx hb eX2_read_63.2.2.2.2.2.2.2.2.2.2.1 rfl (lv_at hl 2 rfl) ?_
      refine lv_bipush (v := 7) hx hb eX2_read_63.2.2.2.2.2.2.2.2.2.2.2.1 bp_7 ?_
      refine lv_iadd hx hb eX2_read_63.2.2.2.2.2.2.2.2.2.2.2.2.1 ?_
      refine lv_topi (fun v_14 ev_14 => ?_)
      have hp := hp v_14 ev_14
      have hin := hp.1
      have hp := hp.2
      refine va_iald hx hb hK hP 1 0 rfl rfl hin eX2_read_63.2.2.2.2.2.2.2.2.2.2.2.2.2.1 ?_
      refine lv_topi (fun v_15 ev_15 => ?_)
      have hp := hp v_15 ev_15
      refine va_put (D := (dC, dI)) (ci := 2) (v := .int v_15) (ty := .int) (C := RX2) (T := TX2) (N := 8) hx hb hts i_X2 tyX2 tyX2_ok nmX2 hown hK hP hD hS 0 rfl rfl 7 (Nat.le_of_ble_eq_true rfl) (hts _ q_218) (fun _ h9 => h9) rfl (tyX2_ok 7 (Nat.le_of_ble_eq_true rfl)) rfl rfl (Nat.le_of_ble_eq_true rfl) eX2_read_63.2.2.2.2.2.2.2.2.2.2.2.2.2.2.1 (fun H locs hP hD hS => ?_)
      have hP : va_P (dC, dI) classes (wd_X2_read cI cC cZ cB cJ wQ vX v_1 v_3 v_5 v_7 v_9 v_11 v_13 v_15 sG) H := hP
      have hD : va_D A (wd_X2_read cI cC cZ cB cJ wQ vX v_1 v_3 v_5 v_7 v_9 v_11 v_13 v_15 sG) := hD
      exact W.vret hx hb hr (fun t ht hW => ⟨⟨(v_1, v_3, v_5, v_7, v_9, v_11, v_13, v_15), rfl, hp, by rw [ht]; exact hP, va_K.moved hW.alike hK, hD⟩, hS.F ht⟩) hS.2.2 eX2_read_63.2.2.2.2.2.2.2.2.2.2.2.2.2.2.2
    · have hp := hp.2 hc
      exact W.vret hx hb hr (fun t ht hW => ⟨⟨(jC, eO, eW, dO, fJ, fY, jD, nG), rfl, hp, by rw [ht]; exact hP, va_K.moved hW.alike hK, hD⟩, hS.F ht⟩) hS.2.2 eX2_read_0.2.2.2.2.2.2.2.2.1
noncomputable abbrev wd_X4_goBack (cI cC cZ cB cJ : ClassId) (wQ xI vX uO vQ : Nat) (jC eO eW dO fJ fY jD nG oE uF : Int32) (sG : Nat → Int32) : va_W := [(wQ, .inr (2, [.int jC, .int eO, .int eW, .int dO, .int fJ, .int fY, .int jD, .int nG])), (xI, .inr (4, [.ref vX, .ref uO, .ref vQ, .int oE, .int uF])), (vX, .inl (cI, 104, .inl sG))]
noncomputable abbrev q_X4_goBack (dC : Nat → ClassId) (dI : Nat → Nat → Nat) (cI cC cZ cB cJ : ClassId) (A : Nat → Prop) (wQ xI vX uO vQ : Nat) (sG : Nat → Int32) (post : Int32 → Int32 → Int32 → Int32 → Int32 → Int32 → Int32 → Int32 → Int32 → Int32 → Prop) : Array Value → State → Outcome → State → Prop := va_Qv (fun (u : Int32 × Int32 × Int32 × Int32 × Int32 × Int32 × Int32 × Int32 × Int32 × Int32) => post u.1 u.2.1 u.2.2.1 u.2.2.2.1 u.2.2.2.2.1 u.2.2.2.2.2.1 u.2.2.2.2.2.2.1 u.2.2.2.2.2.2.2.1 u.2.2.2.2.2.2.2.2.1 u.2.2.2.2.2.2.2.2.2) (fun u t => gB (dC, dI) (tyl cI cC cZ cB cJ) A (wd_X4_goBack cI cC cZ cB cJ wQ xI vX uO vQ u.1 u.2.1 u.2.2.1 u.2.2.2.1 u.2.2.2.2.1 u.2.2.2.2.2.1 u.2.2.2.2.2.2.1 u.2.2.2.2.2.2.2.1 u.2.2.2.2.2.2.2.2.1 u.2.2.2.2.2.2.2.2.2 sG) t) A
noncomputable abbrev rm_X4_goBack : Room := { frames := 1, cells := 0, slots := 0, locals := 22 }
noncomputable def wp_X4_goBack (post : Int32 → Int32 → Int32 → Int32 → Int32 → Int32 → Int32 → Int32 → Int32 → Int32 → Prop) (jC eO eW dO fJ fY jD nG oE uF : Int32) (sG : Nat → Int32) : Prop := ∀ v_1 : Int32, v_1 = uF + 13 → ∀ v_2 : Int32, v_2 = v_1 - 1 → ∀ v_3 : Int32, v_3 = v_2 - v_2 / 13 * 13 → ∀ v_4 : Int32, v_4 = oE - 1 → ∀ v_5 : Int32, v_5 = v_3 * 8 → wp_X2_read (fun no_apron_6 no_basket_7 no_ground_8 aDl no_ladder_10 no_helper_11 no_today_12 no_clock_13 => post no_apron_6 no_basket_7 no_ground_8 aDl no_ladder_10 no_helper_11 no_today_12 no_clock_13 v_4 v_3) v_5 jC eO eW dO fJ fY jD nG sG
set_option maxHeartbeats 4000000 in
set_option maxRecDepth 100000 in
theorem c_X4_goBack (l : Launch) (dC : Nat → ClassId) (dI : Nat → Nat → Nat) (cI cC cZ cB cJ : ClassId) (wQ xI vX uO vQ sz : Nat) (jC eO eW dO fJ fY jD nG oE uF : Int32) (sG : Nat → Int32) (post : Int32 → Int32 → Int32 → Int32 → Int32 → Int32 → Int32 → Int32 → Int32 → Int32 → Prop) (hw : wp_X4_goBack post jC eO eW dO fJ fY jD nG oE uF sG) : Met l yX4_goBack (gw yX4_goBack cX4_goBack 2 none) rm_X4_goBack (va_Pc [.ref xI, .ref wQ] (gPre (dC, dI) (tyl cI cC cZ cB cJ) (wd_X4_goBack cI cC cZ cB cJ wQ xI vX uO vQ jC eO eW dO fJ fY jD nG oE uF sG) sz)) (q_X4_goBack dC dI cI cC cZ cB cJ (va_A (wd_X4_goBack cI cC cZ cB cJ wQ xI vX uO vQ jC eO eW dO fJ fY jD nG oE uF sG) sz) wQ xI vX uO vQ sG post) 0 0 (va_A (wd_X4_goBack cI cC cZ cB cJ wQ xI vX uO vQ jC eO eW dO fJ fY jD nG oE uF sG) sz) := by
  refine g_enter (own := RX4) (dC, dI) (tyl cI cC cZ cB cJ) (wd_X4_goBack cI cC cZ cB cJ wQ xI vX uO vQ jC eO eW dO fJ fY jD nG oE uF sG) sz [.ref xI, .ref wQ] (fun A => q_X4_goBack dC dI cI cC cZ cB cJ A wQ xI vX uO vQ sG post) pn_RX4 rfl (Nat.le_of_ble_eq_true rfl) ?_
  intro p e s m args below meth c A H locs ls C0 hP hD hS hl
  have hl : lv_has ls 2 [(0, .ref xI), (1, .ref wQ)] := hl
  obtain ⟨hx, hb, hr, hml, hown, hts, hlocks, hA, hK, hN, tL, tM, hZL, hTL, hZM, hTM, hZX⟩ := id C0
  have hp := hw
  unfold wp_X4_goBack at hp
  refine lv_aload_n hx hb eX4_goBack_0.1 rfl (lv_at hl 0 rfl) ?_
  refine lv_aload_n hx hb eX4_goBack_0.2.1 rfl (lv_at hl 0 rfl) ?_
  refine va_get (D := (dC, dI)) (ci := 4) (v := .int uF) (C := RX4) (T := TX4) (N := 5) hx hb hts i_X4 hown hK hP 1 rfl rfl 4 (Nat.le_of_ble_eq_true rfl) (hts _ q_220) (fun _ h9 => h9) rfl eX4_goBack_0.2.2.1 ?_
  refine lv_bipush (v := 13) hx hb eX4_goBack_0.2.2.2.1 bp_13 ?_
  refine lv_iadd hx hb eX4_goBack_0.2.2.2.2.1 ?_
  refine lv_topi (fun v_1 ev_1 => ?_)
  have hp := hp v_1 ev_1
  refine lv_iconst (v := 1) hx hb eX4_goBack_0.2.2.2.2.2.1 ic_1 ?_
  refine lv_isub hx hb eX4_goBack_0.2.2.2.2.2.2.1 ?_
  refine lv_topi (fun v_2 ev_2 => ?_)
  have hp := hp v_2 ev_2
  refine lv_bipush (v := 13) hx hb eX4_goBack_0.2.2.2.2.2.2.2.1 bp_13 ?_
  refine lv_irem hx hb eX4_goBack_0.2.2.2.2.2.2.2.2.1 (by decide) ?_
  refine lv_topi (fun v_3 ev_3 => ?_)
  have hp := hp v_3 ev_3
  refine va_put (D := (dC, dI)) (ci := 4) (v := .int v_3) (ty := .int) (C := RX4) (T := TX4) (N := 5) hx hb hts i_X4 tyX4 tyX4_ok nmX4 hown hK hP hD hS 1 rfl rfl 4 (Nat.le_of_ble_eq_true rfl) (hts _ q_220) (fun _ h9 => h9) rfl (tyX4_ok 4 (Nat.le_of_ble_eq_true rfl)) rfl rfl (Nat.le_of_ble_eq_true rfl) eX4_goBack_0.2.2.2.2.2.2.2.2.2.1 (fun H locs hP hD hS => ?_)
  have hP : va_P (dC, dI) classes (wd_X4_goBack cI cC cZ cB cJ wQ xI vX uO vQ jC eO eW dO fJ fY jD nG oE v_3 sG) H := hP
  have hD : va_D A (wd_X4_goBack cI cC cZ cB cJ wQ xI vX uO vQ jC eO eW dO fJ fY jD nG oE v_3 sG) := hD
  refine lv_aload_n hx hb eX4_goBack_0.2.2.2.2.2.2.2.2.2.2.1 rfl (lv_at hl 0 rfl) ?_
  refine lv_dup hx hb eX4_goBack_0.2.2.2.2.2.2.2.2.2.2.2.1 rfl ?_
  refine va_get (D := (dC, dI)) (ci := 4) (v := .int oE) (C := RX4) (T := TX4) (N := 5) hx hb hts i_X4 hown hK hP 1 rfl rfl 3 (Nat.le_of_ble_eq_true rfl) (hts _ q_23) (fun _ h9 => h9) rfl eX4_goBack_0.2.2.2.2.2.2.2.2.2.2.2.2.1 ?_
  refine lv_iconst (v := 1) hx hb eX4_goBack_0.2.2.2.2.2.2.2.2.2.2.2.2.2.1 ic_1 ?_
  refine lv_isub hx hb eX4_goBack_0.2.2.2.2.2.2.2.2.2.2.2.2.2.2.1 ?_
  refine lv_topi (fun v_4 ev_4 => ?_)
  have hp := hp v_4 ev_4
  refine va_put (D := (dC, dI)) (ci := 4) (v := .int v_4) (ty := .int) (C := RX4) (T := TX4) (N := 5) hx hb hts i_X4 tyX4 tyX4_ok nmX4 hown hK hP hD hS 1 rfl rfl 3 (Nat.le_of_ble_eq_true rfl) (hts _ q_23) (fun _ h9 => h9) rfl (tyX4_ok 3 (Nat.le_of_ble_eq_true rfl)) rfl rfl (Nat.le_of_ble_eq_true rfl) eX4_goBack_0.2.2.2.2.2.2.2.2.2.2.2.2.2.2.2 (fun H locs hP hD hS => ?_)
  have hP : va_P (dC, dI) classes (wd_X4_goBack cI cC cZ cB cJ wQ xI vX uO vQ jC eO eW dO fJ fY jD nG v_4 v_3 sG) H := hP
  have hD : va_D A (wd_X4_goBack cI cC cZ cB cJ wQ xI vX uO vQ jC eO eW dO fJ fY jD nG v_4 v_3 sG) := hD
  refine lv_aload_n hx hb eX4_goBack_26.1 rfl (lv_at hl 1 rfl) ?_
  refine lv_aload_n hx hb eX4_goBack_26.2.1 rfl (lv_at hl 0 rfl) ?_
  refine va_get (D := (dC, dI)) (ci := 4) (v := .ref vX) (C := RX4) (T := TX4) (N := 5) hx hb hts i_X4 hown hK hP 1 rfl rfl 0 (Nat.le_of_ble_eq_true rfl) (hts _ q_219) (fun _ h9 => h9) rfl eX4_goBack_26.2.2.1 ?_
  refine lv_aload_n hx hb eX4_goBack_26.2.2.2.1 rfl (lv_at hl 0 rfl) ?_
  refine va_get (D := (dC, dI)) (ci := 4) (v := .int v_3) (C := RX4) (T := TX4) (N := 5) hx hb hts i_X4 hown hK hP 1 rfl rfl 4 (Nat.le_of_ble_eq_true rfl) (hts _ q_220) (fun _ h9 => h9) rfl eX4_goBack_26.2.2.2.2.1 ?_
  refine lv_bipush (v := 8) hx hb eX4_goBack_26.2.2.2.2.2.1 bp_8 ?_
  refine lv_imul hx hb eX4_goBack_26.2.2.2.2.2.2.1 ?_
  refine lv_topi (fun v_5 ev_5 => ?_)
  have hp := hp v_5 ev_5
  have hm := mgk (wc := (wd_X2_read cI cC cZ cB cJ wQ vX jC eO eW dO fJ fY jD nG sG)) hP aGw 3 rfl rfl rfl
  refine g_callv hP hD hS hA (mixT aGw) (mixF aGw) hm.1 hm.2 (nd_F _) (dis_g _) (g_runV (As := [.ref vX, .int v_5]) (rest := []) C0 hP hD hS (mixT aGw) hm.1 (nd_T _) 0 2 rfl rfl (c_X2_read l dC dI cI cC cZ cB cJ wQ vX H.size v_5 jC eO eW dO fJ fY jD nG sG _ hp) q_402 q_405 q_403 q_404 q_181 h_X2_read rfl rfl ⟨Nat.le_of_ble_eq_true rfl, Nat.le_of_ble_eq_true rfl⟩ rfl rfl hl.1 rfl (lv_room (Nat.le_of_ble_eq_true rfl)) eX4_goBack_26.2.2.2.2.2.2.2.1 ⟨Nat.zero_le _, Nat.zero_le _⟩) (fun u H locs hp hP hD hS => ?_)
  obtain ⟨no_apron_6, no_basket_7, no_ground_8, aDl, no_ladder_10, no_helper_11, no_today_12, no_clock_13⟩ := u
  have hPD := PDm (ws' := (wd_X4_goBack cI cC cZ cB cJ wQ xI vX uO vQ no_apron_6 no_basket_7 no_ground_8 aDl no_ladder_10 no_helper_11 no_today_12 no_clock_13 v_4 v_3 sG)) hP hD 3 rfl rfl rfl
  have hP := hPD.1
  have hD := hPD.2
  exact W.vret hx hb hr (fun t ht hW => ⟨⟨(no_apron_6, no_basket_7, no_ground_8, aDl, no_ladder_10, no_helper_11, no_today_12, no_clock_13, v_4, v_3), rfl, hp, by rw [ht]; exact hP, va_K.moved hW.alike hK, hD⟩, hS.F ht⟩) hS.2.2 eX4_goBack_26.2.2.2.2.2.2.2.2
noncomputable abbrev wd_X9_undo (cI cC cZ cB cJ : ClassId) (a_x xG xD wY wJ wQ xI xK xJ tW vX uO vQ : Nat) (jC eO eW dO fJ fY jD nG oE uF : Int32) (sG : Nat → Int32) : va_W := [(a_x, .inr (9, [.ref xG, .ref xD, .ref wY, .ref wJ, .ref wQ, .ref xI, .ref xK, .ref xJ, .ref tW])), (wQ, .inr (2, [.int jC, .int eO, .int eW, .int dO, .int fJ, .int fY, .int jD, .int nG])), (xI, .inr (4, [.ref vX, .ref uO, .ref vQ, .int oE, .int uF])), (vX, .inl (cI, 104, .inl sG))]
noncomputable abbrev q_X9_undo (dC : Nat → ClassId) (dI : Nat → Nat → Nat) (cI cC cZ cB cJ : ClassId) (A : Nat → Prop) (a_x xG xD wY wJ wQ xI xK xJ tW vX uO vQ : Nat) (sG : Nat → Int32) (post : Int32 → Int32 → Int32 → Int32 → Int32 → Int32 → Int32 → Int32 → Int32 → Int32 → Int32 → Prop) : Array Value → State → Outcome → State → Prop := va_Qi (fun (r : Int32) (u : Int32 × Int32 × Int32 × Int32 × Int32 × Int32 × Int32 × Int32 × Int32 × Int32) => post r u.1 u.2.1 u.2.2.1 u.2.2.2.1 u.2.2.2.2.1 u.2.2.2.2.2.1 u.2.2.2.2.2.2.1 u.2.2.2.2.2.2.2.1 u.2.2.2.2.2.2.2.2.1 u.2.2.2.2.2.2.2.2.2) (fun u t => gB (dC, dI) (tyl cI cC cZ cB cJ) A (wd_X9_undo cI cC cZ cB cJ a_x xG xD wY wJ wQ xI xK xJ tW vX uO vQ u.1 u.2.1 u.2.2.1 u.2.2.2.1 u.2.2.2.2.1 u.2.2.2.2.2.1 u.2.2.2.2.2.2.1 u.2.2.2.2.2.2.2.1 u.2.2.2.2.2.2.2.2.1 u.2.2.2.2.2.2.2.2.2 sG) t) A
noncomputable abbrev rm_X9_undo : Room := { frames := 2, cells := 0, slots := 0, locals := 43 }
noncomputable def wp_X9_undo (post : Int32 → Int32 → Int32 → Int32 → Int32 → Int32 → Int32 → Int32 → Int32 → Int32 → Int32 → Prop) (jC eO eW dO fJ fY jD nG oE uF : Int32) (sG : Nat → Int32) : Prop := (¬ oE = 0 → wp_X4_goBack (fun no_apron_1 no_basket_2 aDx aAS aA7 no_helper_6 no_today_7 no_clock_8 aAo aB4 => post aAo no_apron_1 no_basket_2 aDx aAS aA7 no_helper_6 no_today_7 no_clock_8 aAo aB4) jC eO eW dO fJ fY jD nG oE uF sG) ∧ (oE = 0 → post (-1) jC eO eW dO fJ fY jD nG oE uF)
set_option maxHeartbeats 4000000 in
set_option maxRecDepth 100000 in
theorem c_X9_undo (l : Launch) (dC : Nat → ClassId) (dI : Nat → Nat → Nat) (cI cC cZ cB cJ : ClassId) (a_x xG xD wY wJ wQ xI xK xJ tW vX uO vQ sz : Nat) (jC eO eW dO fJ fY jD nG oE uF : Int32) (sG : Nat → Int32) (post : Int32 → Int32 → Int32 → Int32 → Int32 → Int32 → Int32 → Int32 → Int32 → Int32 → Int32 → Prop) (hw : wp_X9_undo post jC eO eW dO fJ fY jD nG oE uF sG) : Met l yX9_undo (gw yX9_undo cX9_undo 1 (some .int)) rm_X9_undo (va_Pc [.ref a_x] (gPre (dC, dI) (tyl cI cC cZ cB cJ) (wd_X9_undo cI cC cZ cB cJ a_x xG xD wY wJ wQ xI xK xJ tW vX uO vQ jC eO eW dO fJ fY jD nG oE uF sG) sz)) (q_X9_undo dC dI cI cC cZ cB cJ (va_A (wd_X9_undo cI cC cZ cB cJ a_x xG xD wY wJ wQ xI xK xJ tW vX uO vQ jC eO eW dO fJ fY jD nG oE uF sG) sz) a_x xG xD wY wJ wQ xI xK xJ tW vX uO vQ sG post) 0 0 (va_A (wd_X9_undo cI cC cZ cB cJ a_x xG xD wY wJ wQ xI xK xJ tW vX uO vQ jC eO eW dO fJ fY jD nG oE uF sG) sz) := by
  refine g_enter (own := RX9) (dC, dI) (tyl cI cC cZ cB cJ) (wd_X9_undo cI cC cZ cB cJ a_x xG xD wY wJ wQ xI xK xJ tW vX uO vQ jC eO eW dO fJ fY jD nG oE uF sG) sz [.ref a_x] (fun A => q_X9_undo dC dI cI cC cZ cB cJ A a_x xG xD wY wJ wQ xI xK xJ tW vX uO vQ sG post) pn_RX9 rfl (Nat.le_of_ble_eq_true rfl) ?_
  intro p e s m args below meth c A H locs ls C0 hP hD hS hl
  have hl : lv_has ls 1 [(0, .ref a_x)] := hl
  obtain ⟨hx, hb, hr, hml, hown, hts, hlocks, hA, hK, hN, tL, tM, hZL, hTL, hZM, hTM, hZX⟩ := id C0
  have hp := hw
  unfold wp_X9_undo at hp
  refine lv_aload_n hx hb eX9_undo_0.1 rfl (lv_at hl 0 rfl) ?_
  refine va_get (D := (dC, dI)) (ci := 9) (v := .ref xI) (C := RX9) (T := TX9) (N := 9) hx hb hts i_X9 hown hK hP 0 rfl rfl 5 (Nat.le_of_ble_eq_true rfl) (hts _ q_91) (fun _ h9 => h9) rfl eX9_undo_0.2.1 ?_
  refine va_get (D := (dC, dI)) (ci := 4) (v := .int oE) (C := RX4) (T := TX4) (N := 5) hx hb hts i_X4 hown hK hP 2 rfl rfl 3 (Nat.le_of_ble_eq_true rfl) (hts _ q_406) (fun _ h9 => h9) rfl eX9_undo_0.2.2.1 ?_
  refine lv_if_ne (tgt := 12) hx hb eX9_undo_0.2.2.2.1 (by decide) (fun hc => ?_) (fun hc => ?_)
  · have hp := hp.1 hc
    refine lv_aload_n hx hb eX9_undo_0.2.2.2.2.2.2.1 rfl (lv_at hl 0 rfl) ?_
    refine va_get (D := (dC, dI)) (ci := 9) (v := .ref xI) (C := RX9) (T := TX9) (N := 9) hx hb hts i_X9 hown hK hP 0 rfl rfl 5 (Nat.le_of_ble_eq_true rfl) (hts _ q_91) (fun _ h9 => h9) rfl eX9_undo_0.2.2.2.2.2.2.2.1 ?_
    refine lv_aload_n hx hb eX9_undo_0.2.2.2.2.2.2.2.2.1 rfl (lv_at hl 0 rfl) ?_
    refine va_get (D := (dC, dI)) (ci := 9) (v := .ref wQ) (C := RX9) (T := TX9) (N := 9) hx hb hts i_X9 hown hK hP 0 rfl rfl 4 (Nat.le_of_ble_eq_true rfl) (hts _ q_179) (fun _ h9 => h9) rfl eX9_undo_0.2.2.2.2.2.2.2.2.2.1 ?_
    have hm := mgk (wc := (wd_X4_goBack cI cC cZ cB cJ wQ xI vX uO vQ jC eO eW dO fJ fY jD nG oE uF sG)) hP mk_94 4 rfl rfl rfl
    refine g_callv hP hD hS hA (mixT mk_94) (mixF mk_94) hm.1 hm.2 (nd_F _) (dis_g _) (g_runV (As := [.ref wQ]) (rest := []) C0 hP hD hS (mixT mk_94) hm.1 (nd_T _) 2 4 rfl rfl (c_X4_goBack l dC dI cI cC cZ cB cJ wQ xI vX uO vQ H.size jC eO eW dO fJ fY jD nG oE uF sG _ hp) q_407 q_410 q_408 q_409 q_93 h_X4_goBack rfl rfl ⟨Nat.le_of_ble_eq_true rfl, Nat.le_of_ble_eq_true rfl⟩ rfl rfl hl.1 rfl (lv_room (Nat.le_of_ble_eq_true rfl)) eX9_undo_0.2.2.2.2.2.2.2.2.2.2.1 ⟨Nat.zero_le _, Nat.zero_le _⟩) (fun u H locs hp hP hD hS => ?_)
    obtain ⟨no_apron_1, no_basket_2, aDx, aAS, aA7, no_helper_6, no_today_7, no_clock_8, aAo, aB4⟩ := u
    have hPD := PDm (ws' := (wd_X9_undo cI cC cZ cB cJ a_x xG xD wY wJ wQ xI xK xJ tW vX uO vQ no_apron_1 no_basket_2 aDx aAS aA7 no_helper_6 no_today_7 no_clock_8 aAo aB4 sG)) hP hD 4 rfl rfl rfl
    have hP := hPD.1
    have hD := hPD.2
    refine lv_aload_n hx hb eX9_undo_0.2.2.2.2.2.2.2.2.2.2.2.1 rfl (lv_at hl 0 rfl) ?_
    refine va_get (D := (dC, dI)) (ci := 9) (v := .ref xI) (C := RX9) (T := TX9) (N := 9) hx hb hts i_X9 hown hK hP 0 rfl rfl 5 (Nat.le_of_ble_eq_true rfl) (hts _ q_91) (fun _ h9 => h9) rfl eX9_undo_0.2.2.2.2.2.2.2.2.2.2.2.2.1 ?_
    refine va_get (D := (dC, dI)) (ci := 4) (v := .int aAo) (C := RX4) (T := TX4) (N := 5) hx hb hts i_X4 hown hK hP 2 rfl rfl 3 (Nat.le_of_ble_eq_true rfl) (hts _ q_406) (fun _ h9 => h9) rfl eX9_undo_0.2.2.2.2.2.2.2.2.2.2.2.2.2.1 ?_
    exact W.iret (v := aAo) hx hb hr (fun t ht hW => ⟨⟨aAo, (no_apron_1, no_basket_2, aDx, aAS, aA7, no_helper_6, no_today_7, no_clock_8, aAo, aB4), rfl, hp, by rw [ht]; exact hP, va_K.moved hW.alike hK, hD⟩, hS.F ht⟩) hS.2.2 eX9_undo_0.2.2.2.2.2.2.2.2.2.2.2.2.2.2
  · have hp := hp.2 hc
    refine lv_iconst (v := (-1)) hx hb eX9_undo_0.2.2.2.2.1 ic_m1 ?_
    exact W.iret (v := (-1)) hx hb hr (fun t ht hW => ⟨⟨(-1), (jC, eO, eW, dO, fJ, fY, jD, nG, oE, uF), rfl, hp, by rw [ht]; exact hP, va_K.moved hW.alike hK, hD⟩, hS.F ht⟩) hS.2.2 eX9_undo_0.2.2.2.2.2.1
noncomputable abbrev wd_X9_reached (cI cC cZ cB cJ : ClassId) (a_x xG xD wY wJ wQ xI xK xJ tW tX jE mX pD oO oQ eG qT : Nat) (bZ bD bI aI : Int32) (wD gF nJ nY dQ : Nat → Int32) (qF : Int32) (jJ : Nat → Int32) : va_W := [(a_x, .inr (9, [.ref xG, .ref xD, .ref wY, .ref wJ, .ref wQ, .ref xI, .ref xK, .ref xJ, .ref tW])), (wJ, .inr (3, [.ref tX, .ref jE, .ref mX, .ref pD, .ref oO, .ref oQ, .ref eG, .int bZ, .int bD, .int bI, .int aI])), (tX, .inl (cI, 16, .inl wD)), (jE, .inl (cI, 16, .inl gF)), (oO, .inl (cI, 8, .inl nJ)), (oQ, .inl (cI, 8, .inl nY)), (eG, .inl (cI, 5, .inl dQ)), (xK, .inr (6, [.ref qT, .int qF])), (qT, .inl (cI, 16, .inl jJ))]
noncomputable abbrev q_X9_reached (dC : Nat → ClassId) (dI : Nat → Nat → Nat) (cI cC cZ cB cJ : ClassId) (A : Nat → Prop) (a_x xG xD wY wJ wQ xI xK xJ tW tX jE mX pD oO oQ eG qT : Nat) (bZ bD bI aI : Int32) (wD gF nJ nY dQ : Nat → Int32) (post : Int32 → Int32 → (Nat → Int32) → Prop) : Array Value → State → Outcome → State → Prop := va_Qi (fun (r : Int32) (u : Int32 × (Nat → Int32)) => post r u.1 u.2) (fun u t => gB (dC, dI) (tyl cI cC cZ cB cJ) A (wd_X9_reached cI cC cZ cB cJ a_x xG xD wY wJ wQ xI xK xJ tW tX jE mX pD oO oQ eG qT bZ bD bI aI wD gF nJ nY dQ u.1 u.2) t) A
noncomputable abbrev rm_X9_reached : Room := { frames := 3, cells := 0, slots := 0, locals := 71 }
noncomputable def wp_X9_reached (post : Int32 → Int32 → (Nat → Int32) → Prop) (p0 bZ bD : Int32) (wD gF nJ nY dQ : Nat → Int32) (qF : Int32) (jJ : Nat → Int32) : Prop := wp_X3_hasStanding (fun r_1 => (¬ r_1 = 0 → wp_X3_reach (fun r_2 => wp_X3_within (fun r_3 => wp_X3_reach (fun r_4 => wp_X3_within (fun r_5 => wp_X9_tell_ (fun zW yO => wp_X3_reach (fun r_8 => wp_X3_within (fun r_9 => post r_9 zW yO) p0 r_8 bZ wD gF nJ nY) 0 0 dQ) r_3 r_5 qF jJ) p0 r_4 bZ wD gF nJ nY) 1 1 dQ) p0 r_2 bZ wD gF nJ nY) 1 0 dQ) ∧ (r_1 = 0 → post (-1) qF jJ)) p0 bD
set_option maxHeartbeats 4000000 in
set_option maxRecDepth 100000 in
theorem c_X9_reached (l : Launch) (dC : Nat → ClassId) (dI : Nat → Nat → Nat) (cI cC cZ cB cJ : ClassId) (a_x xG xD wY wJ wQ xI xK xJ tW tX jE mX pD oO oQ eG qT sz : Nat) (p0 bZ bD bI aI : Int32) (wD gF nJ nY dQ : Nat → Int32) (qF : Int32) (jJ : Nat → Int32) (post : Int32 → Int32 → (Nat → Int32) → Prop) (hw : wp_X9_reached post p0 bZ bD wD gF nJ nY dQ qF jJ) : Met l yX9_reached (gw yX9_reached cX9_reached 2 (some .int)) rm_X9_reached (va_Pc [.ref a_x, .int p0] (gPre (dC, dI) (tyl cI cC cZ cB cJ) (wd_X9_reached cI cC cZ cB cJ a_x xG xD wY wJ wQ xI xK xJ tW tX jE mX pD oO oQ eG qT bZ bD bI aI wD gF nJ nY dQ qF jJ) sz)) (q_X9_reached dC dI cI cC cZ cB cJ (va_A (wd_X9_reached cI cC cZ cB cJ a_x xG xD wY wJ wQ xI xK xJ tW tX jE mX pD oO oQ eG qT bZ bD bI aI wD gF nJ nY dQ qF jJ) sz) a_x xG xD wY wJ wQ xI xK xJ tW tX jE mX pD oO oQ eG qT bZ bD bI aI wD gF nJ nY dQ post) 0 0 (va_A (wd_X9_reached cI cC cZ cB cJ a_x xG xD wY wJ wQ xI xK xJ tW tX jE mX pD oO oQ eG qT bZ bD bI aI wD gF nJ nY dQ qF jJ) sz) := by
  refine g_enter (own := RX9) (dC, dI) (tyl cI cC cZ cB cJ) (wd_X9_reached cI cC cZ cB cJ a_x xG xD wY wJ wQ xI xK xJ tW tX jE mX pD oO oQ eG qT bZ bD bI aI wD gF nJ nY dQ qF jJ) sz [.ref a_x, .int p0] (fun A => q_X9_reached dC dI cI cC cZ cB cJ A a_x xG xD wY wJ wQ xI xK xJ tW tX jE mX pD oO oQ eG qT bZ bD bI aI wD gF nJ nY dQ post) pn_RX9 rfl (Nat.le_of_ble_eq_true rfl) ?_
  intro p e s m args below meth c A H locs ls C0 hP hD hS hl
  have hl : lv_has ls 2 [(0, .ref a_x), (1, .int p0)] := hl
  obtain ⟨hx, hb, hr, hml, hown, hts, hlocks, hA, hK, hN, tL, tM, hZL, hTL, hZM, hTM, hZX⟩ := id C0
  have hp := hw
  unfold wp_X9_reached at hp
  refine lv_aload_n hx hb eX9_reached_0.1 rfl (lv_at hl 0 rfl) ?_
  refine va_get (D := (dC, dI)) (ci := 9) (v := .ref wJ) (C := RX9) (T := TX9) (N := 9) hx hb hts i_X9 hown hK hP 0 rfl rfl 3 (Nat.le_of_ble_eq_true rfl) (hts _ q_74) (fun _ h9 => h9) rfl eX9_reached_0.2.1 ?_
  refine lv_iload_n hx hb eX9_reached_0.2.2.1 rfl (lv_at hl 1 rfl) ?_
  have hm := mgk (wc := (wd_X3_hasStanding cI cC cZ cB cJ wJ tX jE mX pD oO oQ eG bZ bD bI aI)) hP mk_95 9 rfl rfl rfl
  refine g_calli hP hD hS hA (mixT mk_95) (mixF mk_95) hm.1 hm.2 (nd_F _) (dis_g _) (g_runV (As := [.int p0]) (rest := []) C0 hP hD hS (mixT mk_95) hm.1 (nd_T _) 1 3 rfl rfl (c_X3_hasStanding l dC dI cI cC cZ cB cJ wJ tX jE mX pD oO oQ eG H.size p0 bZ bD bI aI _ hp) q_195 q_198 q_196 q_197 q_48 h_X3_hasStanding rfl rfl ⟨Nat.le_of_ble_eq_true rfl, Nat.le_of_ble_eq_true rfl⟩ rfl rfl hl.1 rfl (lv_room (Nat.le_of_ble_eq_true rfl)) eX9_reached_0.2.2.2.1 ⟨Nat.zero_le _, Nat.zero_le _⟩) (fun r_1 u H locs hp hP hD hS => ?_)
  have hPD := PDm (ws' := (wd_X9_reached cI cC cZ cB cJ a_x xG xD wY wJ wQ xI xK xJ tW tX jE mX pD oO oQ eG qT bZ bD bI aI wD gF nJ nY dQ qF jJ)) hP hD 9 rfl rfl rfl
  have hP := hPD.1
  have hD := hPD.2
  refine lv_if_ne (tgt := 13) hx hb eX9_reached_0.2.2.2.2.1 (by decide) (fun hc => ?_) (fun hc => ?_)
  · have hp := hp.1 hc
    refine lv_aload_n hx hb eX9_reached_0.2.2.2.2.2.2.2.1 rfl (lv_at hl 0 rfl) ?_
    refine lv_aload_n hx hb eX9_reached_0.2.2.2.2.2.2.2.2.1 rfl (lv_at hl 0 rfl) ?_
    refine va_get (D := (dC, dI)) (ci := 9) (v := .ref wJ) (C := RX9) (T := TX9) (N := 9) hx hb hts i_X9 hown hK hP 0 rfl rfl 3 (Nat.le_of_ble_eq_true rfl) (hts _ q_74) (fun _ h9 => h9) rfl eX9_reached_0.2.2.2.2.2.2.2.2.2.1 ?_
    refine lv_iload_n hx hb eX9_reached_0.2.2.2.2.2.2.2.2.2.2.1 rfl (lv_at hl 1 rfl) ?_
    refine lv_aload_n hx hb eX9_reached_0.2.2.2.2.2.2.2.2.2.2.2.1 rfl (lv_at hl 0 rfl) ?_
    refine va_get (D := (dC, dI)) (ci := 9) (v := .ref wJ) (C := RX9) (T := TX9) (N := 9) hx hb hts i_X9 hown hK hP 0 rfl rfl 3 (Nat.le_of_ble_eq_true rfl) (hts _ q_74) (fun _ h9 => h9) rfl eX9_reached_0.2.2.2.2.2.2.2.2.2.2.2.2.1 ?_
    refine lv_iconst (v := 1) hx hb eX9_reached_0.2.2.2.2.2.2.2.2.2.2.2.2.2.1 ic_1 ?_
    refine lv_iconst (v := 0) hx hb eX9_reached_0.2.2.2.2.2.2.2.2.2.2.2.2.2.2.1 ic_0 ?_
    have hm := mgk (wc := (wd_X3_reach cI cC cZ cB cJ wJ tX jE mX pD oO oQ eG bZ bD bI aI dQ)) hP mk_96 9 rfl rfl rfl
    refine g_calli hP hD hS hA (mixT mk_96) (mixF mk_96) hm.1 hm.2 (nd_F _) (dis_g _) (g_runV (As := [.int 1, .int 0]) (rest := [.int p0, .ref wJ, .ref a_x]) C0 hP hD hS (mixT mk_96) hm.1 (nd_T _) 1 3 rfl rfl (c_X3_reach l dC dI cI cC cZ cB cJ wJ tX jE mX pD oO oQ eG H.size 1 0 bZ bD bI aI dQ _ hp) q_312 q_411 q_313 q_314 q_48 h_X3_reach rfl rfl ⟨Nat.le_of_ble_eq_true rfl, Nat.le_of_ble_eq_true rfl⟩ rfl rfl hl.1 rfl (lv_room (Nat.le_of_ble_eq_true rfl)) eX9_reached_0.2.2.2.2.2.2.2.2.2.2.2.2.2.2.2 ⟨Nat.zero_le _, Nat.zero_le _⟩) (fun r_2 u H locs hp hP hD hS => ?_)
    have hPD := PDm (ws' := (wd_X9_reached cI cC cZ cB cJ a_x xG xD wY wJ wQ xI xK xJ tW tX jE mX pD oO oQ eG qT bZ bD bI aI wD gF nJ nY dQ qF jJ)) hP hD 9 rfl rfl rfl
    have hP := hPD.1
    have hD := hPD.2
    have hm := mgk (wc := (wd_X3_within cI cC cZ cB cJ wJ tX jE mX pD oO oQ eG bZ bD bI aI wD gF nJ nY)) hP mk_97 9 rfl rfl rfl
    refine g_calli hP hD hS hA (mixT mk_97) (mixF mk_97) hm.1 hm.2 (nd_F _) (dis_g _) (g_runV (As := [.int p0, .int r_2]) (rest := [.ref a_x]) C0 hP hD hS (mixT mk_97) hm.1 (nd_T _) 1 3 rfl rfl (c_X3_within l dC dI cI cC cZ cB cJ wJ tX jE mX pD oO oQ eG H.size p0 r_2 bZ bD bI aI wD gF nJ nY _ hp) q_339 q_412 q_340 q_341 q_48 h_X3_within rfl rfl ⟨Nat.le_of_ble_eq_true rfl, Nat.le_of_ble_eq_true rfl⟩ rfl rfl hl.1 rfl (lv_room (Nat.le_of_ble_eq_true rfl)) eX9_reached_28.1 ⟨Nat.zero_le _, Nat.zero_le _⟩) (fun r_3 u H locs hp hP hD hS => ?_)
    have hPD := PDm (ws' := (wd_X9_reached cI cC cZ cB cJ a_x xG xD wY wJ wQ xI xK xJ tW tX jE mX pD oO oQ eG qT bZ bD bI aI wD gF nJ nY dQ qF jJ)) hP hD 9 rfl rfl rfl
    have hP := hPD.1
    have hD := hPD.2
    refine lv_aload_n hx hb eX9_reached_28.2.1 rfl (lv_at hl 0 rfl) ?_
    refine va_get (D := (dC, dI)) (ci := 9) (v := .ref wJ) (C := RX9) (T := TX9) (N := 9) hx hb hts i_X9 hown hK hP 0 rfl rfl 3 (Nat.le_of_ble_eq_true rfl) (hts _ q_74) (fun _ h9 => h9) rfl eX9_reached_28.2.2.1 ?_
    refine lv_iload_n hx hb eX9_reached_28.2.2.2.1 rfl (lv_at hl 1 rfl) ?_
    refine lv_aload_n hx hb eX9_reached_28.2.2.2.2.1 rfl (lv_at hl 0 rfl) ?_
    refine va_get (D := (dC, dI)) (ci := 9) (v := .ref wJ) (C := RX9) (T := TX9) (N := 9) hx hb hts i_X9 hown hK hP 0 rfl rfl 3 (Nat.le_of_ble_eq_true rfl) (hts _ q_74) (fun _ h9 => h9) rfl eX9_reached_28.2.2.2.2.2.1 ?_
    refine lv_iconst (v := 1) hx hb eX9_reached_28.2.2.2.2.2.2.1 ic_1 ?_
    refine lv_iconst (v := 1) hx hb eX9_reached_28.2.2.2.2.2.2.2.1 ic_1 ?_
    have hm := mgk (wc := (wd_X3_reach cI cC cZ cB cJ wJ tX jE mX pD oO oQ eG bZ bD bI aI dQ)) hP mk_96 9 rfl rfl rfl
    refine g_calli hP hD hS hA (mixT mk_96) (mixF mk_96) hm.1 hm.2 (nd_F _) (dis_g _) (g_runV (As := [.int 1, .int 1]) (rest := [.int p0, .ref wJ, .int r_3, .ref a_x]) C0 hP hD hS (mixT mk_96) hm.1 (nd_T _) 1 3 rfl rfl (c_X3_reach l dC dI cI cC cZ cB cJ wJ tX jE mX pD oO oQ eG H.size 1 1 bZ bD bI aI dQ _ hp) q_312 q_411 q_313 q_314 q_48 h_X3_reach rfl rfl ⟨Nat.le_of_ble_eq_true rfl, Nat.le_of_ble_eq_true rfl⟩ rfl rfl hl.1 rfl (lv_room (Nat.le_of_ble_eq_true rfl)) eX9_reached_28.2.2.2.2.2.2.2.2.1 ⟨Nat.zero_le _, Nat.zero_le _⟩) (fun r_4 u H locs hp hP hD hS => ?_)
    have hPD := PDm (ws' := (wd_X9_reached cI cC cZ cB cJ a_x xG xD wY wJ wQ xI xK xJ tW tX jE mX pD oO oQ eG qT bZ bD bI aI wD gF nJ nY dQ qF jJ)) hP hD 9 rfl rfl rfl
    have hP := hPD.1
    have hD := hPD.2
    have hm := mgk (wc := (wd_X3_within cI cC cZ cB cJ wJ tX jE mX pD oO oQ eG bZ bD bI aI wD gF nJ nY)) hP mk_97 9 rfl rfl rfl
    refine g_calli hP hD hS hA (mixT mk_97) (mixF mk_97) hm.1 hm.2 (nd_F _) (dis_g _) (g_runV (As := [.int p0, .int r_4]) (rest := [.int r_3, .ref a_x]) C0 hP hD hS (mixT mk_97) hm.1 (nd_T _) 1 3 rfl rfl (c_X3_within l dC dI cI cC cZ cB cJ wJ tX jE mX pD oO oQ eG H.size p0 r_4 bZ bD bI aI wD gF nJ nY _ hp) q_339 q_412 q_340 q_341 q_48 h_X3_within rfl rfl ⟨Nat.le_of_ble_eq_true rfl, Nat.le_of_ble_eq_true rfl⟩ rfl rfl hl.1 rfl (lv_room (Nat.le_of_ble_eq_true rfl)) eX9_reached_28.2.2.2.2.2.2.2.2.2.1 ⟨Nat.zero_le _, Nat.zero_le _⟩) (fun r_5 u H locs hp hP hD hS => ?_)
    have hPD := PDm (ws' := (wd_X9_reached cI cC cZ cB cJ a_x xG xD wY wJ wQ xI xK xJ tW tX jE mX pD oO oQ eG qT bZ bD bI aI wD gF nJ nY dQ qF jJ)) hP hD 9 rfl rfl rfl
    have hP := hPD.1
    have hD := hPD.2
    have hm := mgk (wc := (wd_X9_tell_ cI cC cZ cB cJ a_x xG xD wY wJ wQ xI xK xJ tW qT qF jJ)) hP mk_98 9 rfl rfl rfl
    refine g_callv hP hD hS hA (mixT mk_98) (mixF mk_98) hm.1 hm.2 (nd_F _) (dis_g _) (g_runV (As := [.int r_3, .int r_5]) (rest := []) C0 hP hD hS (mixT mk_98) hm.1 (nd_T _) 0 9 rfl rfl (c_X9_tell_ l dC dI cI cC cZ cB cJ a_x xG xD wY wJ wQ xI xK xJ tW qT H.size r_3 r_5 qF jJ _ hp) q_377 q_380 q_378 q_379 q_256 h_X9_tell_ rfl rfl ⟨Nat.le_of_ble_eq_true rfl, Nat.le_of_ble_eq_true rfl⟩ rfl rfl hl.1 rfl (lv_room (Nat.le_of_ble_eq_true rfl)) eX9_reached_28.2.2.2.2.2.2.2.2.2.2.1 ⟨Nat.zero_le _, Nat.zero_le _⟩) (fun u H locs hp hP hD hS => ?_)
    obtain ⟨zW, yO⟩ := u
    have hPD := PDm (ws' := (wd_X9_reached cI cC cZ cB cJ a_x xG xD wY wJ wQ xI xK xJ tW tX jE mX pD oO oQ eG qT bZ bD bI aI wD gF nJ nY dQ zW yO)) hP hD 9 rfl rfl rfl
    have hP := hPD.1
    have hD := hPD.2
    refine lv_aload_n hx hb eX9_reached_28.2.2.2.2.2.2.2.2.2.2.2.1 rfl (lv_at hl 0 rfl) ?_
    refine va_get (D := (dC, dI)) (ci := 9) (v := .ref wJ) (C := RX9) (T := TX9) (N := 9) hx hb hts i_X9 hown hK hP 0 rfl rfl 3 (Nat.le_of_ble_eq_true rfl) (hts _ q_74) (fun _ h9 => h9) rfl eX9_reached_28.2.2.2.2.2.2.2.2.2.2.2.2.1 ?_
    refine lv_iload_n hx hb eX9_reached_28.2.2.2.2.2.2.2.2.2.2.2.2.2.1 rfl (lv_at hl 1 rfl) ?_
    refine lv_aload_n hx hb eX9_reached_28.2.2.2.2.2.2.2.2.2.2.2.2.2.2.1 rfl (lv_at hl 0 rfl) ?_
    refine va_get (D := (dC, dI)) (ci := 9) (v := .ref wJ) (C := RX9) (T := TX9) (N := 9) hx hb hts i_X9 hown hK hP 0 rfl rfl 3 (Nat.le_of_ble_eq_true rfl) (hts _ q_74) (fun _ h9 => h9) rfl eX9_reached_28.2.2.2.2.2.2.2.2.2.2.2.2.2.2.2 ?_
    refine lv_iconst (v := 0) hx hb eX9_reached_60.1 ic_0 ?_
    refine lv_iconst (v := 0) hx hb eX9_reached_60.2.1 ic_0 ?_
    have hm := mgk (wc := (wd_X3_reach cI cC cZ cB cJ wJ tX jE mX pD oO oQ eG bZ bD bI aI dQ)) hP mk_96 9 rfl rfl rfl
    refine g_calli hP hD hS hA (mixT mk_96) (mixF mk_96) hm.1 hm.2 (nd_F _) (dis_g _) (g_runV (As := [.int 0, .int 0]) (rest := [.int p0, .ref wJ]) C0 hP hD hS (mixT mk_96) hm.1 (nd_T _) 1 3 rfl rfl (c_X3_reach l dC dI cI cC cZ cB cJ wJ tX jE mX pD oO oQ eG H.size 0 0 bZ bD bI aI dQ _ hp) q_312 q_411 q_313 q_314 q_48 h_X3_reach rfl rfl ⟨Nat.le_of_ble_eq_true rfl, Nat.le_of_ble_eq_true rfl⟩ rfl rfl hl.1 rfl (lv_room (Nat.le_of_ble_eq_true rfl)) eX9_reached_60.2.2.1 ⟨Nat.zero_le _, Nat.zero_le _⟩) (fun r_8 u H locs hp hP hD hS => ?_)
    have hPD := PDm (ws' := (wd_X9_reached cI cC cZ cB cJ a_x xG xD wY wJ wQ xI xK xJ tW tX jE mX pD oO oQ eG qT bZ bD bI aI wD gF nJ nY dQ zW yO)) hP hD 9 rfl rfl rfl
    have hP := hPD.1
    have hD := hPD.2
    have hm := mgk (wc := (wd_X3_within cI cC cZ cB cJ wJ tX jE mX pD oO oQ eG bZ bD bI aI wD gF nJ nY)) hP mk_97 9 rfl rfl rfl
    refine g_calli hP hD hS hA (mixT mk_97) (mixF mk_97) hm.1 hm.2 (nd_F _) (dis_g _) (g_runV (As := [.int p0, .int r_8]) (rest := []) C0 hP hD hS (mixT mk_97) hm.1 (nd_T _) 1 3 rfl rfl (c_X3_within l dC dI cI cC cZ cB cJ wJ tX jE mX pD oO oQ eG H.size p0 r_8 bZ bD bI aI wD gF nJ nY _ hp) q_339 q_412 q_340 q_341 q_48 h_X3_within rfl rfl ⟨Nat.le_of_ble_eq_true rfl, Nat.le_of_ble_eq_true rfl⟩ rfl rfl hl.1 rfl (lv_room (Nat.le_of_ble_eq_true rfl)) eX9_reached_60.2.2.2.1 ⟨Nat.zero_le _, Nat.zero_le _⟩) (fun r_9 u H locs hp hP hD hS => ?_)
    have hPD := PDm (ws' := (wd_X9_reached cI cC cZ cB cJ a_x xG xD wY wJ wQ xI xK xJ tW tX jE mX pD oO oQ eG qT bZ bD bI aI wD gF nJ nY dQ zW yO)) hP hD 9 rfl rfl rfl
    have hP := hPD.1
    have hD := hPD.2
    exact W.iret (v := r_9) hx hb hr (fun t ht hW => ⟨⟨r_9, (zW, yO), rfl, hp, by rw [ht]; exact hP, va_K.moved hW.alike hK, hD⟩, hS.F ht⟩) hS.2.2 eX9_reached_60.2.2.2.2
  · have hp := hp.2 hc
    refine lv_iconst (v := (-1)) hx hb eX9_reached_0.2.2.2.2.2.1 ic_m1 ?_
    exact W.iret (v := (-1)) hx hb hr (fun t ht hW => ⟨⟨(-1), (qF, jJ), rfl, hp, by rw [ht]; exact hP, va_K.moved hW.alike hK, hD⟩, hS.F ht⟩) hS.2.2 eX9_reached_0.2.2.2.2.2.2.1
noncomputable abbrev wd_X9_from (cI cC cZ cB cJ : ClassId) (a_x xG xD wY wJ wQ xI xK xJ tW tX jE mX pD oO oQ eG : Nat) (bZ bD bI aI : Int32) (wD gF nJ nY dQ : Nat → Int32) (jC eO eW dO fJ fY jD nG : Int32) : va_W := [(a_x, .inr (9, [.ref xG, .ref xD, .ref wY, .ref wJ, .ref wQ, .ref xI, .ref xK, .ref xJ, .ref tW])), (wJ, .inr (3, [.ref tX, .ref jE, .ref mX, .ref pD, .ref oO, .ref oQ, .ref eG, .int bZ, .int bD, .int bI, .int aI])), (tX, .inl (cI, 16, .inl wD)), (jE, .inl (cI, 16, .inl gF)), (oO, .inl (cI, 8, .inl nJ)), (oQ, .inl (cI, 8, .inl nY)), (eG, .inl (cI, 5, .inl dQ)), (wQ, .inr (2, [.int jC, .int eO, .int eW, .int dO, .int fJ, .int fY, .int jD, .int nG]))]
noncomputable abbrev q_X9_from (dC : Nat → ClassId) (dI : Nat → Nat → Nat) (cI cC cZ cB cJ : ClassId) (A : Nat → Prop) (a_x xG xD wY wJ wQ xI xK xJ tW tX jE mX pD oO oQ eG : Nat) (bZ bD bI aI : Int32) (wD gF nJ nY dQ : Nat → Int32) (jC eO eW dO fJ fY jD nG : Int32) (post : Int32 → Prop) : Array Value → State → Outcome → State → Prop := va_Qi (fun (r : Int32) (u : Unit) => post r) (fun u t => gB (dC, dI) (tyl cI cC cZ cB cJ) A (wd_X9_from cI cC cZ cB cJ a_x xG xD wY wJ wQ xI xK xJ tW tX jE mX pD oO oQ eG bZ bD bI aI wD gF nJ nY dQ jC eO eW dO fJ fY jD nG) t) A
noncomputable abbrev rm_X9_from : Room := { frames := 2, cells := 0, slots := 0, locals := 47 }
section S_X9_from
variable {p : Program} {l : Launch} {e : Env} {s : State} {m : MethodId} {args : Array Value} {below : List Frame} {meth : Method} {c : Code} {dC : Nat → ClassId} {dI : Nat → Nat → Nat} {cI cC cZ cB cJ : ClassId} {A : Nat → Prop} {a_x xG xD wY wJ wQ xI xK xJ tW tX jE mX pD oO oQ eG : Nat} {bZ bD bI aI : Int32} {wD gF nJ nY dQ : Nat → Int32} {jC eO eW dO fJ fY jD nG : Int32} {post : Int32 → Prop}
noncomputable def ws_X9_from_77 (post : Int32 → Prop) (K42 : Int32 → Int32 → Int32 → Int32 → Prop) (bZ bD : Int32) (wD gF nJ nY dQ : Nat → Int32) (fY x1 x3 x4 x5 : Int32) : Prop := ∀ v_5 : Int32, v_5 = x5 + 1 → K42 x1 x3 x4 v_5
set_option maxHeartbeats 4000000 in
set_option maxRecDepth 100000 in
theorem ks_X9_from_77 (C0 : gc cX9_from (some .int) 6 RX9 (dC, dI) (tyl cI cC cZ cB cJ) A p s m args meth c) {K42 : Int32 → Int32 → Int32 → Int32 → Prop} (hK42 : ∀ (x1 : Int32) (x3 : Int32) (x4 : Int32) (x5 : Int32) (H : Heap) (locs : List Loc) (ls : Array Slot), K42 x1 x3 x4 x5 → va_P (dC, dI) classes (wd_X9_from cI cC cZ cB cJ a_x xG xD wY wJ wQ xI xK xJ tW tX jE mX pD oO oQ eG bZ bD bI aI wD gF nJ nY dQ jC eO eW dO fJ fY jD nG) H → va_D A (wd_X9_from cI cC cZ cB cJ a_x xG xD wY wJ wQ xI xK xJ tW tX jE mX pD oO oQ eG bZ bD bI aI wD gF nJ nY dQ jC eO eW dO fJ fY jD nG) → va_S A s.heap H locs → lv_has ls 6 [(0, .ref a_x), (1, .int x1), (3, .int x3), (4, .int x4), (5, .int x5)] → W p l e rm_X9_from s m args below meth c H locs 0 0 (MQ below (q_X9_from dC dI cI cC cZ cB cJ A a_x xG xD wY wJ wQ xI xK xJ tW tX jE mX pD oO oQ eG bZ bD bI aI wD gF nJ nY dQ jC eO eW dO fJ fY jD nG post) args s 0 0 A) (F0 m 42 ls [])) : ∀ (x1 x3 x4 x5 : Int32) (H : Heap) (locs : List Loc) (ls : Array Slot), (ws_X9_from_77 post K42 bZ bD wD gF nJ nY dQ fY) x1 x3 x4 x5 → va_P (dC, dI) classes (wd_X9_from cI cC cZ cB cJ a_x xG xD wY wJ wQ xI xK xJ tW tX jE mX pD oO oQ eG bZ bD bI aI wD gF nJ nY dQ jC eO eW dO fJ fY jD nG) H → va_D A (wd_X9_from cI cC cZ cB cJ a_x xG xD wY wJ wQ xI xK xJ tW tX jE mX pD oO oQ eG bZ bD bI aI wD gF nJ nY dQ jC eO eW dO fJ fY jD nG) → va_S A s.heap H locs → lv_has ls 6 [(0, .ref a_x), (1, .int x1), (3, .int x3), (4, .int x4), (5, .int x5)] → W p l e rm_X9_from s m args below meth c H locs 0 0 (MQ below (q_X9_from dC dI cI cC cZ cB cJ A a_x xG xD wY wJ wQ xI xK xJ tW tX jE mX pD oO oQ eG bZ bD bI aI wD gF nJ nY dQ jC eO eW dO fJ fY jD nG post) args s 0 0 A) (F0 m 77 ls []) := by
  obtain ⟨hx, hb, hr, hml, hown, hts, hlocks, hA, hK, hN, tL, tM, hZL, hTL, hZM, hTM, hZX⟩ := id C0
  intro x1 x3 x4 x5 H locs ls hp hP hD hS hl
  unfold ws_X9_from_77 at hp
  obtain ⟨v_5, ev_5⟩ : ∃ y : Int32, y = x5 + 1 := ⟨_, rfl⟩
  refine lv_iinc (v := v_5) (lv' := [(5, .int v_5), (0, .ref a_x), (1, .int x1), (3, .int x3), (4, .int x4)]) hx hb eX9_from_62.2.2.2.2.2.2.2.2.1 hl (k := 4) rfl (by rw [ev_5]; rfl) (by decide) rfl (fun ls hl => ?_)
  have hp := hp v_5 ev_5
  refine lv_goto (tgt := 42) hx hb eX9_from_62.2.2.2.2.2.2.2.2.2.1 (by decide) ?_
  exact hK42 x1 x3 x4 v_5 H locs ls hp hP hD hS (lv_sub hl [1, 2, 3, 4, 0] rfl)
noncomputable def ws_X9_from_42 (post : Int32 → Prop) (next : Int32 → Int32 → Int32 → Int32 → Prop) (bZ bD : Int32) (wD gF nJ nY dQ : Nat → Int32) (fY x1 x3 x4 x5 : Int32) : Prop := (bD ≤ x5 → post x4) ∧ (¬ bD ≤ x5 → wp_X3_isWithin (fun r_4 => (r_4 = 0 → ws_X9_from_77 post next bZ bD wD gF nJ nY dQ fY x1 x3 x4 x5) ∧ (¬ r_4 = 0 → ∀ v_6 : Int32, v_6 = x4 ||| (1 <<< (x5 &&& 31)) → ws_X9_from_77 post next bZ bD wD gF nJ nY dQ fY x1 x3 v_6 x5)) x1 x5 x3 wD gF nJ nY)
noncomputable def wb_X9_from_42 (post : Int32 → Prop) (bZ bD : Int32) (wD gF nJ nY dQ : Nat → Int32) (fY : Int32) : Nat → Int32 → Int32 → Int32 → Int32 → Prop := fun n => Nat.rec (motive := fun _ => Int32 → Int32 → Int32 → Int32 → Prop) (fun _ _ _ _ => False) (fun _ ih => ws_X9_from_42 post ih bZ bD wD gF nJ nY dQ fY) n
set_option maxHeartbeats 4000000 in
set_option maxRecDepth 100000 in
theorem ks_X9_from_42 (C0 : gc cX9_from (some .int) 6 RX9 (dC, dI) (tyl cI cC cZ cB cJ) A p s m args meth c) {next : Int32 → Int32 → Int32 → Int32 → Prop} (hKn : ∀ (x1 : Int32) (x3 : Int32) (x4 : Int32) (x5 : Int32) (H : Heap) (locs : List Loc) (ls : Array Slot), next x1 x3 x4 x5 → va_P (dC, dI) classes (wd_X9_from cI cC cZ cB cJ a_x xG xD wY wJ wQ xI xK xJ tW tX jE mX pD oO oQ eG bZ bD bI aI wD gF nJ nY dQ jC eO eW dO fJ fY jD nG) H → va_D A (wd_X9_from cI cC cZ cB cJ a_x xG xD wY wJ wQ xI xK xJ tW tX jE mX pD oO oQ eG bZ bD bI aI wD gF nJ nY dQ jC eO eW dO fJ fY jD nG) → va_S A s.heap H locs → lv_has ls 6 [(0, .ref a_x), (1, .int x1), (3, .int x3), (4, .int x4), (5, .int x5)] → W p l e rm_X9_from s m args below meth c H locs 0 0 (MQ below (q_X9_from dC dI cI cC cZ cB cJ A a_x xG xD wY wJ wQ xI xK xJ tW tX jE mX pD oO oQ eG bZ bD bI aI wD gF nJ nY dQ jC eO eW dO fJ fY jD nG post) args s 0 0 A) (F0 m 42 ls [])) : ∀ (x1 x3 x4 x5 : Int32) (H : Heap) (locs : List Loc) (ls : Array Slot), (ws_X9_from_42 post next bZ bD wD gF nJ nY dQ fY) x1 x3 x4 x5 → va_P (dC, dI) classes (wd_X9_from cI cC cZ cB cJ a_x xG xD wY wJ wQ xI xK xJ tW tX jE mX pD oO oQ eG bZ bD bI aI wD gF nJ nY dQ jC eO eW dO fJ fY jD nG) H → va_D A (wd_X9_from cI cC cZ cB cJ a_x xG xD wY wJ wQ xI xK xJ tW tX jE mX pD oO oQ eG bZ bD bI aI wD gF nJ nY dQ jC eO eW dO fJ fY jD nG) → va_S A s.heap H locs → lv_has ls 6 [(0, .ref a_x), (1, .int x1), (3, .int x3), (4, .int x4), (5, .int x5)] → W p l e rm_X9_from s m args below meth c H locs 0 0 (MQ below (q_X9_from dC dI cI cC cZ cB cJ A a_x xG xD wY wJ wQ xI xK xJ tW tX jE mX pD oO oQ eG bZ bD bI aI wD gF nJ nY dQ jC eO eW dO fJ fY jD nG post) args s 0 0 A) (F0 m 42 ls []) := by
  obtain ⟨hx, hb, hr, hml, hown, hts, hlocks, hA, hK, hN, tL, tM, hZL, hTL, hZM, hTM, hZX⟩ := id C0
  intro x1 x3 x4 x5 H locs ls hp hP hD hS hl
  unfold ws_X9_from_42 at hp
  refine lv_iload hx hb eX9_from_32.2.2.2.2.2.2.1 (lv_at hl 4 rfl) ?_
  refine lv_aload_n hx hb eX9_from_32.2.2.2.2.2.2.2.1 rfl (lv_at hl 0 rfl) ?_
  refine va_get (D := (dC, dI)) (ci := 9) (v := .ref wJ) (C := RX9) (T := TX9) (N := 9) hx hb hts i_X9 hown hK hP 0 rfl rfl 3 (Nat.le_of_ble_eq_true rfl) (hts _ q_74) (fun _ h9 => h9) rfl eX9_from_32.2.2.2.2.2.2.2.2.1 ?_
  refine va_get (D := (dC, dI)) (ci := 3) (v := .int bD) (C := RX3) (T := TX3) (N := 11) hx hb hts i_X3 hown hK hP 1 rfl rfl 8 (Nat.le_of_ble_eq_true rfl) (hts _ q_415) (fun _ h9 => h9) rfl eX9_from_32.2.2.2.2.2.2.2.2.2.1 ?_
  refine lv_icmp_ge (tgt := 83) hx hb eX9_from_32.2.2.2.2.2.2.2.2.2.2.1 (by decide) (fun hc => ?_) (fun hc => ?_)
  · have hp := hp.1 hc
    refine lv_iload hx hb eX9_from_62.2.2.2.2.2.2.2.2.2.2.1 (lv_at hl 3 rfl) ?_
    exact W.iret (v := x4) hx hb hr (fun t ht hW => ⟨⟨x4, (), rfl, hp, by rw [ht]; exact hP, va_K.moved hW.alike hK, hD⟩, hS.F ht⟩) hS.2.2 eX9_from_62.2.2.2.2.2.2.2.2.2.2.2
  · have hp := hp.2 hc
    refine lv_aload_n hx hb eX9_from_32.2.2.2.2.2.2.2.2.2.2.2.1 rfl (lv_at hl 0 rfl) ?_
    refine va_get (D := (dC, dI)) (ci := 9) (v := .ref wJ) (C := RX9) (T := TX9) (N := 9) hx hb hts i_X9 hown hK hP 0 rfl rfl 3 (Nat.le_of_ble_eq_true rfl) (hts _ q_74) (fun _ h9 => h9) rfl eX9_from_32.2.2.2.2.2.2.2.2.2.2.2.2.1 ?_
    refine lv_iload_n hx hb eX9_from_32.2.2.2.2.2.2.2.2.2.2.2.2.2.1 rfl (lv_at hl 1 rfl) ?_
    refine lv_iload hx hb eX9_from_32.2.2.2.2.2.2.2.2.2.2.2.2.2.2.1 (lv_at hl 4 rfl) ?_
    refine lv_iload_n hx hb eX9_from_32.2.2.2.2.2.2.2.2.2.2.2.2.2.2.2 rfl (lv_at hl 2 rfl) ?_
    have hm := mgk (wc := (wd_X3_isWithin cI cC cZ cB cJ wJ tX jE mX pD oO oQ eG bZ bD bI aI wD gF nJ nY)) hP mk_99 8 rfl rfl rfl
    refine g_calli hP hD hS hA (mixT mk_99) (mixF mk_99) hm.1 hm.2 (nd_F _) (dis_g _) (g_runV (As := [.int x1, .int x5, .int x3]) (rest := []) C0 hP hD hS (mixT mk_99) hm.1 (nd_T _) 1 3 rfl rfl (c_X3_isWithin l dC dI cI cC cZ cB cJ wJ tX jE mX pD oO oQ eG H.size x1 x5 x3 bZ bD bI aI wD gF nJ nY _ hp) q_316 q_416 q_317 q_318 q_48 h_X3_isWithin rfl rfl ⟨Nat.le_of_ble_eq_true rfl, Nat.le_of_ble_eq_true rfl⟩ rfl rfl hl.1 rfl (lv_room (Nat.le_of_ble_eq_true rfl)) eX9_from_62.1 ⟨Nat.zero_le _, Nat.zero_le _⟩) (fun r_4 u H locs hp hP hD hS => ?_)
    have hPD := PDm (ws' := (wd_X9_from cI cC cZ cB cJ a_x xG xD wY wJ wQ xI xK xJ tW tX jE mX pD oO oQ eG bZ bD bI aI wD gF nJ nY dQ jC eO eW dO fJ fY jD nG)) hP hD 8 rfl rfl rfl
    have hP := hPD.1
    have hD := hPD.2
    refine lv_if_eq (tgt := 77) hx hb eX9_from_62.2.1 (by decide) (fun hc => ?_) (fun hc => ?_)
    · have hp := hp.1 hc
      exact ks_X9_from_77 C0 hKn x1 x3 x4 x5 H locs ls hp hP hD hS (lv_sub hl [0, 1, 2, 3, 4] rfl)
    · have hp := hp.2 hc
      refine lv_iload hx hb eX9_from_62.2.2.1 (lv_at hl 3 rfl) ?_
      refine lv_iconst (v := 1) hx hb eX9_from_62.2.2.2.1 ic_1 ?_
      refine lv_iload hx hb eX9_from_62.2.2.2.2.1 (lv_at hl 4 rfl) ?_
      refine lv_ishl hx hb eX9_from_62.2.2.2.2.2.1 ?_
      refine lv_ior hx hb eX9_from_62.2.2.2.2.2.2.1 ?_
      refine lv_topi (fun v_6 ev_6 => ?_)
      have hp := hp v_6 ev_6
      refine lv_istore (lv' := [(4, .int v_6), (0, .ref a_x), (1, .int x1), (3, .int x3), (5, .int x5)]) hx hb eX9_from_62.2.2.2.2.2.2.2.1 hl (by decide) rfl (fun ls hl => ?_)
      exact ks_X9_from_77 C0 hKn x1 x3 v_6 x5 H locs ls hp hP hD hS (lv_sub hl [1, 2, 3, 0, 4] rfl)
set_option maxHeartbeats 4000000 in
set_option maxRecDepth 100000 in
theorem kb_X9_from_42 (C0 : gc cX9_from (some .int) 6 RX9 (dC, dI) (tyl cI cC cZ cB cJ) A p s m args meth c) : ∀ (n : Nat), ∀ (x1 x3 x4 x5 : Int32) (H : Heap) (locs : List Loc) (ls : Array Slot), (wb_X9_from_42 post bZ bD wD gF nJ nY dQ fY n) x1 x3 x4 x5 → va_P (dC, dI) classes (wd_X9_from cI cC cZ cB cJ a_x xG xD wY wJ wQ xI xK xJ tW tX jE mX pD oO oQ eG bZ bD bI aI wD gF nJ nY dQ jC eO eW dO fJ fY jD nG) H → va_D A (wd_X9_from cI cC cZ cB cJ a_x xG xD wY wJ wQ xI xK xJ tW tX jE mX pD oO oQ eG bZ bD bI aI wD gF nJ nY dQ jC eO eW dO fJ fY jD nG) → va_S A s.heap H locs → lv_has ls 6 [(0, .ref a_x), (1, .int x1), (3, .int x3), (4, .int x4), (5, .int x5)] → W p l e rm_X9_from s m args below meth c H locs 0 0 (MQ below (q_X9_from dC dI cI cC cZ cB cJ A a_x xG xD wY wJ wQ xI xK xJ tW tX jE mX pD oO oQ eG bZ bD bI aI wD gF nJ nY dQ jC eO eW dO fJ fY jD nG post) args s 0 0 A) (F0 m 42 ls []) := by
  intro n
  induction n with
  | zero =>
    intro x1 x3 x4 x5 H locs ls hp
    exact False.elim hp
  | succ n ih =>
    intro x1 x3 x4 x5 H locs ls hp
    exact ks_X9_from_42 C0 ih x1 x3 x4 x5 H locs ls hp
end S_X9_from
noncomputable def wp_X9_from (post : Int32 → Prop) (p0 p1 bZ bD : Int32) (wD gF nJ nY dQ : Nat → Int32) (fY : Int32) : Prop := wp_X3_hasFruit (fun r_1 => (r_1 = 0 → post (-1)) ∧ (¬ r_1 = 0 → wp_X9_isYesOrNo (fun r_2 => (¬ r_2 = 0 → wp_X3_reach (fun r_3 => ∃ n : Nat, wb_X9_from_42 post bZ bD wD gF nJ nY dQ fY n p0 r_3 0 0) fY p1 dQ) ∧ (r_2 = 0 → post (-1))) p1)) p0 bZ
set_option maxHeartbeats 4000000 in
set_option maxRecDepth 100000 in
theorem c_X9_from (l : Launch) (dC : Nat → ClassId) (dI : Nat → Nat → Nat) (cI cC cZ cB cJ : ClassId) (a_x xG xD wY wJ wQ xI xK xJ tW tX jE mX pD oO oQ eG sz : Nat) (p0 p1 bZ bD bI aI : Int32) (wD gF nJ nY dQ : Nat → Int32) (jC eO eW dO fJ fY jD nG : Int32) (post : Int32 → Prop) (hw : wp_X9_from post p0 p1 bZ bD wD gF nJ nY dQ fY) : Met l yX9_from (gw yX9_from cX9_from 6 (some .int)) rm_X9_from (va_Pc [.ref a_x, .int p0, .int p1] (gPre (dC, dI) (tyl cI cC cZ cB cJ) (wd_X9_from cI cC cZ cB cJ a_x xG xD wY wJ wQ xI xK xJ tW tX jE mX pD oO oQ eG bZ bD bI aI wD gF nJ nY dQ jC eO eW dO fJ fY jD nG) sz)) (q_X9_from dC dI cI cC cZ cB cJ (va_A (wd_X9_from cI cC cZ cB cJ a_x xG xD wY wJ wQ xI xK xJ tW tX jE mX pD oO oQ eG bZ bD bI aI wD gF nJ nY dQ jC eO eW dO fJ fY jD nG) sz) a_x xG xD wY wJ wQ xI xK xJ tW tX jE mX pD oO oQ eG bZ bD bI aI wD gF nJ nY dQ jC eO eW dO fJ fY jD nG post) 0 0 (va_A (wd_X9_from cI cC cZ cB cJ a_x xG xD wY wJ wQ xI xK xJ tW tX jE mX pD oO oQ eG bZ bD bI aI wD gF nJ nY dQ jC eO eW dO fJ fY jD nG) sz) := by
  refine g_enter (own := RX9) (dC, dI) (tyl cI cC cZ cB cJ) (wd_X9_from cI cC cZ cB cJ a_x xG xD wY wJ wQ xI xK xJ tW tX jE mX pD oO oQ eG bZ bD bI aI wD gF nJ nY dQ jC eO eW dO fJ fY jD nG) sz [.ref a_x, .int p0, .int p1] (fun A => q_X9_from dC dI cI cC cZ cB cJ A a_x xG xD wY wJ wQ xI xK xJ tW tX jE mX pD oO oQ eG bZ bD bI aI wD gF nJ nY dQ jC eO eW dO fJ fY jD nG post) pn_RX9 rfl (Nat.le_of_ble_eq_true rfl) ?_
  intro p e s m args below meth c A H locs ls C0 hP hD hS hl
  have hl : lv_has ls 6 [(0, .ref a_x), (1, .int p0), (2, .int p1)] := hl
  obtain ⟨hx, hb, hr, hml, hown, hts, hlocks, hA, hK, hN, tL, tM, hZL, hTL, hZM, hTM, hZX⟩ := id C0
  have hp := hw
  unfold wp_X9_from at hp
  refine lv_aload_n hx hb eX9_from_0.1 rfl (lv_at hl 0 rfl) ?_
  refine va_get (D := (dC, dI)) (ci := 9) (v := .ref wJ) (C := RX9) (T := TX9) (N := 9) hx hb hts i_X9 hown hK hP 0 rfl rfl 3 (Nat.le_of_ble_eq_true rfl) (hts _ q_74) (fun _ h9 => h9) rfl eX9_from_0.2.1 ?_
  refine lv_iload_n hx hb eX9_from_0.2.2.1 rfl (lv_at hl 1 rfl) ?_
  have hm := mgk (wc := (wd_X3_hasFruit cI cC cZ cB cJ wJ tX jE mX pD oO oQ eG bZ bD bI aI)) hP mk_28 8 rfl rfl rfl
  refine g_calli hP hD hS hA (mixT mk_28) (mixF mk_28) hm.1 hm.2 (nd_F _) (dis_g _) (g_runV (As := [.int p0]) (rest := []) C0 hP hD hS (mixT mk_28) hm.1 (nd_T _) 1 3 rfl rfl (c_X3_hasFruit l dC dI cI cC cZ cB cJ wJ tX jE mX pD oO oQ eG H.size p0 bZ bD bI aI _ hp) q_171 q_174 q_172 q_173 q_48 h_X3_hasFruit rfl rfl ⟨Nat.le_of_ble_eq_true rfl, Nat.le_of_ble_eq_true rfl⟩ rfl rfl hl.1 rfl (lv_room (Nat.le_of_ble_eq_true rfl)) eX9_from_0.2.2.2.1 ⟨Nat.zero_le _, Nat.zero_le _⟩) (fun r_1 u H locs hp hP hD hS => ?_)
  have hPD := PDm (ws' := (wd_X9_from cI cC cZ cB cJ a_x xG xD wY wJ wQ xI xK xJ tW tX jE mX pD oO oQ eG bZ bD bI aI wD gF nJ nY dQ jC eO eW dO fJ fY jD nG)) hP hD 8 rfl rfl rfl
  have hP := hPD.1
  have hD := hPD.2
  refine lv_if_eq (tgt := 18) hx hb eX9_from_0.2.2.2.2.1 (by decide) (fun hc => ?_) (fun hc => ?_)
  · have hp := hp.1 hc
    refine lv_iconst (v := (-1)) hx hb eX9_from_0.2.2.2.2.2.2.2.2.1 ic_m1 ?_
    exact W.iret (v := (-1)) hx hb hr (fun t ht hW => ⟨⟨(-1), (), rfl, hp, by rw [ht]; exact hP, va_K.moved hW.alike hK, hD⟩, hS.F ht⟩) hS.2.2 eX9_from_0.2.2.2.2.2.2.2.2.2.1
  · have hp := hp.2 hc
    refine lv_iload_n hx hb eX9_from_0.2.2.2.2.2.1 rfl (lv_at hl 2 rfl) ?_
    have hm := mgk (wc := (wd_X9_isYesOrNo cI cC cZ cB cJ)) hP aAW 8 rfl rfl rfl
    refine g_calli hP hD hS hA (mixT aAW) (mixF aAW) hm.1 hm.2 (nd_F _) (dis_g _) (g_runS (As := [.int p1]) (rest := []) C0 hP hD hS (mixT aAW) hm.1 (nd_T _) (c_X9_isYesOrNo l dC dI cI cC cZ cB cJ H.size p1 _ hp) q_260 q_413 q_261 q_256 h_X9_isYesOrNo rfl rfl ⟨Nat.le_of_ble_eq_true rfl, Nat.le_of_ble_eq_true rfl⟩ rfl rfl hl.1 rfl (lv_room (Nat.le_of_ble_eq_true rfl)) eX9_from_0.2.2.2.2.2.2.1 ⟨Nat.zero_le _, Nat.zero_le _⟩) (fun r_2 u H locs hp hP hD hS => ?_)
    have hPD := PDm (ws' := (wd_X9_from cI cC cZ cB cJ a_x xG xD wY wJ wQ xI xK xJ tW tX jE mX pD oO oQ eG bZ bD bI aI wD gF nJ nY dQ jC eO eW dO fJ fY jD nG)) hP hD 8 rfl rfl rfl
    have hP := hPD.1
    have hD := hPD.2
    refine lv_if_ne (tgt := 20) hx hb eX9_from_0.2.2.2.2.2.2.2.1 (by decide) (fun hc => ?_) (fun hc => ?_)
    · have hp := hp.1 hc
      refine lv_aload_n hx hb eX9_from_0.2.2.2.2.2.2.2.2.2.2.1 rfl (lv_at hl 0 rfl) ?_
      refine va_get (D := (dC, dI)) (ci := 9) (v := .ref wJ) (C := RX9) (T := TX9) (N := 9) hx hb hts i_X9 hown hK hP 0 rfl rfl 3 (Nat.le_of_ble_eq_true rfl) (hts _ q_74) (fun _ h9 => h9) rfl eX9_from_0.2.2.2.2.2.2.2.2.2.2.2.1 ?_
      refine lv_aload_n hx hb eX9_from_0.2.2.2.2.2.2.2.2.2.2.2.2.1 rfl (lv_at hl 0 rfl) ?_
      refine va_get (D := (dC, dI)) (ci := 9) (v := .ref wQ) (C := RX9) (T := TX9) (N := 9) hx hb hts i_X9 hown hK hP 0 rfl rfl 4 (Nat.le_of_ble_eq_true rfl) (hts _ q_179) (fun _ h9 => h9) rfl eX9_from_0.2.2.2.2.2.2.2.2.2.2.2.2.2.1 ?_
      refine va_get (D := (dC, dI)) (ci := 2) (v := .int fY) (C := RX2) (T := TX2) (N := 8) hx hb hts i_X2 hown hK hP 7 rfl rfl 5 (Nat.le_of_ble_eq_true rfl) (hts _ q_414) (fun _ h9 => h9) rfl eX9_from_0.2.2.2.2.2.2.2.2.2.2.2.2.2.2.1 ?_
      refine lv_iload_n hx hb eX9_from_0.2.2.2.2.2.2.2.2.2.2.2.2.2.2.2 rfl (lv_at hl 2 rfl) ?_
      have hm := mgk (wc := (wd_X3_reach cI cC cZ cB cJ wJ tX jE mX pD oO oQ eG bZ bD bI aI dQ)) hP mk_101 8 rfl rfl rfl
      refine g_calli hP hD hS hA (mixT mk_101) (mixF mk_101) hm.1 hm.2 (nd_F _) (dis_g _) (g_runV (As := [.int fY, .int p1]) (rest := []) C0 hP hD hS (mixT mk_101) hm.1 (nd_T _) 1 3 rfl rfl (c_X3_reach l dC dI cI cC cZ cB cJ wJ tX jE mX pD oO oQ eG H.size fY p1 bZ bD bI aI dQ _ hp) q_312 q_411 q_313 q_314 q_48 h_X3_reach rfl rfl ⟨Nat.le_of_ble_eq_true rfl, Nat.le_of_ble_eq_true rfl⟩ rfl rfl hl.1 rfl (lv_room (Nat.le_of_ble_eq_true rfl)) eX9_from_32.1 ⟨Nat.zero_le _, Nat.zero_le _⟩) (fun r_3 u H locs hp hP hD hS => ?_)
      have hPD := PDm (ws' := (wd_X9_from cI cC cZ cB cJ a_x xG xD wY wJ wQ xI xK xJ tW tX jE mX pD oO oQ eG bZ bD bI aI wD gF nJ nY dQ jC eO eW dO fJ fY jD nG)) hP hD 8 rfl rfl rfl
      have hP := hPD.1
      have hD := hPD.2
      refine lv_istore_n (lv' := [(3, .int r_3), (0, .ref a_x), (1, .int p0), (2, .int p1)]) hx hb eX9_from_32.2.1 rfl hl (by decide) rfl (fun ls hl => ?_)
      refine lv_iconst (v := 0) hx hb eX9_from_32.2.2.1 ic_0 ?_
      refine lv_istore (lv' := [(4, .int 0), (3, .int r_3), (0, .ref a_x), (1, .int p0), (2, .int p1)]) hx hb eX9_from_32.2.2.2.1 hl (by decide) rfl (fun ls hl => ?_)
      refine lv_iconst (v := 0) hx hb eX9_from_32.2.2.2.2.1 ic_0 ?_
      refine lv_istore (lv' := [(5, .int 0), (4, .int 0), (3, .int r_3), (0, .ref a_x), (1, .int p0), (2, .int p1)]) hx hb eX9_from_32.2.2.2.2.2.1 hl (by decide) rfl (fun ls hl => ?_)
      obtain ⟨n9, hp⟩ := hp
      exact kb_X9_from_42 C0 n9 p0 r_3 0 0 H locs ls hp hP hD hS (lv_sub hl [3, 4, 2, 1, 0] rfl)
    · have hp := hp.2 hc
      refine lv_iconst (v := (-1)) hx hb eX9_from_0.2.2.2.2.2.2.2.2.1 ic_m1 ?_
      exact W.iret (v := (-1)) hx hb hr (fun t ht hW => ⟨⟨(-1), (), rfl, hp, by rw [ht]; exact hP, va_K.moved hW.alike hK, hD⟩, hS.F ht⟩) hS.2.2 eX9_from_0.2.2.2.2.2.2.2.2.2.1
noncomputable abbrev wd_X9_never (cI cC cZ cB cJ : ClassId) (a_x xG xD wY wJ wQ xI xK xJ tW xH tX jE mX pD oO oQ eG qT : Nat) (bZ bD bI aI : Int32) (wD gF pE nJ nY dQ : Nat → Int32) (jC eO eW dO fJ fY jD nG qF : Int32) (jJ : Nat → Int32) : va_W := [(a_x, .inr (9, [.ref xG, .ref xD, .ref wY, .ref wJ, .ref wQ, .ref xI, .ref xK, .ref xJ, .ref tW])), (wY, .inr (0, [.ref wJ, .ref wQ, .ref xH])), (wJ, .inr (3, [.ref tX, .ref jE, .ref mX, .ref pD, .ref oO, .ref oQ, .ref eG, .int bZ, .int bD, .int bI, .int aI])), (tX, .inl (cI, 16, .inl wD)), (jE, .inl (cI, 16, .inl gF)), (mX, .inl (cI, 16, .inl pE)), (oO, .inl (cI, 8, .inl nJ)), (oQ, .inl (cI, 8, .inl nY)), (eG, .inl (cI, 5, .inl dQ)), (wQ, .inr (2, [.int jC, .int eO, .int eW, .int dO, .int fJ, .int fY, .int jD, .int nG])), (xK, .inr (6, [.ref qT, .int qF])), (qT, .inl (cI, 16, .inl jJ))]
noncomputable abbrev q_X9_never (dC : Nat → ClassId) (dI : Nat → Nat → Nat) (cI cC cZ cB cJ : ClassId) (A : Nat → Prop) (a_x xG xD wY wJ wQ xI xK xJ tW xH tX jE mX pD oO oQ eG qT : Nat) (bZ bD bI aI : Int32) (wD gF pE nJ nY dQ : Nat → Int32) (jC eO eW dO fJ fY jD nG : Int32) (post : Int32 → Int32 → (Nat → Int32) → Prop) : Array Value → State → Outcome → State → Prop := va_Qi (fun (r : Int32) (u : Int32 × (Nat → Int32)) => post r u.1 u.2) (fun u t => gB (dC, dI) (tyl cI cC cZ cB cJ) A (wd_X9_never cI cC cZ cB cJ a_x xG xD wY wJ wQ xI xK xJ tW xH tX jE mX pD oO oQ eG qT bZ bD bI aI wD gF pE nJ nY dQ jC eO eW dO fJ fY jD nG u.1 u.2) t) A
noncomputable abbrev rm_X9_never : Room := { frames := 3, cells := 0, slots := 0, locals := 71 }
section S_X9_never
variable {p : Program} {l : Launch} {e : Env} {s : State} {m : MethodId} {args : Array Value} {below : List Frame} {meth : Method} {c : Code} {dC : Nat → ClassId} {dI : Nat → Nat → Nat} {cI cC cZ cB cJ : ClassId} {A : Nat → Prop} {a_x xG xD wY wJ wQ xI xK xJ tW xH tX jE mX pD oO oQ eG qT : Nat} {bZ bD bI aI : Int32} {wD gF pE nJ nY dQ : Nat → Int32} {jC eO eW dO fJ fY jD nG : Int32} {post : Int32 → Int32 → (Nat → Int32) → Prop}
noncomputable def ws_X9_never_10 (post : Int32 → Int32 → (Nat → Int32) → Prop) (next : Int32 → Int32 → Int32 → (Nat → Int32) → Prop) (bZ bD : Int32) (wD gF pE nJ nY dQ : Nat → Int32) (jC eO eW dO x1 x2 qF : Int32) (jJ : Nat → Int32) : Prop := (bD ≤ x2 → wp_X0_worthOf (fun r_2 => wp_X9_tell (fun aAq zE => post x1 aAq zE) r_2 qF jJ) x1 bZ pE dO) ∧ (¬ bD ≤ x2 → wp_X3_reach (fun r_5 => wp_X3_within (fun r_6 => ∀ v_7 : Int32, v_7 = x1 &&& (r_6 ^^^ (-1)) → ∀ v_8 : Int32, v_8 = x2 + 1 → next v_7 v_8 qF jJ) x2 r_5 bZ wD gF nJ nY) 1 1 dQ)
noncomputable def wb_X9_never_10 (post : Int32 → Int32 → (Nat → Int32) → Prop) (bZ bD : Int32) (wD gF pE nJ nY dQ : Nat → Int32) (jC eO eW dO : Int32) : Nat → Int32 → Int32 → Int32 → (Nat → Int32) → Prop := fun n => Nat.rec (motive := fun _ => Int32 → Int32 → Int32 → (Nat → Int32) → Prop) (fun _ _ _ _ => False) (fun _ ih => ws_X9_never_10 post ih bZ bD wD gF pE nJ nY dQ jC eO eW dO) n
set_option maxHeartbeats 4000000 in
set_option maxRecDepth 100000 in
theorem ks_X9_never_10 (C0 : gc cX9_never (some .int) 3 RX9 (dC, dI) (tyl cI cC cZ cB cJ) A p s m args meth c) {next : Int32 → Int32 → Int32 → (Nat → Int32) → Prop} (hKn : ∀ (x1 : Int32) (x2 : Int32) (qF : Int32) (jJ : Nat → Int32) (H : Heap) (locs : List Loc) (ls : Array Slot), next x1 x2 qF jJ → va_P (dC, dI) classes (wd_X9_never cI cC cZ cB cJ a_x xG xD wY wJ wQ xI xK xJ tW xH tX jE mX pD oO oQ eG qT bZ bD bI aI wD gF pE nJ nY dQ jC eO eW dO fJ fY jD nG qF jJ) H → va_D A (wd_X9_never cI cC cZ cB cJ a_x xG xD wY wJ wQ xI xK xJ tW xH tX jE mX pD oO oQ eG qT bZ bD bI aI wD gF pE nJ nY dQ jC eO eW dO fJ fY jD nG qF jJ) → va_S A s.heap H locs → lv_has ls 3 [(0, .ref a_x), (1, .int x1), (2, .int x2)] → W p l e rm_X9_never s m args below meth c H locs 0 0 (MQ below (q_X9_never dC dI cI cC cZ cB cJ A a_x xG xD wY wJ wQ xI xK xJ tW xH tX jE mX pD oO oQ eG qT bZ bD bI aI wD gF pE nJ nY dQ jC eO eW dO fJ fY jD nG post) args s 0 0 A) (F0 m 10 ls [])) : ∀ (x1 x2 qF : Int32) (jJ : Nat → Int32) (H : Heap) (locs : List Loc) (ls : Array Slot), (ws_X9_never_10 post next bZ bD wD gF pE nJ nY dQ jC eO eW dO) x1 x2 qF jJ → va_P (dC, dI) classes (wd_X9_never cI cC cZ cB cJ a_x xG xD wY wJ wQ xI xK xJ tW xH tX jE mX pD oO oQ eG qT bZ bD bI aI wD gF pE nJ nY dQ jC eO eW dO fJ fY jD nG qF jJ) H → va_D A (wd_X9_never cI cC cZ cB cJ a_x xG xD wY wJ wQ xI xK xJ tW xH tX jE mX pD oO oQ eG qT bZ bD bI aI wD gF pE nJ nY dQ jC eO eW dO fJ fY jD nG qF jJ) → va_S A s.heap H locs → lv_has ls 3 [(0, .ref a_x), (1, .int x1), (2, .int x2)] → W p l e rm_X9_never s m args below meth c H locs 0 0 (MQ below (q_X9_never dC dI cI cC cZ cB cJ A a_x xG xD wY wJ wQ xI xK xJ tW xH tX jE mX pD oO oQ eG qT bZ bD bI aI wD gF pE nJ nY dQ jC eO eW dO fJ fY jD nG post) args s 0 0 A) (F0 m 10 ls []) := by
  obtain ⟨hx, hb, hr, hml, hown, hts, hlocks, hA, hK, hN, tL, tM, hZL, hTL, hZM, hTM, hZX⟩ := id C0
  intro x1 x2 qF jJ H locs ls hp hP hD hS hl
  unfold ws_X9_never_10 at hp
  refine lv_iload_n hx hb eX9_never_0.2.2.2.2.2.2.1 rfl (lv_at hl 2 rfl) ?_
  refine lv_aload_n hx hb eX9_never_0.2.2.2.2.2.2.2.1 rfl (lv_at hl 0 rfl) ?_
  refine va_get (D := (dC, dI)) (ci := 9) (v := .ref wJ) (C := RX9) (T := TX9) (N := 9) hx hb hts i_X9 hown hK hP 0 rfl rfl 3 (Nat.le_of_ble_eq_true rfl) (hts _ q_74) (fun _ h9 => h9) rfl eX9_never_0.2.2.2.2.2.2.2.2.1 ?_
  refine va_get (D := (dC, dI)) (ci := 3) (v := .int bD) (C := RX3) (T := TX3) (N := 11) hx hb hts i_X3 hown hK hP 2 rfl rfl 8 (Nat.le_of_ble_eq_true rfl) (hts _ q_415) (fun _ h9 => h9) rfl eX9_never_0.2.2.2.2.2.2.2.2.2.1 ?_
  refine lv_icmp_ge (tgt := 49) hx hb eX9_never_0.2.2.2.2.2.2.2.2.2.2.1 (by decide) (fun hc => ?_) (fun hc => ?_)
  · have hp := hp.1 hc
    refine lv_aload_n hx hb eX9_never_28.2.2.2.2.2.2.2.2.2.2.2.1 rfl (lv_at hl 0 rfl) ?_
    refine lv_aload_n hx hb eX9_never_28.2.2.2.2.2.2.2.2.2.2.2.2.1 rfl (lv_at hl 0 rfl) ?_
    refine va_get (D := (dC, dI)) (ci := 9) (v := .ref wY) (C := RX9) (T := TX9) (N := 9) hx hb hts i_X9 hown hK hP 0 rfl rfl 2 (Nat.le_of_ble_eq_true rfl) (hts _ q_146) (fun _ h9 => h9) rfl eX9_never_28.2.2.2.2.2.2.2.2.2.2.2.2.2.1 ?_
    refine lv_iload_n hx hb eX9_never_28.2.2.2.2.2.2.2.2.2.2.2.2.2.2.1 rfl (lv_at hl 1 rfl) ?_
    have hm := mgk (wc := (wd_X0_worthOf cI cC cZ cB cJ wY wJ wQ xH tX jE mX pD oO oQ eG bZ bD bI aI pE jC eO eW dO fJ fY jD nG)) hP mk_102 12 rfl rfl rfl
    refine g_calli hP hD hS hA (mixT mk_102) (mixF mk_102) hm.1 hm.2 (nd_F _) (dis_g _) (g_runV (As := [.int x1]) (rest := [.ref a_x]) C0 hP hD hS (mixT mk_102) hm.1 (nd_T _) 1 0 rfl rfl (c_X0_worthOf l dC dI cI cC cZ cB cJ wY wJ wQ xH tX jE mX pD oO oQ eG H.size x1 bZ bD bI aI pE jC eO eW dO fJ fY jD nG _ hp) q_297 q_417 q_298 q_299 q_187 h_X0_worthOf rfl rfl ⟨Nat.le_of_ble_eq_true rfl, Nat.le_of_ble_eq_true rfl⟩ rfl rfl hl.1 rfl (lv_room (Nat.le_of_ble_eq_true rfl)) eX9_never_28.2.2.2.2.2.2.2.2.2.2.2.2.2.2.2 ⟨Nat.zero_le _, Nat.zero_le _⟩) (fun r_2 u H locs hp hP hD hS => ?_)
    have hPD := PDm (ws' := (wd_X9_never cI cC cZ cB cJ a_x xG xD wY wJ wQ xI xK xJ tW xH tX jE mX pD oO oQ eG qT bZ bD bI aI wD gF pE nJ nY dQ jC eO eW dO fJ fY jD nG qF jJ)) hP hD 12 rfl rfl rfl
    have hP := hPD.1
    have hD := hPD.2
    have hm := mgk (wc := (wd_X9_tell cI cC cZ cB cJ a_x xG xD wY wJ wQ xI xK xJ tW qT qF jJ)) hP mk_103 12 rfl rfl rfl
    refine g_callv hP hD hS hA (mixT mk_103) (mixF mk_103) hm.1 hm.2 (nd_F _) (dis_g _) (g_runV (As := [.int r_2]) (rest := []) C0 hP hD hS (mixT mk_103) hm.1 (nd_T _) 0 9 rfl rfl (c_X9_tell l dC dI cI cC cZ cB cJ a_x xG xD wY wJ wQ xI xK xJ tW qT H.size r_2 qF jJ _ hp) q_373 q_376 q_374 q_375 q_256 h_X9_tell rfl rfl ⟨Nat.le_of_ble_eq_true rfl, Nat.le_of_ble_eq_true rfl⟩ rfl rfl hl.1 rfl (lv_room (Nat.le_of_ble_eq_true rfl)) eX9_never_58.1 ⟨Nat.zero_le _, Nat.zero_le _⟩) (fun u H locs hp hP hD hS => ?_)
    obtain ⟨aAq, zE⟩ := u
    have hPD := PDm (ws' := (wd_X9_never cI cC cZ cB cJ a_x xG xD wY wJ wQ xI xK xJ tW xH tX jE mX pD oO oQ eG qT bZ bD bI aI wD gF pE nJ nY dQ jC eO eW dO fJ fY jD nG aAq zE)) hP hD 12 rfl rfl rfl
    have hP := hPD.1
    have hD := hPD.2
    refine lv_iload_n hx hb eX9_never_58.2.1 rfl (lv_at hl 1 rfl) ?_
    exact W.iret (v := x1) hx hb hr (fun t ht hW => ⟨⟨x1, (aAq, zE), rfl, hp, by rw [ht]; exact hP, va_K.moved hW.alike hK, hD⟩, hS.F ht⟩) hS.2.2 eX9_never_58.2.2
  · have hp := hp.2 hc
    refine lv_iload_n hx hb eX9_never_0.2.2.2.2.2.2.2.2.2.2.2.1 rfl (lv_at hl 1 rfl) ?_
    refine lv_aload_n hx hb eX9_never_0.2.2.2.2.2.2.2.2.2.2.2.2.1 rfl (lv_at hl 0 rfl) ?_
    refine va_get (D := (dC, dI)) (ci := 9) (v := .ref wJ) (C := RX9) (T := TX9) (N := 9) hx hb hts i_X9 hown hK hP 0 rfl rfl 3 (Nat.le_of_ble_eq_true rfl) (hts _ q_74) (fun _ h9 => h9) rfl eX9_never_0.2.2.2.2.2.2.2.2.2.2.2.2.2.1 ?_
    refine lv_iload_n hx hb eX9_never_0.2.2.2.2.2.2.2.2.2.2.2.2.2.2.1 rfl (lv_at hl 2 rfl) ?_
    refine lv_aload_n hx hb eX9_never_0.2.2.2.2.2.2.2.2.2.2.2.2.2.2.2 rfl (lv_at hl 0 rfl) ?_
    refine va_get (D := (dC, dI)) (ci := 9) (v := .ref wJ) (C := RX9) (T := TX9) (N := 9) hx hb hts i_X9 hown hK hP 0 rfl rfl 3 (Nat.le_of_ble_eq_true rfl) (hts _ q_74) (fun _ h9 => h9) rfl eX9_never_28.1 ?_
    refine lv_iconst (v := 1) hx hb eX9_never_28.2.1 ic_1 ?_
    refine lv_iconst (v := 1) hx hb eX9_never_28.2.2.1 ic_1 ?_
    have hm := mgk (wc := (wd_X3_reach cI cC cZ cB cJ wJ tX jE mX pD oO oQ eG bZ bD bI aI dQ)) hP mk_104 12 rfl rfl rfl
    refine g_calli hP hD hS hA (mixT mk_104) (mixF mk_104) hm.1 hm.2 (nd_F _) (dis_g _) (g_runV (As := [.int 1, .int 1]) (rest := [.int x2, .ref wJ, .int x1]) C0 hP hD hS (mixT mk_104) hm.1 (nd_T _) 2 3 rfl rfl (c_X3_reach l dC dI cI cC cZ cB cJ wJ tX jE mX pD oO oQ eG H.size 1 1 bZ bD bI aI dQ _ hp) q_312 q_411 q_313 q_314 q_48 h_X3_reach rfl rfl ⟨Nat.le_of_ble_eq_true rfl, Nat.le_of_ble_eq_true rfl⟩ rfl rfl hl.1 rfl (lv_room (Nat.le_of_ble_eq_true rfl)) eX9_never_28.2.2.2.1 ⟨Nat.zero_le _, Nat.zero_le _⟩) (fun r_5 u H locs hp hP hD hS => ?_)
    have hPD := PDm (ws' := (wd_X9_never cI cC cZ cB cJ a_x xG xD wY wJ wQ xI xK xJ tW xH tX jE mX pD oO oQ eG qT bZ bD bI aI wD gF pE nJ nY dQ jC eO eW dO fJ fY jD nG qF jJ)) hP hD 12 rfl rfl rfl
    have hP := hPD.1
    have hD := hPD.2
    have hm := mgk (wc := (wd_X3_within cI cC cZ cB cJ wJ tX jE mX pD oO oQ eG bZ bD bI aI wD gF nJ nY)) hP mk_105 12 rfl rfl rfl
    refine g_calli hP hD hS hA (mixT mk_105) (mixF mk_105) hm.1 hm.2 (nd_F _) (dis_g _) (g_runV (As := [.int x2, .int r_5]) (rest := [.int x1]) C0 hP hD hS (mixT mk_105) hm.1 (nd_T _) 2 3 rfl rfl (c_X3_within l dC dI cI cC cZ cB cJ wJ tX jE mX pD oO oQ eG H.size x2 r_5 bZ bD bI aI wD gF nJ nY _ hp) q_339 q_412 q_340 q_341 q_48 h_X3_within rfl rfl ⟨Nat.le_of_ble_eq_true rfl, Nat.le_of_ble_eq_true rfl⟩ rfl rfl hl.1 rfl (lv_room (Nat.le_of_ble_eq_true rfl)) eX9_never_28.2.2.2.2.1 ⟨Nat.zero_le _, Nat.zero_le _⟩) (fun r_6 u H locs hp hP hD hS => ?_)
    have hPD := PDm (ws' := (wd_X9_never cI cC cZ cB cJ a_x xG xD wY wJ wQ xI xK xJ tW xH tX jE mX pD oO oQ eG qT bZ bD bI aI wD gF pE nJ nY dQ jC eO eW dO fJ fY jD nG qF jJ)) hP hD 12 rfl rfl rfl
    have hP := hPD.1
    have hD := hPD.2
    refine lv_iconst (v := (-1)) hx hb eX9_never_28.2.2.2.2.2.1 ic_m1 ?_
    refine lv_ixor hx hb eX9_never_28.2.2.2.2.2.2.1 ?_
    refine lv_iand hx hb eX9_never_28.2.2.2.2.2.2.2.1 ?_
    refine lv_topi (fun v_7 ev_7 => ?_)
    have hp := hp v_7 ev_7
    refine lv_istore_n (lv' := [(1, .int v_7), (0, .ref a_x), (2, .int x2)]) hx hb eX9_never_28.2.2.2.2.2.2.2.2.1 rfl hl (by decide) rfl (fun ls hl => ?_)
    obtain ⟨v_8, ev_8⟩ : ∃ y : Int32, y = x2 + 1 := ⟨_, rfl⟩
    refine lv_iinc (v := v_8) (lv' := [(2, .int v_8), (1, .int v_7), (0, .ref a_x)]) hx hb eX9_never_28.2.2.2.2.2.2.2.2.2.1 hl (k := 2) rfl (by rw [ev_8]; rfl) (by decide) rfl (fun ls hl => ?_)
    have hp := hp v_8 ev_8
    refine lv_goto (tgt := 10) hx hb eX9_never_28.2.2.2.2.2.2.2.2.2.2.1 (by decide) ?_
    exact hKn v_7 v_8 qF jJ H locs ls hp hP hD hS (lv_sub hl [2, 1, 0] rfl)
set_option maxHeartbeats 4000000 in
set_option maxRecDepth 100000 in
theorem kb_X9_never_10 (C0 : gc cX9_never (some .int) 3 RX9 (dC, dI) (tyl cI cC cZ cB cJ) A p s m args meth c) : ∀ (n : Nat), ∀ (x1 x2 qF : Int32) (jJ : Nat → Int32) (H : Heap) (locs : List Loc) (ls : Array Slot), (wb_X9_never_10 post bZ bD wD gF pE nJ nY dQ jC eO eW dO n) x1 x2 qF jJ → va_P (dC, dI) classes (wd_X9_never cI cC cZ cB cJ a_x xG xD wY wJ wQ xI xK xJ tW xH tX jE mX pD oO oQ eG qT bZ bD bI aI wD gF pE nJ nY dQ jC eO eW dO fJ fY jD nG qF jJ) H → va_D A (wd_X9_never cI cC cZ cB cJ a_x xG xD wY wJ wQ xI xK xJ tW xH tX jE mX pD oO oQ eG qT bZ bD bI aI wD gF pE nJ nY dQ jC eO eW dO fJ fY jD nG qF jJ) → va_S A s.heap H locs → lv_has ls 3 [(0, .ref a_x), (1, .int x1), (2, .int x2)] → W p l e rm_X9_never s m args below meth c H locs 0 0 (MQ below (q_X9_never dC dI cI cC cZ cB cJ A a_x xG xD wY wJ wQ xI xK xJ tW xH tX jE mX pD oO oQ eG qT bZ bD bI aI wD gF pE nJ nY dQ jC eO eW dO fJ fY jD nG post) args s 0 0 A) (F0 m 10 ls []) := by
  intro n
  induction n with
  | zero =>
    intro x1 x2 qF jJ H locs ls hp
    exact False.elim hp
  | succ n ih =>
    intro x1 x2 qF jJ H locs ls hp
    exact ks_X9_never_10 C0 ih x1 x2 qF jJ H locs ls hp
end S_X9_never
noncomputable def wp_X9_never (post : Int32 → Int32 → (Nat → Int32) → Prop) (bZ bD : Int32) (wD gF pE nJ nY dQ : Nat → Int32) (jC eO eW dO qF : Int32) (jJ : Nat → Int32) : Prop := wp_X0_hanging (fun r_1 => ∃ n : Nat, wb_X9_never_10 post bZ bD wD gF pE nJ nY dQ jC eO eW dO n r_1 0 qF jJ) bZ jC eO eW
set_option maxHeartbeats 4000000 in
set_option maxRecDepth 100000 in
theorem c_X9_never (l : Launch) (dC : Nat → ClassId) (dI : Nat → Nat → Nat) (cI cC cZ cB cJ : ClassId) (a_x xG xD wY wJ wQ xI xK xJ tW xH tX jE mX pD oO oQ eG qT sz : Nat) (bZ bD bI aI : Int32) (wD gF pE nJ nY dQ : Nat → Int32) (jC eO eW dO fJ fY jD nG qF : Int32) (jJ : Nat → Int32) (post : Int32 → Int32 → (Nat → Int32) → Prop) (hw : wp_X9_never post bZ bD wD gF pE nJ nY dQ jC eO eW dO qF jJ) : Met l yX9_never (gw yX9_never cX9_never 3 (some .int)) rm_X9_never (va_Pc [.ref a_x] (gPre (dC, dI) (tyl cI cC cZ cB cJ) (wd_X9_never cI cC cZ cB cJ a_x xG xD wY wJ wQ xI xK xJ tW xH tX jE mX pD oO oQ eG qT bZ bD bI aI wD gF pE nJ nY dQ jC eO eW dO fJ fY jD nG qF jJ) sz)) (q_X9_never dC dI cI cC cZ cB cJ (va_A (wd_X9_never cI cC cZ cB cJ a_x xG xD wY wJ wQ xI xK xJ tW xH tX jE mX pD oO oQ eG qT bZ bD bI aI wD gF pE nJ nY dQ jC eO eW dO fJ fY jD nG qF jJ) sz) a_x xG xD wY wJ wQ xI xK xJ tW xH tX jE mX pD oO oQ eG qT bZ bD bI aI wD gF pE nJ nY dQ jC eO eW dO fJ fY jD nG post) 0 0 (va_A (wd_X9_never cI cC cZ cB cJ a_x xG xD wY wJ wQ xI xK xJ tW xH tX jE mX pD oO oQ eG qT bZ bD bI aI wD gF pE nJ nY dQ jC eO eW dO fJ fY jD nG qF jJ) sz) := by
  refine g_enter (own := RX9) (dC, dI) (tyl cI cC cZ cB cJ) (wd_X9_never cI cC cZ cB cJ a_x xG xD wY wJ wQ xI xK xJ tW xH tX jE mX pD oO oQ eG qT bZ bD bI aI wD gF pE nJ nY dQ jC eO eW dO fJ fY jD nG qF jJ) sz [.ref a_x] (fun A => q_X9_never dC dI cI cC cZ cB cJ A a_x xG xD wY wJ wQ xI xK xJ tW xH tX jE mX pD oO oQ eG qT bZ bD bI aI wD gF pE nJ nY dQ jC eO eW dO fJ fY jD nG post) pn_RX9 rfl (Nat.le_of_ble_eq_true rfl) ?_
  intro p e s m args below meth c A H locs ls C0 hP hD hS hl
  have hl : lv_has ls 3 [(0, .ref a_x)] := hl
  obtain ⟨hx, hb, hr, hml, hown, hts, hlocks, hA, hK, hN, tL, tM, hZL, hTL, hZM, hTM, hZX⟩ := id C0
  have hp := hw
  unfold wp_X9_never at hp
  refine lv_aload_n hx hb eX9_never_0.1 rfl (lv_at hl 0 rfl) ?_
  refine va_get (D := (dC, dI)) (ci := 9) (v := .ref wY) (C := RX9) (T := TX9) (N := 9) hx hb hts i_X9 hown hK hP 0 rfl rfl 2 (Nat.le_of_ble_eq_true rfl) (hts _ q_146) (fun _ h9 => h9) rfl eX9_never_0.2.1 ?_
  have hm := mgk (wc := (wd_X0_hanging cI cC cZ cB cJ wY wJ wQ xH tX jE mX pD oO oQ eG bZ bD bI aI jC eO eW dO fJ fY jD nG)) hP mk_106 12 rfl rfl rfl
  refine g_calli hP hD hS hA (mixT mk_106) (mixF mk_106) hm.1 hm.2 (nd_F _) (dis_g _) (g_runV (As := []) (rest := []) C0 hP hD hS (mixT mk_106) hm.1 (nd_T _) 1 0 rfl rfl (c_X0_hanging l dC dI cI cC cZ cB cJ wY wJ wQ xH tX jE mX pD oO oQ eG H.size bZ bD bI aI jC eO eW dO fJ fY jD nG _ hp) q_186 q_190 q_188 q_189 q_187 h_X0_hanging rfl rfl ⟨Nat.le_of_ble_eq_true rfl, Nat.le_of_ble_eq_true rfl⟩ rfl rfl hl.1 rfl (lv_room (Nat.le_of_ble_eq_true rfl)) eX9_never_0.2.2.1 ⟨Nat.zero_le _, Nat.zero_le _⟩) (fun r_1 u H locs hp hP hD hS => ?_)
  have hPD := PDm (ws' := (wd_X9_never cI cC cZ cB cJ a_x xG xD wY wJ wQ xI xK xJ tW xH tX jE mX pD oO oQ eG qT bZ bD bI aI wD gF pE nJ nY dQ jC eO eW dO fJ fY jD nG qF jJ)) hP hD 12 rfl rfl rfl
  have hP := hPD.1
  have hD := hPD.2
  refine lv_istore_n (lv' := [(1, .int r_1), (0, .ref a_x)]) hx hb eX9_never_0.2.2.2.1 rfl hl (by decide) rfl (fun ls hl => ?_)
  refine lv_iconst (v := 0) hx hb eX9_never_0.2.2.2.2.1 ic_0 ?_
  refine lv_istore_n (lv' := [(2, .int 0), (1, .int r_1), (0, .ref a_x)]) hx hb eX9_never_0.2.2.2.2.2.1 rfl hl (by decide) rfl (fun ls hl => ?_)
  obtain ⟨n9, hp⟩ := hp
  exact kb_X9_never_10 C0 n9 r_1 0 qF jJ H locs ls hp hP hD hS (lv_sub hl [2, 1, 0] rfl)
noncomputable abbrev wd_X9_seconds (cI cC cZ cB cJ : ClassId) (a_x xG xD wY wJ wQ xI xK xJ tW xH tX jE mX pD oO oQ eG uS sW uR qY sY : Nat) (bZ bD bI aI : Int32) (wD gF pE nJ nY dQ : Nat → Int32) (jC eO eW dO fJ fY jD nG pG qB sH uP pQ mW : Int32) (qO qQ oF : Nat → Int32) : va_W := [(a_x, .inr (9, [.ref xG, .ref xD, .ref wY, .ref wJ, .ref wQ, .ref xI, .ref xK, .ref xJ, .ref tW])), (wY, .inr (0, [.ref wJ, .ref wQ, .ref xH])), (wJ, .inr (3, [.ref tX, .ref jE, .ref mX, .ref pD, .ref oO, .ref oQ, .ref eG, .int bZ, .int bD, .int bI, .int aI])), (tX, .inl (cI, 16, .inl wD)), (jE, .inl (cI, 16, .inl gF)), (mX, .inl (cI, 16, .inl pE)), (oO, .inl (cI, 8, .inl nJ)), (oQ, .inl (cI, 8, .inl nY)), (eG, .inl (cI, 5, .inl dQ)), (wQ, .inr (2, [.int jC, .int eO, .int eW, .int dO, .int fJ, .int fY, .int jD, .int nG])), (xH, .inr (7, [.ref uS, .ref sW, .ref uR, .ref qY, .ref sY, .int pG, .int qB, .int sH, .int uP, .int pQ, .int mW])), (uS, .inl (cI, 7, .inl qO)), (uR, .inl (cI, 40, .inl qQ)), (qY, .inl (cI, 40, .inl oF))]
noncomputable abbrev q_X9_seconds (dC : Nat → ClassId) (dI : Nat → Nat → Nat) (cI cC cZ cB cJ : ClassId) (A : Nat → Prop) (a_x xG xD wY wJ wQ xI xK xJ tW xH tX jE mX pD oO oQ eG uS sW uR qY sY : Nat) (bZ bD bI aI : Int32) (wD gF pE nJ nY dQ : Nat → Int32) (jC eO eW dO fJ fY jD nG pG qB sH uP pQ mW : Int32) (oF : Nat → Int32) (post : Int32 → (Nat → Int32) → (Nat → Int32) → Prop) : Array Value → State → Outcome → State → Prop := va_Qi (fun (r : Int32) (u : (Nat → Int32) × (Nat → Int32)) => post r u.1 u.2) (fun u t => gB (dC, dI) (tyl cI cC cZ cB cJ) A (wd_X9_seconds cI cC cZ cB cJ a_x xG xD wY wJ wQ xI xK xJ tW xH tX jE mX pD oO oQ eG uS sW uR qY sY bZ bD bI aI wD gF pE nJ nY dQ jC eO eW dO fJ fY jD nG pG qB sH uP pQ mW u.1 u.2 oF) t) A
noncomputable abbrev rm_X9_seconds : Room := { frames := 3, cells := 0, slots := 0, locals := 73 }
noncomputable def wp_X9_seconds (post : Int32 → (Nat → Int32) → (Nat → Int32) → Prop) (p0 p1 p2 bZ bD : Int32) (wD gF pE nJ nY dQ : Nat → Int32) (dO fY pG : Int32) (qO qQ oF : Nat → Int32) : Prop := wp_X3_hasFruit (fun r_1 => (r_1 = 0 → post (-1) qO qQ) ∧ (¬ r_1 = 0 → wp_X3_hasStanding (fun r_2 => (r_2 = 0 → post (-1) qO qQ) ∧ (¬ r_2 = 0 → wp_X9_isYesOrNo (fun r_3 => (¬ r_3 = 0 → wp_X3_reach (fun r_4 => wp_X3_isWithin (fun r_5 => (¬ r_5 = 0 → wp_X0_pickSeconds (fun r_6 aEs aEt => post r_6 aEs aEt) p0 p1 p2 0 bZ wD gF pE nJ nY dO pG qO qQ oF) ∧ (r_5 = 0 → post (-2) qO qQ)) p0 p1 r_4 wD gF nJ nY) fY p2 dQ) ∧ (r_3 = 0 → post (-1) qO qQ)) p2)) p1 bD)) p0 bZ
set_option maxHeartbeats 4000000 in
set_option maxRecDepth 100000 in
theorem c_X9_seconds (l : Launch) (dC : Nat → ClassId) (dI : Nat → Nat → Nat) (cI cC cZ cB cJ : ClassId) (a_x xG xD wY wJ wQ xI xK xJ tW xH tX jE mX pD oO oQ eG uS sW uR qY sY sz : Nat) (p0 p1 p2 bZ bD bI aI : Int32) (wD gF pE nJ nY dQ : Nat → Int32) (jC eO eW dO fJ fY jD nG pG qB sH uP pQ mW : Int32) (qO qQ oF : Nat → Int32) (post : Int32 → (Nat → Int32) → (Nat → Int32) → Prop) (hw : wp_X9_seconds post p0 p1 p2 bZ bD wD gF pE nJ nY dQ dO fY pG qO qQ oF) : Met l yX9_seconds (gw yX9_seconds cX9_seconds 4 (some .int)) rm_X9_seconds (va_Pc [.ref a_x, .int p0, .int p1, .int p2] (gPre (dC, dI) (tyl cI cC cZ cB cJ) (wd_X9_seconds cI cC cZ cB cJ a_x xG xD wY wJ wQ xI xK xJ tW xH tX jE mX pD oO oQ eG uS sW uR qY sY bZ bD bI aI wD gF pE nJ nY dQ jC eO eW dO fJ fY jD nG pG qB sH uP pQ mW qO qQ oF) sz)) (q_X9_seconds dC dI cI cC cZ cB cJ (va_A (wd_X9_seconds cI cC cZ cB cJ a_x xG xD wY wJ wQ xI xK xJ tW xH tX jE mX pD oO oQ eG uS sW uR qY sY bZ bD bI aI wD gF pE nJ nY dQ jC eO eW dO fJ fY jD nG pG qB sH uP pQ mW qO qQ oF) sz) a_x xG xD wY wJ wQ xI xK xJ tW xH tX jE mX pD oO oQ eG uS sW uR qY sY bZ bD bI aI wD gF pE nJ nY dQ jC eO eW dO fJ fY jD nG pG qB sH uP pQ mW oF post) 0 0 (va_A (wd_X9_seconds cI cC cZ cB cJ a_x xG xD wY wJ wQ xI xK xJ tW xH tX jE mX pD oO oQ eG uS sW uR qY sY bZ bD bI aI wD gF pE nJ nY dQ jC eO eW dO fJ fY jD nG pG qB sH uP pQ mW qO qQ oF) sz) := by
  refine g_enter (own := RX9) (dC, dI) (tyl cI cC cZ cB cJ) (wd_X9_seconds cI cC cZ cB cJ a_x xG xD wY wJ wQ xI xK xJ tW xH tX jE mX pD oO oQ eG uS sW uR qY sY bZ bD bI aI wD gF pE nJ nY dQ jC eO eW dO fJ fY jD nG pG qB sH uP pQ mW qO qQ oF) sz [.ref a_x, .int p0, .int p1, .int p2] (fun A => q_X9_seconds dC dI cI cC cZ cB cJ A a_x xG xD wY wJ wQ xI xK xJ tW xH tX jE mX pD oO oQ eG uS sW uR qY sY bZ bD bI aI wD gF pE nJ nY dQ jC eO eW dO fJ fY jD nG pG qB sH uP pQ mW oF post) pn_RX9 rfl (Nat.le_of_ble_eq_true rfl) ?_
  intro p e s m args below meth c A H locs ls C0 hP hD hS hl
  have hl : lv_has ls 4 [(0, .ref a_x), (1, .int p0), (2, .int p1), (3, .int p2)] := hl
  obtain ⟨hx, hb, hr, hml, hown, hts, hlocks, hA, hK, hN, tL, tM, hZL, hTL, hZM, hTM, hZX⟩ := id C0
  have hp := hw
  unfold wp_X9_seconds at hp
  refine lv_aload_n hx hb eX9_seconds_0.1 rfl (lv_at hl 0 rfl) ?_
  refine va_get (D := (dC, dI)) (ci := 9) (v := .ref wJ) (C := RX9) (T := TX9) (N := 9) hx hb hts i_X9 hown hK hP 0 rfl rfl 3 (Nat.le_of_ble_eq_true rfl) (hts _ q_74) (fun _ h9 => h9) rfl eX9_seconds_0.2.1 ?_
  refine lv_iload_n hx hb eX9_seconds_0.2.2.1 rfl (lv_at hl 1 rfl) ?_
  have hm := mgk (wc := (wd_X3_hasFruit cI cC cZ cB cJ wJ tX jE mX pD oO oQ eG bZ bD bI aI)) hP mk_107 14 rfl rfl rfl
  refine g_calli hP hD hS hA (mixT mk_107) (mixF mk_107) hm.1 hm.2 (nd_F _) (dis_g _) (g_runV (As := [.int p0]) (rest := []) C0 hP hD hS (mixT mk_107) hm.1 (nd_T _) 2 3 rfl rfl (c_X3_hasFruit l dC dI cI cC cZ cB cJ wJ tX jE mX pD oO oQ eG H.size p0 bZ bD bI aI _ hp) q_171 q_174 q_172 q_173 q_48 h_X3_hasFruit rfl rfl ⟨Nat.le_of_ble_eq_true rfl, Nat.le_of_ble_eq_true rfl⟩ rfl rfl hl.1 rfl (lv_room (Nat.le_of_ble_eq_true rfl)) eX9_seconds_0.2.2.2.1 ⟨Nat.zero_le _, Nat.zero_le _⟩) (fun r_1 u H locs hp hP hD hS => ?_)
  have hPD := PDm (ws' := (wd_X9_seconds cI cC cZ cB cJ a_x xG xD wY wJ wQ xI xK xJ tW xH tX jE mX pD oO oQ eG uS sW uR qY sY bZ bD bI aI wD gF pE nJ nY dQ jC eO eW dO fJ fY jD nG pG qB sH uP pQ mW qO qQ oF)) hP hD 14 rfl rfl rfl
  have hP := hPD.1
  have hD := hPD.2
  refine lv_if_eq (tgt := 29) hx hb eX9_seconds_0.2.2.2.2.1 (by decide) (fun hc => ?_) (fun hc => ?_)
  · have hp := hp.1 hc
    refine lv_iconst (v := (-1)) hx hb eX9_seconds_0.2.2.2.2.2.2.2.2.2.2.2.2.2.1 ic_m1 ?_
    exact W.iret (v := (-1)) hx hb hr (fun t ht hW => ⟨⟨(-1), (qO, qQ), rfl, hp, by rw [ht]; exact hP, va_K.moved hW.alike hK, hD⟩, hS.F ht⟩) hS.2.2 eX9_seconds_0.2.2.2.2.2.2.2.2.2.2.2.2.2.2.1
  · have hp := hp.2 hc
    refine lv_aload_n hx hb eX9_seconds_0.2.2.2.2.2.1 rfl (lv_at hl 0 rfl) ?_
    refine va_get (D := (dC, dI)) (ci := 9) (v := .ref wJ) (C := RX9) (T := TX9) (N := 9) hx hb hts i_X9 hown hK hP 0 rfl rfl 3 (Nat.le_of_ble_eq_true rfl) (hts _ q_74) (fun _ h9 => h9) rfl eX9_seconds_0.2.2.2.2.2.2.1 ?_
    refine lv_iload_n hx hb eX9_seconds_0.2.2.2.2.2.2.2.1 rfl (lv_at hl 2 rfl) ?_
    have hm := mgk (wc := (wd_X3_hasStanding cI cC cZ cB cJ wJ tX jE mX pD oO oQ eG bZ bD bI aI)) hP mk_107 14 rfl rfl rfl
    refine g_calli hP hD hS hA (mixT mk_107) (mixF mk_107) hm.1 hm.2 (nd_F _) (dis_g _) (g_runV (As := [.int p1]) (rest := []) C0 hP hD hS (mixT mk_107) hm.1 (nd_T _) 2 3 rfl rfl (c_X3_hasStanding l dC dI cI cC cZ cB cJ wJ tX jE mX pD oO oQ eG H.size p1 bZ bD bI aI _ hp) q_195 q_198 q_196 q_197 q_48 h_X3_hasStanding rfl rfl ⟨Nat.le_of_ble_eq_true rfl, Nat.le_of_ble_eq_true rfl⟩ rfl rfl hl.1 rfl (lv_room (Nat.le_of_ble_eq_true rfl)) eX9_seconds_0.2.2.2.2.2.2.2.2.1 ⟨Nat.zero_le _, Nat.zero_le _⟩) (fun r_2 u H locs hp hP hD hS => ?_)
    have hPD := PDm (ws' := (wd_X9_seconds cI cC cZ cB cJ a_x xG xD wY wJ wQ xI xK xJ tW xH tX jE mX pD oO oQ eG uS sW uR qY sY bZ bD bI aI wD gF pE nJ nY dQ jC eO eW dO fJ fY jD nG pG qB sH uP pQ mW qO qQ oF)) hP hD 14 rfl rfl rfl
    have hP := hPD.1
    have hD := hPD.2
    refine lv_if_eq (tgt := 29) hx hb eX9_seconds_0.2.2.2.2.2.2.2.2.2.1 (by decide) (fun hc => ?_) (fun hc => ?_)
    · have hp := hp.1 hc
      refine lv_iconst (v := (-1)) hx hb eX9_seconds_0.2.2.2.2.2.2.2.2.2.2.2.2.2.1 ic_m1 ?_
      exact W.iret (v := (-1)) hx hb hr (fun t ht hW => ⟨⟨(-1), (qO, qQ), rfl, hp, by rw [ht]; exact hP, va_K.moved hW.alike hK, hD⟩, hS.F ht⟩) hS.2.2 eX9_seconds_0.2.2.2.2.2.2.2.2.2.2.2.2.2.2.1
    · have hp := hp.2 hc
      refine lv_iload_n hx hb eX9_seconds_0.2.2.2.2.2.2.2.2.2.2.1 rfl (lv_at hl 3 rfl) ?_
      have hm := mgk (wc := (wd_X9_isYesOrNo cI cC cZ cB cJ)) hP aAy 14 rfl rfl rfl
      refine g_calli hP hD hS hA (mixT aAy) (mixF aAy) hm.1 hm.2 (nd_F _) (dis_g _) (g_runS (As := [.int p2]) (rest := []) C0 hP hD hS (mixT aAy) hm.1 (nd_T _) (c_X9_isYesOrNo l dC dI cI cC cZ cB cJ H.size p2 _ hp) q_260 q_413 q_261 q_256 h_X9_isYesOrNo rfl rfl ⟨Nat.le_of_ble_eq_true rfl, Nat.le_of_ble_eq_true rfl⟩ rfl rfl hl.1 rfl (lv_room (Nat.le_of_ble_eq_true rfl)) eX9_seconds_0.2.2.2.2.2.2.2.2.2.2.2.1 ⟨Nat.zero_le _, Nat.zero_le _⟩) (fun r_3 u H locs hp hP hD hS => ?_)
      have hPD := PDm (ws' := (wd_X9_seconds cI cC cZ cB cJ a_x xG xD wY wJ wQ xI xK xJ tW xH tX jE mX pD oO oQ eG uS sW uR qY sY bZ bD bI aI wD gF pE nJ nY dQ jC eO eW dO fJ fY jD nG pG qB sH uP pQ mW qO qQ oF)) hP hD 14 rfl rfl rfl
      have hP := hPD.1
      have hD := hPD.2
      refine lv_if_ne (tgt := 31) hx hb eX9_seconds_0.2.2.2.2.2.2.2.2.2.2.2.2.1 (by decide) (fun hc => ?_) (fun hc => ?_)
      · have hp := hp.1 hc
        refine lv_aload_n hx hb eX9_seconds_0.2.2.2.2.2.2.2.2.2.2.2.2.2.2.2 rfl (lv_at hl 0 rfl) ?_
        refine va_get (D := (dC, dI)) (ci := 9) (v := .ref wJ) (C := RX9) (T := TX9) (N := 9) hx hb hts i_X9 hown hK hP 0 rfl rfl 3 (Nat.le_of_ble_eq_true rfl) (hts _ q_74) (fun _ h9 => h9) rfl eX9_seconds_32.1 ?_
        refine lv_iload_n hx hb eX9_seconds_32.2.1 rfl (lv_at hl 1 rfl) ?_
        refine lv_iload_n hx hb eX9_seconds_32.2.2.1 rfl (lv_at hl 2 rfl) ?_
        refine lv_aload_n hx hb eX9_seconds_32.2.2.2.1 rfl (lv_at hl 0 rfl) ?_
        refine va_get (D := (dC, dI)) (ci := 9) (v := .ref wJ) (C := RX9) (T := TX9) (N := 9) hx hb hts i_X9 hown hK hP 0 rfl rfl 3 (Nat.le_of_ble_eq_true rfl) (hts _ q_74) (fun _ h9 => h9) rfl eX9_seconds_32.2.2.2.2.1 ?_
        refine lv_aload_n hx hb eX9_seconds_32.2.2.2.2.2.1 rfl (lv_at hl 0 rfl) ?_
        refine va_get (D := (dC, dI)) (ci := 9) (v := .ref wQ) (C := RX9) (T := TX9) (N := 9) hx hb hts i_X9 hown hK hP 0 rfl rfl 4 (Nat.le_of_ble_eq_true rfl) (hts _ q_179) (fun _ h9 => h9) rfl eX9_seconds_32.2.2.2.2.2.2.1 ?_
        refine va_get (D := (dC, dI)) (ci := 2) (v := .int fY) (C := RX2) (T := TX2) (N := 8) hx hb hts i_X2 hown hK hP 9 rfl rfl 5 (Nat.le_of_ble_eq_true rfl) (hts _ q_414) (fun _ h9 => h9) rfl eX9_seconds_32.2.2.2.2.2.2.2.1 ?_
        refine lv_iload_n hx hb eX9_seconds_32.2.2.2.2.2.2.2.2.1 rfl (lv_at hl 3 rfl) ?_
        have hm := mgk (wc := (wd_X3_reach cI cC cZ cB cJ wJ tX jE mX pD oO oQ eG bZ bD bI aI dQ)) hP mk_108 14 rfl rfl rfl
        refine g_calli hP hD hS hA (mixT mk_108) (mixF mk_108) hm.1 hm.2 (nd_F _) (dis_g _) (g_runV (As := [.int fY, .int p2]) (rest := [.int p1, .int p0, .ref wJ]) C0 hP hD hS (mixT mk_108) hm.1 (nd_T _) 2 3 rfl rfl (c_X3_reach l dC dI cI cC cZ cB cJ wJ tX jE mX pD oO oQ eG H.size fY p2 bZ bD bI aI dQ _ hp) q_312 q_411 q_313 q_314 q_48 h_X3_reach rfl rfl ⟨Nat.le_of_ble_eq_true rfl, Nat.le_of_ble_eq_true rfl⟩ rfl rfl hl.1 rfl (lv_room (Nat.le_of_ble_eq_true rfl)) eX9_seconds_32.2.2.2.2.2.2.2.2.2.1 ⟨Nat.zero_le _, Nat.zero_le _⟩) (fun r_4 u H locs hp hP hD hS => ?_)
        have hPD := PDm (ws' := (wd_X9_seconds cI cC cZ cB cJ a_x xG xD wY wJ wQ xI xK xJ tW xH tX jE mX pD oO oQ eG uS sW uR qY sY bZ bD bI aI wD gF pE nJ nY dQ jC eO eW dO fJ fY jD nG pG qB sH uP pQ mW qO qQ oF)) hP hD 14 rfl rfl rfl
        have hP := hPD.1
        have hD := hPD.2
        have hm := mgk (wc := (wd_X3_isWithin cI cC cZ cB cJ wJ tX jE mX pD oO oQ eG bZ bD bI aI wD gF nJ nY)) hP mk_109 14 rfl rfl rfl
        refine g_calli hP hD hS hA (mixT mk_109) (mixF mk_109) hm.1 hm.2 (nd_F _) (dis_g _) (g_runV (As := [.int p0, .int p1, .int r_4]) (rest := []) C0 hP hD hS (mixT mk_109) hm.1 (nd_T _) 2 3 rfl rfl (c_X3_isWithin l dC dI cI cC cZ cB cJ wJ tX jE mX pD oO oQ eG H.size p0 p1 r_4 bZ bD bI aI wD gF nJ nY _ hp) q_316 q_416 q_317 q_318 q_48 h_X3_isWithin rfl rfl ⟨Nat.le_of_ble_eq_true rfl, Nat.le_of_ble_eq_true rfl⟩ rfl rfl hl.1 rfl (lv_room (Nat.le_of_ble_eq_true rfl)) eX9_seconds_32.2.2.2.2.2.2.2.2.2.2.1 ⟨Nat.zero_le _, Nat.zero_le _⟩) (fun r_5 u H locs hp hP hD hS => ?_)
        have hPD := PDm (ws' := (wd_X9_seconds cI cC cZ cB cJ a_x xG xD wY wJ wQ xI xK xJ tW xH tX jE mX pD oO oQ eG uS sW uR qY sY bZ bD bI aI wD gF pE nJ nY dQ jC eO eW dO fJ fY jD nG pG qB sH uP pQ mW qO qQ oF)) hP hD 14 rfl rfl rfl
        have hP := hPD.1
        have hD := hPD.2
        refine lv_if_ne (tgt := 61) hx hb eX9_seconds_32.2.2.2.2.2.2.2.2.2.2.2.1 (by decide) (fun hc => ?_) (fun hc => ?_)
        · have hp := hp.1 hc
          refine lv_aload_n hx hb eX9_seconds_32.2.2.2.2.2.2.2.2.2.2.2.2.2.2.1 rfl (lv_at hl 0 rfl) ?_
          refine va_get (D := (dC, dI)) (ci := 9) (v := .ref wY) (C := RX9) (T := TX9) (N := 9) hx hb hts i_X9 hown hK hP 0 rfl rfl 2 (Nat.le_of_ble_eq_true rfl) (hts _ q_146) (fun _ h9 => h9) rfl eX9_seconds_32.2.2.2.2.2.2.2.2.2.2.2.2.2.2.2 ?_
          refine lv_iload_n hx hb eX9_seconds_65.1 rfl (lv_at hl 1 rfl) ?_
          refine lv_iload_n hx hb eX9_seconds_65.2.1 rfl (lv_at hl 2 rfl) ?_
          refine lv_iload_n hx hb eX9_seconds_65.2.2.1 rfl (lv_at hl 3 rfl) ?_
          refine lv_iconst (v := 0) hx hb eX9_seconds_65.2.2.2.1 ic_0 ?_
          have hm := mgk (wc := (wd_X0_pickSeconds cI cC cZ cB cJ wY wJ wQ xH tX jE mX pD oO oQ eG uS sW uR qY sY bZ bD bI aI wD gF pE nJ nY jC eO eW dO fJ fY jD nG pG qB sH uP pQ mW qO qQ oF)) hP mk_110 14 rfl rfl rfl
          refine g_calli hP hD hS hA (mixT mk_110) (mixF mk_110) hm.1 hm.2 (nd_F _) (dis_g _) (g_runV (As := [.int p0, .int p1, .int p2, .int 0]) (rest := []) C0 hP hD hS (mixT mk_110) hm.1 (nd_T _) 1 0 rfl rfl (c_X0_pickSeconds l dC dI cI cC cZ cB cJ wY wJ wQ xH tX jE mX pD oO oQ eG uS sW uR qY sY H.size p0 p1 p2 0 bZ bD bI aI wD gF pE nJ nY jC eO eW dO fJ fY jD nG pG qB sH uP pQ mW qO qQ oF _ hp) q_325 q_418 q_326 q_327 q_187 h_X0_pickSeconds rfl rfl ⟨Nat.le_of_ble_eq_true rfl, Nat.le_of_ble_eq_true rfl⟩ rfl rfl hl.1 rfl (lv_room (Nat.le_of_ble_eq_true rfl)) eX9_seconds_65.2.2.2.2.1 ⟨Nat.zero_le _, Nat.zero_le _⟩) (fun r_6 u H locs hp hP hD hS => ?_)
          obtain ⟨aEs, aEt⟩ := u
          have hPD := PDm (ws' := (wd_X9_seconds cI cC cZ cB cJ a_x xG xD wY wJ wQ xI xK xJ tW xH tX jE mX pD oO oQ eG uS sW uR qY sY bZ bD bI aI wD gF pE nJ nY dQ jC eO eW dO fJ fY jD nG pG qB sH uP pQ mW aEs aEt oF)) hP hD 14 rfl rfl rfl
          have hP := hPD.1
          have hD := hPD.2
          exact W.iret (v := r_6) hx hb hr (fun t ht hW => ⟨⟨r_6, (aEs, aEt), rfl, hp, by rw [ht]; exact hP, va_K.moved hW.alike hK, hD⟩, hS.F ht⟩) hS.2.2 eX9_seconds_65.2.2.2.2.2
        · have hp := hp.2 hc
          refine lv_bipush (v := (-2)) hx hb eX9_seconds_32.2.2.2.2.2.2.2.2.2.2.2.2.1 bp_m2 ?_
          exact W.iret (v := (-2)) hx hb hr (fun t ht hW => ⟨⟨(-2), (qO, qQ), rfl, hp, by rw [ht]; exact hP, va_K.moved hW.alike hK, hD⟩, hS.F ht⟩) hS.2.2 eX9_seconds_32.2.2.2.2.2.2.2.2.2.2.2.2.2.1
      · have hp := hp.2 hc
        refine lv_iconst (v := (-1)) hx hb eX9_seconds_0.2.2.2.2.2.2.2.2.2.2.2.2.2.1 ic_m1 ?_
        exact W.iret (v := (-1)) hx hb hr (fun t ht hW => ⟨⟨(-1), (qO, qQ), rfl, hp, by rw [ht]; exact hP, va_K.moved hW.alike hK, hD⟩, hS.F ht⟩) hS.2.2 eX9_seconds_0.2.2.2.2.2.2.2.2.2.2.2.2.2.2.1
noncomputable abbrev wd_X3_allStandings (cI cC cZ cB cJ : ClassId) (wJ tX jE mX pD oO oQ eG : Nat) (bZ bD bI aI : Int32) : va_W := [(wJ, .inr (3, [.ref tX, .ref jE, .ref mX, .ref pD, .ref oO, .ref oQ, .ref eG, .int bZ, .int bD, .int bI, .int aI]))]
noncomputable abbrev q_X3_allStandings (dC : Nat → ClassId) (dI : Nat → Nat → Nat) (cI cC cZ cB cJ : ClassId) (A : Nat → Prop) (wJ tX jE mX pD oO oQ eG : Nat) (bZ bD bI aI : Int32) (post : Int32 → Prop) : Array Value → State → Outcome → State → Prop := va_Qi (fun (r : Int32) (u : Unit) => post r) (fun u t => gB (dC, dI) (tyl cI cC cZ cB cJ) A (wd_X3_allStandings cI cC cZ cB cJ wJ tX jE mX pD oO oQ eG bZ bD bI aI) t) A
noncomputable abbrev rm_X3_allStandings : Room := { frames := 0, cells := 0, slots := 0, locals := 0 }
noncomputable def wp_X3_allStandings (post : Int32 → Prop) (bD : Int32) : Prop := ∀ v_1 : Int32, v_1 = 1 <<< (bD &&& 31) → post (v_1 - 1)
set_option maxHeartbeats 4000000 in
set_option maxRecDepth 100000 in
theorem c_X3_allStandings (l : Launch) (dC : Nat → ClassId) (dI : Nat → Nat → Nat) (cI cC cZ cB cJ : ClassId) (wJ tX jE mX pD oO oQ eG sz : Nat) (bZ bD bI aI : Int32) (post : Int32 → Prop) (hw : wp_X3_allStandings post bD) : Met l yX3_allStandings (gw yX3_allStandings cX3_allStandings 1 (some .int)) rm_X3_allStandings (va_Pc [.ref wJ] (gPre (dC, dI) (tyl cI cC cZ cB cJ) (wd_X3_allStandings cI cC cZ cB cJ wJ tX jE mX pD oO oQ eG bZ bD bI aI) sz)) (q_X3_allStandings dC dI cI cC cZ cB cJ (va_A (wd_X3_allStandings cI cC cZ cB cJ wJ tX jE mX pD oO oQ eG bZ bD bI aI) sz) wJ tX jE mX pD oO oQ eG bZ bD bI aI post) 0 0 (va_A (wd_X3_allStandings cI cC cZ cB cJ wJ tX jE mX pD oO oQ eG bZ bD bI aI) sz) := by
  refine g_enter (own := RX3) (dC, dI) (tyl cI cC cZ cB cJ) (wd_X3_allStandings cI cC cZ cB cJ wJ tX jE mX pD oO oQ eG bZ bD bI aI) sz [.ref wJ] (fun A => q_X3_allStandings dC dI cI cC cZ cB cJ A wJ tX jE mX pD oO oQ eG bZ bD bI aI post) pn_RX3 rfl (Nat.le_of_ble_eq_true rfl) ?_
  intro p e s m args below meth c A H locs ls C0 hP hD hS hl
  have hl : lv_has ls 1 [(0, .ref wJ)] := hl
  obtain ⟨hx, hb, hr, hml, hown, hts, hlocks, hA, hK, hN, tL, tM, hZL, hTL, hZM, hTM, hZX⟩ := id C0
  have hp := hw
  unfold wp_X3_allStandings at hp
  refine lv_iconst (v := 1) hx hb eX3_allStandings_0.1 ic_1 ?_
  refine lv_aload_n hx hb eX3_allStandings_0.2.1 rfl (lv_at hl 0 rfl) ?_
  refine va_get (D := (dC, dI)) (ci := 3) (v := .int bD) (C := RX3) (T := TX3) (N := 11) hx hb hts i_X3 hown hK hP 0 rfl rfl 8 (Nat.le_of_ble_eq_true rfl) (hts _ q_22) (fun _ h9 => h9) rfl eX3_allStandings_0.2.2.1 ?_
  refine lv_ishl hx hb eX3_allStandings_0.2.2.2.1 ?_
  refine lv_topi (fun v_1 ev_1 => ?_)
  have hp := hp v_1 ev_1
  refine lv_iconst (v := 1) hx hb eX3_allStandings_0.2.2.2.2.1 ic_1 ?_
  refine lv_isub hx hb eX3_allStandings_0.2.2.2.2.2.1 ?_
  exact W.iret (v := v_1 - 1) hx hb hr (fun t ht hW => ⟨⟨v_1 - 1, (), rfl, hp, by rw [ht]; exact hP, va_K.moved hW.alike hK, hD⟩, hS.F ht⟩) hS.2.2 eX3_allStandings_0.2.2.2.2.2.2
noncomputable abbrev wd_X5_reachedBy (cI cC cZ cB cJ : ClassId) (xD wY wJ uE qU uJ uL uI tX jE mX pD oO oQ eG : Nat) (oX rJ pN rP : Int32) (rX : Nat → Int32) (bZ bD bI aI : Int32) : va_W := [(xD, .inr (5, [.ref wY, .ref wJ, .ref uE, .ref qU, .ref uJ, .ref uL, .ref uI, .int oX, .int rJ, .int pN, .int rP])), (uE, .inl (cI, 8, .inl rX)), (wJ, .inr (3, [.ref tX, .ref jE, .ref mX, .ref pD, .ref oO, .ref oQ, .ref eG, .int bZ, .int bD, .int bI, .int aI]))]
noncomputable abbrev q_X5_reachedBy (dC : Nat → ClassId) (dI : Nat → Nat → Nat) (cI cC cZ cB cJ : ClassId) (A : Nat → Prop) (xD wY wJ uE qU uJ uL uI tX jE mX pD oO oQ eG : Nat) (oX rJ pN rP : Int32) (rX : Nat → Int32) (bZ bD bI aI : Int32) (post : Int32 → Prop) : Array Value → State → Outcome → State → Prop := va_Qi (fun (r : Int32) (u : Unit) => post r) (fun u t => gB (dC, dI) (tyl cI cC cZ cB cJ) A (wd_X5_reachedBy cI cC cZ cB cJ xD wY wJ uE qU uJ uL uI tX jE mX pD oO oQ eG oX rJ pN rP rX bZ bD bI aI) t) A
noncomputable abbrev rm_X5_reachedBy : Room := { frames := 0, cells := 0, slots := 0, locals := 0 }
section S_X5_reachedBy
variable {p : Program} {l : Launch} {e : Env} {s : State} {m : MethodId} {args : Array Value} {below : List Frame} {meth : Method} {c : Code} {dC : Nat → ClassId} {dI : Nat → Nat → Nat} {cI cC cZ cB cJ : ClassId} {A : Nat → Prop} {xD wY wJ uE qU uJ uL uI tX jE mX pD oO oQ eG : Nat} {oX rJ pN rP : Int32} {rX : Nat → Int32} {bZ bD bI aI : Int32} {post : Int32 → Prop}
noncomputable def ws_X5_reachedBy_32 (post : Int32 → Prop) (K4 : Int32 → Int32 → Int32 → Prop) (rX : Nat → Int32) (bD x1 x2 x3 : Int32) : Prop := ∀ v_2 : Int32, v_2 = x3 + 1 → K4 x1 x2 v_2
set_option maxHeartbeats 4000000 in
set_option maxRecDepth 100000 in
theorem ks_X5_reachedBy_32 (C0 : gc cX5_reachedBy (some .int) 4 RX5 (dC, dI) (tyl cI cC cZ cB cJ) A p s m args meth c) {K4 : Int32 → Int32 → Int32 → Prop} (hK4 : ∀ (x1 : Int32) (x2 : Int32) (x3 : Int32) (H : Heap) (locs : List Loc) (ls : Array Slot), K4 x1 x2 x3 → va_P (dC, dI) classes (wd_X5_reachedBy cI cC cZ cB cJ xD wY wJ uE qU uJ uL uI tX jE mX pD oO oQ eG oX rJ pN rP rX bZ bD bI aI) H → va_D A (wd_X5_reachedBy cI cC cZ cB cJ xD wY wJ uE qU uJ uL uI tX jE mX pD oO oQ eG oX rJ pN rP rX bZ bD bI aI) → va_S A s.heap H locs → lv_has ls 4 [(0, .ref xD), (1, .int x1), (2, .int x2), (3, .int x3)] → W p l e rm_X5_reachedBy s m args below meth c H locs 0 0 (MQ below (q_X5_reachedBy dC dI cI cC cZ cB cJ A xD wY wJ uE qU uJ uL uI tX jE mX pD oO oQ eG oX rJ pN rP rX bZ bD bI aI post) args s 0 0 A) (F0 m 4 ls [])) : ∀ (x1 x2 x3 : Int32) (H : Heap) (locs : List Loc) (ls : Array Slot), (ws_X5_reachedBy_32 post K4 rX bD) x1 x2 x3 → va_P (dC, dI) classes (wd_X5_reachedBy cI cC cZ cB cJ xD wY wJ uE qU uJ uL uI tX jE mX pD oO oQ eG oX rJ pN rP rX bZ bD bI aI) H → va_D A (wd_X5_reachedBy cI cC cZ cB cJ xD wY wJ uE qU uJ uL uI tX jE mX pD oO oQ eG oX rJ pN rP rX bZ bD bI aI) → va_S A s.heap H locs → lv_has ls 4 [(0, .ref xD), (1, .int x1), (2, .int x2), (3, .int x3)] → W p l e rm_X5_reachedBy s m args below meth c H locs 0 0 (MQ below (q_X5_reachedBy dC dI cI cC cZ cB cJ A xD wY wJ uE qU uJ uL uI tX jE mX pD oO oQ eG oX rJ pN rP rX bZ bD bI aI post) args s 0 0 A) (F0 m 32 ls []) := by
  obtain ⟨hx, hb, hr, hml, hown, hts, hlocks, hA, hK, hN, tL, tM, hZL, hTL, hZM, hTM, hZX⟩ := id C0
  intro x1 x2 x3 H locs ls hp hP hD hS hl
  unfold ws_X5_reachedBy_32 at hp
  obtain ⟨v_2, ev_2⟩ : ∃ y : Int32, y = x3 + 1 := ⟨_, rfl⟩
  refine lv_iinc (v := v_2) (lv' := [(3, .int v_2), (0, .ref xD), (1, .int x1), (2, .int x2)]) hx hb eX5_reachedBy_24.2.2.2.2.2.2.1 hl (k := 3) rfl (by rw [ev_2]; rfl) (by decide) rfl (fun ls hl => ?_)
  have hp := hp v_2 ev_2
  refine lv_goto (tgt := 4) hx hb eX5_reachedBy_24.2.2.2.2.2.2.2.1 (by decide) ?_
  exact hK4 x1 x2 v_2 H locs ls hp hP hD hS (lv_sub hl [1, 2, 3, 0] rfl)
noncomputable def ws_X5_reachedBy_4 (post : Int32 → Prop) (next : Int32 → Int32 → Int32 → Prop) (rX : Nat → Int32) (bD x1 x2 x3 : Int32) : Prop := (bD ≤ x3 → post x2) ∧ (¬ bD ≤ x3 → ∀ v_1 : Int32, v_1 = x1 >>> (x3 &&& 31) → ((v_1 &&& 1) = 0 → ws_X5_reachedBy_32 post next rX bD x1 x2 x3) ∧ (¬ (v_1 &&& 1) = 0 → vp_in x3 8 ∧ (∀ v_3 : Int32, v_3 = x2 ||| (rX x3.toNatClampNeg) → ws_X5_reachedBy_32 post next rX bD x1 v_3 x3)))
noncomputable def wb_X5_reachedBy_4 (post : Int32 → Prop) (rX : Nat → Int32) (bD : Int32) : Nat → Int32 → Int32 → Int32 → Prop := fun n => Nat.rec (motive := fun _ => Int32 → Int32 → Int32 → Prop) (fun _ _ _ => False) (fun _ ih => ws_X5_reachedBy_4 post ih rX bD) n
set_option maxHeartbeats 4000000 in
set_option maxRecDepth 100000 in
theorem ks_X5_reachedBy_4 (C0 : gc cX5_reachedBy (some .int) 4 RX5 (dC, dI) (tyl cI cC cZ cB cJ) A p s m args meth c) {next : Int32 → Int32 → Int32 → Prop} (hKn : ∀ (x1 : Int32) (x2 : Int32) (x3 : Int32) (H : Heap) (locs : List Loc) (ls : Array Slot), next x1 x2 x3 → va_P (dC, dI) classes (wd_X5_reachedBy cI cC cZ cB cJ xD wY wJ uE qU uJ uL uI tX jE mX pD oO oQ eG oX rJ pN rP rX bZ bD bI aI) H → va_D A (wd_X5_reachedBy cI cC cZ cB cJ xD wY wJ uE qU uJ uL uI tX jE mX pD oO oQ eG oX rJ pN rP rX bZ bD bI aI) → va_S A s.heap H locs → lv_has ls 4 [(0, .ref xD), (1, .int x1), (2, .int x2), (3, .int x3)] → W p l e rm_X5_reachedBy s m args below meth c H locs 0 0 (MQ below (q_X5_reachedBy dC dI cI cC cZ cB cJ A xD wY wJ uE qU uJ uL uI tX jE mX pD oO oQ eG oX rJ pN rP rX bZ bD bI aI post) args s 0 0 A) (F0 m 4 ls [])) : ∀ (x1 x2 x3 : Int32) (H : Heap) (locs : List Loc) (ls : Array Slot), (ws_X5_reachedBy_4 post next rX bD) x1 x2 x3 → va_P (dC, dI) classes (wd_X5_reachedBy cI cC cZ cB cJ xD wY wJ uE qU uJ uL uI tX jE mX pD oO oQ eG oX rJ pN rP rX bZ bD bI aI) H → va_D A (wd_X5_reachedBy cI cC cZ cB cJ xD wY wJ uE qU uJ uL uI tX jE mX pD oO oQ eG oX rJ pN rP rX bZ bD bI aI) → va_S A s.heap H locs → lv_has ls 4 [(0, .ref xD), (1, .int x1), (2, .int x2), (3, .int x3)] → W p l e rm_X5_reachedBy s m args below meth c H locs 0 0 (MQ below (q_X5_reachedBy dC dI cI cC cZ cB cJ A xD wY wJ uE qU uJ uL uI tX jE mX pD oO oQ eG oX rJ pN rP rX bZ bD bI aI post) args s 0 0 A) (F0 m 4 ls []) := by
  obtain ⟨hx, hb, hr, hml, hown, hts, hlocks, hA, hK, hN, tL, tM, hZL, hTL, hZM, hTM, hZX⟩ := id C0
  intro x1 x2 x3 H locs ls hp hP hD hS hl
  unfold ws_X5_reachedBy_4 at hp
  refine lv_iload_n hx hb eX5_reachedBy_0.2.2.2.2.1 rfl (lv_at hl 3 rfl) ?_
  refine lv_aload_n hx hb eX5_reachedBy_0.2.2.2.2.2.1 rfl (lv_at hl 0 rfl) ?_
  refine va_get (D := (dC, dI)) (ci := 5) (v := .ref wJ) (C := RX5) (T := TX5) (N := 11) hx hb hts i_X5 hown hK hP 0 rfl rfl 1 (Nat.le_of_ble_eq_true rfl) (hts _ q_419) (fun _ h9 => h9) rfl eX5_reachedBy_0.2.2.2.2.2.2.1 ?_
  refine va_get (D := (dC, dI)) (ci := 3) (v := .int bD) (C := RX3) (T := TX3) (N := 11) hx hb hts i_X3 hown hK hP 2 rfl rfl 8 (Nat.le_of_ble_eq_true rfl) (hts _ q_420) (fun _ h9 => h9) rfl eX5_reachedBy_0.2.2.2.2.2.2.2.1 ?_
  refine lv_icmp_ge (tgt := 38) hx hb eX5_reachedBy_0.2.2.2.2.2.2.2.2.1 (by decide) (fun hc => ?_) (fun hc => ?_)
  · have hp := hp.1 hc
    refine lv_iload_n hx hb eX5_reachedBy_24.2.2.2.2.2.2.2.2.1 rfl (lv_at hl 2 rfl) ?_
    exact W.iret (v := x2) hx hb hr (fun t ht hW => ⟨⟨x2, (), rfl, hp, by rw [ht]; exact hP, va_K.moved hW.alike hK, hD⟩, hS.F ht⟩) hS.2.2 eX5_reachedBy_24.2.2.2.2.2.2.2.2.2
  · have hp := hp.2 hc
    refine lv_iload_n hx hb eX5_reachedBy_0.2.2.2.2.2.2.2.2.2.1 rfl (lv_at hl 1 rfl) ?_
    refine lv_iload_n hx hb eX5_reachedBy_0.2.2.2.2.2.2.2.2.2.2.1 rfl (lv_at hl 3 rfl) ?_
    refine lv_ishr hx hb eX5_reachedBy_0.2.2.2.2.2.2.2.2.2.2.2.1 ?_
    refine lv_topi (fun v_1 ev_1 => ?_)
    have hp := hp v_1 ev_1
    refine lv_iconst (v := 1) hx hb eX5_reachedBy_0.2.2.2.2.2.2.2.2.2.2.2.2.1 ic_1 ?_
    refine lv_iand hx hb eX5_reachedBy_0.2.2.2.2.2.2.2.2.2.2.2.2.2.1 ?_
    refine lv_if_eq (tgt := 32) hx hb eX5_reachedBy_0.2.2.2.2.2.2.2.2.2.2.2.2.2.2.1 (by decide) (fun hc => ?_) (fun hc => ?_)
    · have hp := hp.1 hc
      exact ks_X5_reachedBy_32 C0 hKn x1 x2 x3 H locs ls hp hP hD hS (lv_sub hl [0, 1, 2, 3] rfl)
    · have hp := hp.2 hc
      refine lv_iload_n hx hb eX5_reachedBy_0.2.2.2.2.2.2.2.2.2.2.2.2.2.2.2 rfl (lv_at hl 2 rfl) ?_
      refine lv_aload_n hx hb eX5_reachedBy_24.1 rfl (lv_at hl 0 rfl) ?_
      refine va_get (D := (dC, dI)) (ci := 5) (v := .ref uE) (C := RX5) (T := TX5) (N := 11) hx hb hts i_X5 hown hK hP 0 rfl rfl 2 (Nat.le_of_ble_eq_true rfl) (hts _ q_421) (fun _ h9 => h9) rfl eX5_reachedBy_24.2.1 ?_
      refine lv_iload_n hx hb eX5_reachedBy_24.2.2.1 rfl (lv_at hl 3 rfl) ?_
      have hin := hp.1
      have hp := hp.2
      refine va_iald hx hb hK hP 1 0 rfl rfl hin eX5_reachedBy_24.2.2.2.1 ?_
      refine lv_ior hx hb eX5_reachedBy_24.2.2.2.2.1 ?_
      refine lv_topi (fun v_3 ev_3 => ?_)
      have hp := hp v_3 ev_3
      refine lv_istore_n (lv' := [(2, .int v_3), (0, .ref xD), (1, .int x1), (3, .int x3)]) hx hb eX5_reachedBy_24.2.2.2.2.2.1 rfl hl (by decide) rfl (fun ls hl => ?_)
      exact ks_X5_reachedBy_32 C0 hKn x1 v_3 x3 H locs ls hp hP hD hS (lv_sub hl [1, 2, 0, 3] rfl)
set_option maxHeartbeats 4000000 in
set_option maxRecDepth 100000 in
theorem kb_X5_reachedBy_4 (C0 : gc cX5_reachedBy (some .int) 4 RX5 (dC, dI) (tyl cI cC cZ cB cJ) A p s m args meth c) : ∀ (n : Nat), ∀ (x1 x2 x3 : Int32) (H : Heap) (locs : List Loc) (ls : Array Slot), (wb_X5_reachedBy_4 post rX bD n) x1 x2 x3 → va_P (dC, dI) classes (wd_X5_reachedBy cI cC cZ cB cJ xD wY wJ uE qU uJ uL uI tX jE mX pD oO oQ eG oX rJ pN rP rX bZ bD bI aI) H → va_D A (wd_X5_reachedBy cI cC cZ cB cJ xD wY wJ uE qU uJ uL uI tX jE mX pD oO oQ eG oX rJ pN rP rX bZ bD bI aI) → va_S A s.heap H locs → lv_has ls 4 [(0, .ref xD), (1, .int x1), (2, .int x2), (3, .int x3)] → W p l e rm_X5_reachedBy s m args below meth c H locs 0 0 (MQ below (q_X5_reachedBy dC dI cI cC cZ cB cJ A xD wY wJ uE qU uJ uL uI tX jE mX pD oO oQ eG oX rJ pN rP rX bZ bD bI aI post) args s 0 0 A) (F0 m 4 ls []) := by
  intro n
  induction n with
  | zero =>
    intro x1 x2 x3 H locs ls hp
    exact False.elim hp
  | succ n ih =>
    intro x1 x2 x3 H locs ls hp
    exact ks_X5_reachedBy_4 C0 ih x1 x2 x3 H locs ls hp
end S_X5_reachedBy
noncomputable def wp_X5_reachedBy (post : Int32 → Prop) (p0 : Int32) (rX : Nat → Int32) (bD : Int32) : Prop := ∃ n : Nat, wb_X5_reachedBy_4 post rX bD n p0 0 0
set_option maxHeartbeats 4000000 in
set_option maxRecDepth 100000 in
theorem c_X5_reachedBy (l : Launch) (dC : Nat → ClassId) (dI : Nat → Nat → Nat) (cI cC cZ cB cJ : ClassId) (xD wY wJ uE qU uJ uL uI tX jE mX pD oO oQ eG sz : Nat) (p0 oX rJ pN rP : Int32) (rX : Nat → Int32) (bZ bD bI aI : Int32) (post : Int32 → Prop) (hw : wp_X5_reachedBy post p0 rX bD) : Met l yX5_reachedBy (gw yX5_reachedBy cX5_reachedBy 4 (some .int)) rm_X5_reachedBy (va_Pc [.ref xD, .int p0] (gPre (dC, dI) (tyl cI cC cZ cB cJ) (wd_X5_reachedBy cI cC cZ cB cJ xD wY wJ uE qU uJ uL uI tX jE mX pD oO oQ eG oX rJ pN rP rX bZ bD bI aI) sz)) (q_X5_reachedBy dC dI cI cC cZ cB cJ (va_A (wd_X5_reachedBy cI cC cZ cB cJ xD wY wJ uE qU uJ uL uI tX jE mX pD oO oQ eG oX rJ pN rP rX bZ bD bI aI) sz) xD wY wJ uE qU uJ uL uI tX jE mX pD oO oQ eG oX rJ pN rP rX bZ bD bI aI post) 0 0 (va_A (wd_X5_reachedBy cI cC cZ cB cJ xD wY wJ uE qU uJ uL uI tX jE mX pD oO oQ eG oX rJ pN rP rX bZ bD bI aI) sz) := by
  refine g_enter (own := RX5) (dC, dI) (tyl cI cC cZ cB cJ) (wd_X5_reachedBy cI cC cZ cB cJ xD wY wJ uE qU uJ uL uI tX jE mX pD oO oQ eG oX rJ pN rP rX bZ bD bI aI) sz [.ref xD, .int p0] (fun A => q_X5_reachedBy dC dI cI cC cZ cB cJ A xD wY wJ uE qU uJ uL uI tX jE mX pD oO oQ eG oX rJ pN rP rX bZ bD bI aI post) pn_RX5 rfl (Nat.le_of_ble_eq_true rfl) ?_
  intro p e s m args below meth c A H locs ls C0 hP hD hS hl
  have hl : lv_has ls 4 [(0, .ref xD), (1, .int p0)] := hl
  obtain ⟨hx, hb, hr, hml, hown, hts, hlocks, hA, hK, hN, tL, tM, hZL, hTL, hZM, hTM, hZX⟩ := id C0
  have hp := hw
  unfold wp_X5_reachedBy at hp
  refine lv_iconst (v := 0) hx hb eX5_reachedBy_0.1 ic_0 ?_
  refine lv_istore_n (lv' := [(2, .int 0), (0, .ref xD), (1, .int p0)]) hx hb eX5_reachedBy_0.2.1 rfl hl (by decide) rfl (fun ls hl => ?_)
  refine lv_iconst (v := 0) hx hb eX5_reachedBy_0.2.2.1 ic_0 ?_
  refine lv_istore_n (lv' := [(3, .int 0), (2, .int 0), (0, .ref xD), (1, .int p0)]) hx hb eX5_reachedBy_0.2.2.2.1 rfl hl (by decide) rfl (fun ls hl => ?_)
  obtain ⟨n9, hp⟩ := hp
  exact kb_X5_reachedBy_4 C0 n9 p0 0 0 H locs ls hp hP hD hS (lv_sub hl [2, 3, 1, 0] rfl)
noncomputable abbrev wd_X5_lookAs (cI cC cZ cB cJ : ClassId) (xD wY wJ uE qU uJ uL uI wQ xH tX jE mX pD oO oQ eG : Nat) (oX rJ pN rP : Int32) (rX : Nat → Int32) (bZ bD bI aI : Int32) (wD gF qA nJ nY dQ : Nat → Int32) (jC eO eW dO fJ fY jD nG : Int32) : va_W := [(xD, .inr (5, [.ref wY, .ref wJ, .ref uE, .ref qU, .ref uJ, .ref uL, .ref uI, .int oX, .int rJ, .int pN, .int rP])), (uE, .inl (cI, 8, .inl rX)), (wY, .inr (0, [.ref wJ, .ref wQ, .ref xH])), (wJ, .inr (3, [.ref tX, .ref jE, .ref mX, .ref pD, .ref oO, .ref oQ, .ref eG, .int bZ, .int bD, .int bI, .int aI])), (tX, .inl (cI, 16, .inl wD)), (jE, .inl (cI, 16, .inl gF)), (pD, .inl (cI, 16, .inl qA)), (oO, .inl (cI, 8, .inl nJ)), (oQ, .inl (cI, 8, .inl nY)), (eG, .inl (cI, 5, .inl dQ)), (wQ, .inr (2, [.int jC, .int eO, .int eW, .int dO, .int fJ, .int fY, .int jD, .int nG]))]
noncomputable abbrev q_X5_lookAs (dC : Nat → ClassId) (dI : Nat → Nat → Nat) (cI cC cZ cB cJ : ClassId) (A : Nat → Prop) (xD wY wJ uE qU uJ uL uI wQ xH tX jE mX pD oO oQ eG : Nat) (rJ pN rP bZ bD bI aI : Int32) (wD gF qA nJ nY dQ : Nat → Int32) (jC eO eW dO fJ fY jD nG : Int32) (post : Int32 → (Nat → Int32) → Prop) : Array Value → State → Outcome → State → Prop := va_Qv (fun (u : Int32 × (Nat → Int32)) => post u.1 u.2) (fun u t => gB (dC, dI) (tyl cI cC cZ cB cJ) A (wd_X5_lookAs cI cC cZ cB cJ xD wY wJ uE qU uJ uL uI wQ xH tX jE mX pD oO oQ eG u.1 rJ pN rP u.2 bZ bD bI aI wD gF qA nJ nY dQ jC eO eW dO fJ fY jD nG) t) A
noncomputable abbrev rm_X5_lookAs : Room := { frames := 3, cells := 0, slots := 0, locals := 71 }
section S_X5_lookAs
variable {p : Program} {l : Launch} {e : Env} {s : State} {m : MethodId} {args : Array Value} {below : List Frame} {meth : Method} {c : Code} {dC : Nat → ClassId} {dI : Nat → Nat → Nat} {cI cC cZ cB cJ : ClassId} {A : Nat → Prop} {xD wY wJ uE qU uJ uL uI wQ xH tX jE mX pD oO oQ eG : Nat} {rJ pN rP bZ bD bI aI : Int32} {wD gF qA nJ nY dQ : Nat → Int32} {jC eO eW dO fJ fY jD nG : Int32} {post : Int32 → (Nat → Int32) → Prop}
noncomputable def ws_X5_lookAs_13 (post : Int32 → (Nat → Int32) → Prop) (next : Int32 → Int32 → Int32 → Int32 → (Nat → Int32) → Prop) (bZ bD : Int32) (wD gF qA nJ nY dQ : Nat → Int32) (jC eO eW x2 x3 x4 oX : Int32) (rX : Nat → Int32) : Prop := (bD ≤ x4 → wp_X0_hanging (fun r_2 => wp_X3_ripeBy (fun r_3 => ∀ v_4 : Int32, v_4 = r_2 &&& r_3 → wp_X3_allStandings (fun r_5 => wp_X5_reachedBy (fun r_6 => ∀ v_7 : Int32, v_7 = v_4 &&& r_6 → post v_7 rX) r_5 rX bD) bD) x2 bZ qA) bZ jC eO eW) ∧ (¬ bD ≤ x4 → wp_X3_within (fun r_8 => vp_in x4 8 ∧ (∀ v_9 : Int32, v_9 = x4 + 1 → next x2 x3 v_9 oX (upd rX x4.toNatClampNeg r_8))) x4 x3 bZ wD gF nJ nY)
noncomputable def wb_X5_lookAs_13 (post : Int32 → (Nat → Int32) → Prop) (bZ bD : Int32) (wD gF qA nJ nY dQ : Nat → Int32) (jC eO eW : Int32) : Nat → Int32 → Int32 → Int32 → Int32 → (Nat → Int32) → Prop := fun n => Nat.rec (motive := fun _ => Int32 → Int32 → Int32 → Int32 → (Nat → Int32) → Prop) (fun _ _ _ _ _ => False) (fun _ ih => ws_X5_lookAs_13 post ih bZ bD wD gF qA nJ nY dQ jC eO eW) n
set_option maxHeartbeats 4000000 in
set_option maxRecDepth 100000 in
theorem ks_X5_lookAs_13 (C0 : gc cX5_lookAs none 5 RX5 (dC, dI) (tyl cI cC cZ cB cJ) A p s m args meth c) {next : Int32 → Int32 → Int32 → Int32 → (Nat → Int32) → Prop} (hKn : ∀ (x2 : Int32) (x3 : Int32) (x4 : Int32) (oX : Int32) (rX : Nat → Int32) (H : Heap) (locs : List Loc) (ls : Array Slot), next x2 x3 x4 oX rX → va_P (dC, dI) classes (wd_X5_lookAs cI cC cZ cB cJ xD wY wJ uE qU uJ uL uI wQ xH tX jE mX pD oO oQ eG oX rJ pN rP rX bZ bD bI aI wD gF qA nJ nY dQ jC eO eW dO fJ fY jD nG) H → va_D A (wd_X5_lookAs cI cC cZ cB cJ xD wY wJ uE qU uJ uL uI wQ xH tX jE mX pD oO oQ eG oX rJ pN rP rX bZ bD bI aI wD gF qA nJ nY dQ jC eO eW dO fJ fY jD nG) → va_S A s.heap H locs → lv_has ls 5 [(0, .ref xD), (2, .int x2), (3, .int x3), (4, .int x4)] → W p l e rm_X5_lookAs s m args below meth c H locs 0 0 (MQ below (q_X5_lookAs dC dI cI cC cZ cB cJ A xD wY wJ uE qU uJ uL uI wQ xH tX jE mX pD oO oQ eG rJ pN rP bZ bD bI aI wD gF qA nJ nY dQ jC eO eW dO fJ fY jD nG post) args s 0 0 A) (F0 m 13 ls [])) : ∀ (x2 x3 x4 oX : Int32) (rX : Nat → Int32) (H : Heap) (locs : List Loc) (ls : Array Slot), (ws_X5_lookAs_13 post next bZ bD wD gF qA nJ nY dQ jC eO eW) x2 x3 x4 oX rX → va_P (dC, dI) classes (wd_X5_lookAs cI cC cZ cB cJ xD wY wJ uE qU uJ uL uI wQ xH tX jE mX pD oO oQ eG oX rJ pN rP rX bZ bD bI aI wD gF qA nJ nY dQ jC eO eW dO fJ fY jD nG) H → va_D A (wd_X5_lookAs cI cC cZ cB cJ xD wY wJ uE qU uJ uL uI wQ xH tX jE mX pD oO oQ eG oX rJ pN rP rX bZ bD bI aI wD gF qA nJ nY dQ jC eO eW dO fJ fY jD nG) → va_S A s.heap H locs → lv_has ls 5 [(0, .ref xD), (2, .int x2), (3, .int x3), (4, .int x4)] → W p l e rm_X5_lookAs s m args below meth c H locs 0 0 (MQ below (q_X5_lookAs dC dI cI cC cZ cB cJ A xD wY wJ uE qU uJ uL uI wQ xH tX jE mX pD oO oQ eG rJ pN rP bZ bD bI aI wD gF qA nJ nY dQ jC eO eW dO fJ fY jD nG post) args s 0 0 A) (F0 m 13 ls []) := by
  obtain ⟨hx, hb, hr, hml, hown, hts, hlocks, hA, hK, hN, tL, tM, hZL, hTL, hZM, hTM, hZX⟩ := id C0
  intro x2 x3 x4 oX rX H locs ls hp hP hD hS hl
  unfold ws_X5_lookAs_13 at hp
  refine lv_iload hx hb eX5_lookAs_0.2.2.2.2.2.2.2.2.1 (lv_at hl 3 rfl) ?_
  refine lv_aload_n hx hb eX5_lookAs_0.2.2.2.2.2.2.2.2.2.1 rfl (lv_at hl 0 rfl) ?_
  refine va_get (D := (dC, dI)) (ci := 5) (v := .ref wJ) (C := RX5) (T := TX5) (N := 11) hx hb hts i_X5 hown hK hP 0 rfl rfl 1 (Nat.le_of_ble_eq_true rfl) (hts _ q_419) (fun _ h9 => h9) rfl eX5_lookAs_0.2.2.2.2.2.2.2.2.2.2.1 ?_
  refine va_get (D := (dC, dI)) (ci := 3) (v := .int bD) (C := RX3) (T := TX3) (N := 11) hx hb hts i_X3 hown hK hP 3 rfl rfl 8 (Nat.le_of_ble_eq_true rfl) (hts _ q_420) (fun _ h9 => h9) rfl eX5_lookAs_0.2.2.2.2.2.2.2.2.2.2.2.1 ?_
  refine lv_icmp_ge (tgt := 48) hx hb eX5_lookAs_0.2.2.2.2.2.2.2.2.2.2.2.2.1 (by decide) (fun hc => ?_) (fun hc => ?_)
  · have hp := hp.1 hc
    refine lv_aload_n hx hb eX5_lookAs_31.2.2.2.2.2.2.2.2.1 rfl (lv_at hl 0 rfl) ?_
    refine lv_aload_n hx hb eX5_lookAs_31.2.2.2.2.2.2.2.2.2.1 rfl (lv_at hl 0 rfl) ?_
    refine va_get (D := (dC, dI)) (ci := 5) (v := .ref wY) (C := RX5) (T := TX5) (N := 11) hx hb hts i_X5 hown hK hP 0 rfl rfl 0 (Nat.le_of_ble_eq_true rfl) (hts _ q_423) (fun _ h9 => h9) rfl eX5_lookAs_31.2.2.2.2.2.2.2.2.2.2.1 ?_
    have hm := mgk (wc := (wd_X0_hanging cI cC cZ cB cJ wY wJ wQ xH tX jE mX pD oO oQ eG bZ bD bI aI jC eO eW dO fJ fY jD nG)) hP mk_111 11 rfl rfl rfl
    refine g_calli hP hD hS hA (mixT mk_111) (mixF mk_111) hm.1 hm.2 (nd_F _) (dis_g _) (g_runV (As := []) (rest := [.ref xD]) C0 hP hD hS (mixT mk_111) hm.1 (nd_T _) 2 0 rfl rfl (c_X0_hanging l dC dI cI cC cZ cB cJ wY wJ wQ xH tX jE mX pD oO oQ eG H.size bZ bD bI aI jC eO eW dO fJ fY jD nG _ hp) q_186 q_424 q_188 q_189 q_187 h_X0_hanging rfl rfl ⟨Nat.le_of_ble_eq_true rfl, Nat.le_of_ble_eq_true rfl⟩ rfl rfl hl.1 rfl (lv_room (Nat.le_of_ble_eq_true rfl)) eX5_lookAs_31.2.2.2.2.2.2.2.2.2.2.2.1 ⟨Nat.zero_le _, Nat.zero_le _⟩) (fun r_2 u H locs hp hP hD hS => ?_)
    have hPD := PDm (ws' := (wd_X5_lookAs cI cC cZ cB cJ xD wY wJ uE qU uJ uL uI wQ xH tX jE mX pD oO oQ eG oX rJ pN rP rX bZ bD bI aI wD gF qA nJ nY dQ jC eO eW dO fJ fY jD nG)) hP hD 11 rfl rfl rfl
    have hP := hPD.1
    have hD := hPD.2
    refine lv_aload_n hx hb eX5_lookAs_31.2.2.2.2.2.2.2.2.2.2.2.2.1 rfl (lv_at hl 0 rfl) ?_
    refine va_get (D := (dC, dI)) (ci := 5) (v := .ref wJ) (C := RX5) (T := TX5) (N := 11) hx hb hts i_X5 hown hK hP 0 rfl rfl 1 (Nat.le_of_ble_eq_true rfl) (hts _ q_419) (fun _ h9 => h9) rfl eX5_lookAs_31.2.2.2.2.2.2.2.2.2.2.2.2.2.1 ?_
    refine lv_iload_n hx hb eX5_lookAs_31.2.2.2.2.2.2.2.2.2.2.2.2.2.2.1 rfl (lv_at hl 1 rfl) ?_
    have hm := mgk (wc := (wd_X3_ripeBy cI cC cZ cB cJ wJ tX jE mX pD oO oQ eG bZ bD bI aI qA)) hP mk_112 11 rfl rfl rfl
    refine g_calli hP hD hS hA (mixT mk_112) (mixF mk_112) hm.1 hm.2 (nd_F _) (dis_g _) (g_runV (As := [.int x2]) (rest := [.int r_2, .ref xD]) C0 hP hD hS (mixT mk_112) hm.1 (nd_T _) 3 3 rfl rfl (c_X3_ripeBy l dC dI cI cC cZ cB cJ wJ tX jE mX pD oO oQ eG H.size x2 bZ bD bI aI qA _ hp) q_343 q_425 q_344 q_345 q_48 h_X3_ripeBy rfl rfl ⟨Nat.le_of_ble_eq_true rfl, Nat.le_of_ble_eq_true rfl⟩ rfl rfl hl.1 rfl (lv_room (Nat.le_of_ble_eq_true rfl)) eX5_lookAs_31.2.2.2.2.2.2.2.2.2.2.2.2.2.2.2 ⟨Nat.zero_le _, Nat.zero_le _⟩) (fun r_3 u H locs hp hP hD hS => ?_)
    have hPD := PDm (ws' := (wd_X5_lookAs cI cC cZ cB cJ xD wY wJ uE qU uJ uL uI wQ xH tX jE mX pD oO oQ eG oX rJ pN rP rX bZ bD bI aI wD gF qA nJ nY dQ jC eO eW dO fJ fY jD nG)) hP hD 11 rfl rfl rfl
    have hP := hPD.1
    have hD := hPD.2
    refine lv_iand hx hb eX5_lookAs_64.1 ?_
    refine lv_topi (fun v_4 ev_4 => ?_)
    have hp := hp v_4 ev_4
    refine lv_aload_n hx hb eX5_lookAs_64.2.1 rfl (lv_at hl 0 rfl) ?_
    refine lv_aload_n hx hb eX5_lookAs_64.2.2.1 rfl (lv_at hl 0 rfl) ?_
    refine va_get (D := (dC, dI)) (ci := 5) (v := .ref wJ) (C := RX5) (T := TX5) (N := 11) hx hb hts i_X5 hown hK hP 0 rfl rfl 1 (Nat.le_of_ble_eq_true rfl) (hts _ q_419) (fun _ h9 => h9) rfl eX5_lookAs_64.2.2.2.1 ?_
    have hm := mgk (wc := (wd_X3_allStandings cI cC cZ cB cJ wJ tX jE mX pD oO oQ eG bZ bD bI aI)) hP mk_113 11 rfl rfl rfl
    refine g_calli hP hD hS hA (mixT mk_113) (mixF mk_113) hm.1 hm.2 (nd_F _) (dis_g _) (g_runV (As := []) (rest := [.ref xD, .int v_4, .ref xD]) C0 hP hD hS (mixT mk_113) hm.1 (nd_T _) 3 3 rfl rfl (c_X3_allStandings l dC dI cI cC cZ cB cJ wJ tX jE mX pD oO oQ eG H.size bZ bD bI aI _ hp) q_426 q_429 q_427 q_428 q_48 h_X3_allStandings rfl rfl ⟨Nat.le_of_ble_eq_true rfl, Nat.le_of_ble_eq_true rfl⟩ rfl rfl hl.1 rfl (lv_room (Nat.le_of_ble_eq_true rfl)) eX5_lookAs_64.2.2.2.2.1 ⟨Nat.zero_le _, Nat.zero_le _⟩) (fun r_5 u H locs hp hP hD hS => ?_)
    have hPD := PDm (ws' := (wd_X5_lookAs cI cC cZ cB cJ xD wY wJ uE qU uJ uL uI wQ xH tX jE mX pD oO oQ eG oX rJ pN rP rX bZ bD bI aI wD gF qA nJ nY dQ jC eO eW dO fJ fY jD nG)) hP hD 11 rfl rfl rfl
    have hP := hPD.1
    have hD := hPD.2
    have hm := mgk (wc := (wd_X5_reachedBy cI cC cZ cB cJ xD wY wJ uE qU uJ uL uI tX jE mX pD oO oQ eG oX rJ pN rP rX bZ bD bI aI)) hP mk_114 11 rfl rfl rfl
    refine g_calli hP hD hS hA (mixT mk_114) (mixF mk_114) hm.1 hm.2 (nd_F _) (dis_g _) (g_runV (As := [.int r_5]) (rest := [.int v_4, .ref xD]) C0 hP hD hS (mixT mk_114) hm.1 (nd_T _) 0 5 rfl rfl (c_X5_reachedBy l dC dI cI cC cZ cB cJ xD wY wJ uE qU uJ uL uI tX jE mX pD oO oQ eG H.size r_5 oX rJ pN rP rX bZ bD bI aI _ hp) q_430 q_434 q_432 q_433 q_431 h_X5_reachedBy rfl rfl ⟨Nat.le_of_ble_eq_true rfl, Nat.le_of_ble_eq_true rfl⟩ rfl rfl hl.1 rfl (lv_room (Nat.le_of_ble_eq_true rfl)) eX5_lookAs_64.2.2.2.2.2.1 ⟨Nat.zero_le _, Nat.zero_le _⟩) (fun r_6 u H locs hp hP hD hS => ?_)
    have hPD := PDm (ws' := (wd_X5_lookAs cI cC cZ cB cJ xD wY wJ uE qU uJ uL uI wQ xH tX jE mX pD oO oQ eG oX rJ pN rP rX bZ bD bI aI wD gF qA nJ nY dQ jC eO eW dO fJ fY jD nG)) hP hD 11 rfl rfl rfl
    have hP := hPD.1
    have hD := hPD.2
    refine lv_iand hx hb eX5_lookAs_64.2.2.2.2.2.2.1 ?_
    refine lv_topi (fun v_7 ev_7 => ?_)
    have hp := hp v_7 ev_7
    refine va_put (D := (dC, dI)) (ci := 5) (v := .int v_7) (ty := .int) (C := RX5) (T := TX5) (N := 11) hx hb hts i_X5 tyX5 tyX5_ok nmX5 hown hK hP hD hS 0 rfl rfl 7 (Nat.le_of_ble_eq_true rfl) (hts _ q_435) (fun _ h9 => h9) rfl (tyX5_ok 7 (Nat.le_of_ble_eq_true rfl)) rfl rfl (Nat.le_of_ble_eq_true rfl) eX5_lookAs_64.2.2.2.2.2.2.2.1 (fun H locs hP hD hS => ?_)
    have hP : va_P (dC, dI) classes (wd_X5_lookAs cI cC cZ cB cJ xD wY wJ uE qU uJ uL uI wQ xH tX jE mX pD oO oQ eG v_7 rJ pN rP rX bZ bD bI aI wD gF qA nJ nY dQ jC eO eW dO fJ fY jD nG) H := hP
    have hD : va_D A (wd_X5_lookAs cI cC cZ cB cJ xD wY wJ uE qU uJ uL uI wQ xH tX jE mX pD oO oQ eG v_7 rJ pN rP rX bZ bD bI aI wD gF qA nJ nY dQ jC eO eW dO fJ fY jD nG) := hD
    exact W.vret hx hb hr (fun t ht hW => ⟨⟨(v_7, rX), rfl, hp, by rw [ht]; exact hP, va_K.moved hW.alike hK, hD⟩, hS.F ht⟩) hS.2.2 eX5_lookAs_64.2.2.2.2.2.2.2.2
  · have hp := hp.2 hc
    refine lv_aload_n hx hb eX5_lookAs_0.2.2.2.2.2.2.2.2.2.2.2.2.2.1 rfl (lv_at hl 0 rfl) ?_
    refine va_get (D := (dC, dI)) (ci := 5) (v := .ref uE) (C := RX5) (T := TX5) (N := 11) hx hb hts i_X5 hown hK hP 0 rfl rfl 2 (Nat.le_of_ble_eq_true rfl) (hts _ q_421) (fun _ h9 => h9) rfl eX5_lookAs_0.2.2.2.2.2.2.2.2.2.2.2.2.2.2.1 ?_
    refine lv_iload hx hb eX5_lookAs_0.2.2.2.2.2.2.2.2.2.2.2.2.2.2.2 (lv_at hl 3 rfl) ?_
    refine lv_aload_n hx hb eX5_lookAs_31.1 rfl (lv_at hl 0 rfl) ?_
    refine va_get (D := (dC, dI)) (ci := 5) (v := .ref wJ) (C := RX5) (T := TX5) (N := 11) hx hb hts i_X5 hown hK hP 0 rfl rfl 1 (Nat.le_of_ble_eq_true rfl) (hts _ q_419) (fun _ h9 => h9) rfl eX5_lookAs_31.2.1 ?_
    refine lv_iload hx hb eX5_lookAs_31.2.2.1 (lv_at hl 3 rfl) ?_
    refine lv_iload_n hx hb eX5_lookAs_31.2.2.2.1 rfl (lv_at hl 2 rfl) ?_
    have hm := mgk (wc := (wd_X3_within cI cC cZ cB cJ wJ tX jE mX pD oO oQ eG bZ bD bI aI wD gF nJ nY)) hP mk_115 11 rfl rfl rfl
    refine g_calli hP hD hS hA (mixT mk_115) (mixF mk_115) hm.1 hm.2 (nd_F _) (dis_g _) (g_runV (As := [.int x4, .int x3]) (rest := [.int x4, .ref uE]) C0 hP hD hS (mixT mk_115) hm.1 (nd_T _) 3 3 rfl rfl (c_X3_within l dC dI cI cC cZ cB cJ wJ tX jE mX pD oO oQ eG H.size x4 x3 bZ bD bI aI wD gF nJ nY _ hp) q_339 q_436 q_340 q_341 q_48 h_X3_within rfl rfl ⟨Nat.le_of_ble_eq_true rfl, Nat.le_of_ble_eq_true rfl⟩ rfl rfl hl.1 rfl (lv_room (Nat.le_of_ble_eq_true rfl)) eX5_lookAs_31.2.2.2.2.1 ⟨Nat.zero_le _, Nat.zero_le _⟩) (fun r_8 u H locs hp hP hD hS => ?_)
    have hPD := PDm (ws' := (wd_X5_lookAs cI cC cZ cB cJ xD wY wJ uE qU uJ uL uI wQ xH tX jE mX pD oO oQ eG oX rJ pN rP rX bZ bD bI aI wD gF qA nJ nY dQ jC eO eW dO fJ fY jD nG)) hP hD 11 rfl rfl rfl
    have hP := hPD.1
    have hD := hPD.2
    have hin := hp.1
    have hp := hp.2
    refine va_iast hx hb hK hP hD hS 1 0 rfl rfl hin eX5_lookAs_31.2.2.2.2.2.1 (fun H locs hP hD hS => ?_)
    have hP : va_P (dC, dI) classes (wd_X5_lookAs cI cC cZ cB cJ xD wY wJ uE qU uJ uL uI wQ xH tX jE mX pD oO oQ eG oX rJ pN rP (upd rX x4.toNatClampNeg r_8) bZ bD bI aI wD gF qA nJ nY dQ jC eO eW dO fJ fY jD nG) H := hP
    have hD : va_D A (wd_X5_lookAs cI cC cZ cB cJ xD wY wJ uE qU uJ uL uI wQ xH tX jE mX pD oO oQ eG oX rJ pN rP (upd rX x4.toNatClampNeg r_8) bZ bD bI aI wD gF qA nJ nY dQ jC eO eW dO fJ fY jD nG) := hD
    obtain ⟨v_9, ev_9⟩ : ∃ y : Int32, y = x4 + 1 := ⟨_, rfl⟩
    refine lv_iinc (v := v_9) (lv' := [(4, .int v_9), (0, .ref xD), (2, .int x2), (3, .int x3)]) hx hb eX5_lookAs_31.2.2.2.2.2.2.1 hl (k := 3) rfl (by rw [ev_9]; rfl) (by decide) rfl (fun ls hl => ?_)
    have hp := hp v_9 ev_9
    refine lv_goto (tgt := 13) hx hb eX5_lookAs_31.2.2.2.2.2.2.2.1 (by decide) ?_
    exact hKn x2 x3 v_9 oX (upd rX x4.toNatClampNeg r_8) H locs ls hp hP hD hS (lv_sub hl [1, 2, 3, 0] rfl)
set_option maxHeartbeats 4000000 in
set_option maxRecDepth 100000 in
theorem kb_X5_lookAs_13 (C0 : gc cX5_lookAs none 5 RX5 (dC, dI) (tyl cI cC cZ cB cJ) A p s m args meth c) : ∀ (n : Nat), ∀ (x2 x3 x4 oX : Int32) (rX : Nat → Int32) (H : Heap) (locs : List Loc) (ls : Array Slot), (wb_X5_lookAs_13 post bZ bD wD gF qA nJ nY dQ jC eO eW n) x2 x3 x4 oX rX → va_P (dC, dI) classes (wd_X5_lookAs cI cC cZ cB cJ xD wY wJ uE qU uJ uL uI wQ xH tX jE mX pD oO oQ eG oX rJ pN rP rX bZ bD bI aI wD gF qA nJ nY dQ jC eO eW dO fJ fY jD nG) H → va_D A (wd_X5_lookAs cI cC cZ cB cJ xD wY wJ uE qU uJ uL uI wQ xH tX jE mX pD oO oQ eG oX rJ pN rP rX bZ bD bI aI wD gF qA nJ nY dQ jC eO eW dO fJ fY jD nG) → va_S A s.heap H locs → lv_has ls 5 [(0, .ref xD), (2, .int x2), (3, .int x3), (4, .int x4)] → W p l e rm_X5_lookAs s m args below meth c H locs 0 0 (MQ below (q_X5_lookAs dC dI cI cC cZ cB cJ A xD wY wJ uE qU uJ uL uI wQ xH tX jE mX pD oO oQ eG rJ pN rP bZ bD bI aI wD gF qA nJ nY dQ jC eO eW dO fJ fY jD nG post) args s 0 0 A) (F0 m 13 ls []) := by
  intro n
  induction n with
  | zero =>
    intro x2 x3 x4 oX rX H locs ls hp
    exact False.elim hp
  | succ n ih =>
    intro x2 x3 x4 oX rX H locs ls hp
    exact ks_X5_lookAs_13 C0 ih x2 x3 x4 oX rX H locs ls hp
end S_X5_lookAs
noncomputable def wp_X5_lookAs (post : Int32 → (Nat → Int32) → Prop) (p0 p1 oX : Int32) (rX : Nat → Int32) (bZ bD : Int32) (wD gF qA nJ nY dQ : Nat → Int32) (jC eO eW : Int32) : Prop := wp_X3_reach (fun r_1 => ∃ n : Nat, wb_X5_lookAs_13 post bZ bD wD gF qA nJ nY dQ jC eO eW n p1 r_1 0 oX rX) p0 0 dQ
set_option maxHeartbeats 4000000 in
set_option maxRecDepth 100000 in
theorem c_X5_lookAs (l : Launch) (dC : Nat → ClassId) (dI : Nat → Nat → Nat) (cI cC cZ cB cJ : ClassId) (xD wY wJ uE qU uJ uL uI wQ xH tX jE mX pD oO oQ eG sz : Nat) (p0 p1 oX rJ pN rP : Int32) (rX : Nat → Int32) (bZ bD bI aI : Int32) (wD gF qA nJ nY dQ : Nat → Int32) (jC eO eW dO fJ fY jD nG : Int32) (post : Int32 → (Nat → Int32) → Prop) (hw : wp_X5_lookAs post p0 p1 oX rX bZ bD wD gF qA nJ nY dQ jC eO eW) : Met l yX5_lookAs (gw yX5_lookAs cX5_lookAs 5 none) rm_X5_lookAs (va_Pc [.ref xD, .int p0, .int p1] (gPre (dC, dI) (tyl cI cC cZ cB cJ) (wd_X5_lookAs cI cC cZ cB cJ xD wY wJ uE qU uJ uL uI wQ xH tX jE mX pD oO oQ eG oX rJ pN rP rX bZ bD bI aI wD gF qA nJ nY dQ jC eO eW dO fJ fY jD nG) sz)) (q_X5_lookAs dC dI cI cC cZ cB cJ (va_A (wd_X5_lookAs cI cC cZ cB cJ xD wY wJ uE qU uJ uL uI wQ xH tX jE mX pD oO oQ eG oX rJ pN rP rX bZ bD bI aI wD gF qA nJ nY dQ jC eO eW dO fJ fY jD nG) sz) xD wY wJ uE qU uJ uL uI wQ xH tX jE mX pD oO oQ eG rJ pN rP bZ bD bI aI wD gF qA nJ nY dQ jC eO eW dO fJ fY jD nG post) 0 0 (va_A (wd_X5_lookAs cI cC cZ cB cJ xD wY wJ uE qU uJ uL uI wQ xH tX jE mX pD oO oQ eG oX rJ pN rP rX bZ bD bI aI wD gF qA nJ nY dQ jC eO eW dO fJ fY jD nG) sz) := by
  refine g_enter (own := RX5) (dC, dI) (tyl cI cC cZ cB cJ) (wd_X5_lookAs cI cC cZ cB cJ xD wY wJ uE qU uJ uL uI wQ xH tX jE mX pD oO oQ eG oX rJ pN rP rX bZ bD bI aI wD gF qA nJ nY dQ jC eO eW dO fJ fY jD nG) sz [.ref xD, .int p0, .int p1] (fun A => q_X5_lookAs dC dI cI cC cZ cB cJ A xD wY wJ uE qU uJ uL uI wQ xH tX jE mX pD oO oQ eG rJ pN rP bZ bD bI aI wD gF qA nJ nY dQ jC eO eW dO fJ fY jD nG post) pn_RX5 rfl (Nat.le_of_ble_eq_true rfl) ?_
  intro p e s m args below meth c A H locs ls C0 hP hD hS hl
  have hl : lv_has ls 5 [(0, .ref xD), (1, .int p0), (2, .int p1)] := hl
  obtain ⟨hx, hb, hr, hml, hown, hts, hlocks, hA, hK, hN, tL, tM, hZL, hTL, hZM, hTM, hZX⟩ := id C0
  have hp := hw
  unfold wp_X5_lookAs at hp
  refine lv_aload_n hx hb eX5_lookAs_0.1 rfl (lv_at hl 0 rfl) ?_
  refine va_get (D := (dC, dI)) (ci := 5) (v := .ref wJ) (C := RX5) (T := TX5) (N := 11) hx hb hts i_X5 hown hK hP 0 rfl rfl 1 (Nat.le_of_ble_eq_true rfl) (hts _ q_419) (fun _ h9 => h9) rfl eX5_lookAs_0.2.1 ?_
  refine lv_iload_n hx hb eX5_lookAs_0.2.2.1 rfl (lv_at hl 1 rfl) ?_
  refine lv_iconst (v := 0) hx hb eX5_lookAs_0.2.2.2.1 ic_0 ?_
  have hm := mgk (wc := (wd_X3_reach cI cC cZ cB cJ wJ tX jE mX pD oO oQ eG bZ bD bI aI dQ)) hP mk_116 11 rfl rfl rfl
  refine g_calli hP hD hS hA (mixT mk_116) (mixF mk_116) hm.1 hm.2 (nd_F _) (dis_g _) (g_runV (As := [.int p0, .int 0]) (rest := []) C0 hP hD hS (mixT mk_116) hm.1 (nd_T _) 3 3 rfl rfl (c_X3_reach l dC dI cI cC cZ cB cJ wJ tX jE mX pD oO oQ eG H.size p0 0 bZ bD bI aI dQ _ hp) q_312 q_422 q_313 q_314 q_48 h_X3_reach rfl rfl ⟨Nat.le_of_ble_eq_true rfl, Nat.le_of_ble_eq_true rfl⟩ rfl rfl hl.1 rfl (lv_room (Nat.le_of_ble_eq_true rfl)) eX5_lookAs_0.2.2.2.2.1 ⟨Nat.zero_le _, Nat.zero_le _⟩) (fun r_1 u H locs hp hP hD hS => ?_)
  have hPD := PDm (ws' := (wd_X5_lookAs cI cC cZ cB cJ xD wY wJ uE qU uJ uL uI wQ xH tX jE mX pD oO oQ eG oX rJ pN rP rX bZ bD bI aI wD gF qA nJ nY dQ jC eO eW dO fJ fY jD nG)) hP hD 11 rfl rfl rfl
  have hP := hPD.1
  have hD := hPD.2
  refine lv_istore_n (lv' := [(3, .int r_1), (0, .ref xD), (1, .int p0), (2, .int p1)]) hx hb eX5_lookAs_0.2.2.2.2.2.1 rfl hl (by decide) rfl (fun ls hl => ?_)
  refine lv_iconst (v := 0) hx hb eX5_lookAs_0.2.2.2.2.2.2.1 ic_0 ?_
  refine lv_istore (lv' := [(4, .int 0), (3, .int r_1), (0, .ref xD), (1, .int p0), (2, .int p1)]) hx hb eX5_lookAs_0.2.2.2.2.2.2.2.1 hl (by decide) rfl (fun ls hl => ?_)
  obtain ⟨n9, hp⟩ := hp
  exact kb_X5_lookAs_13 C0 n9 p1 r_1 0 oX rX H locs ls hp hP hD hS (lv_sub hl [2, 4, 1, 0] rfl)
noncomputable abbrev wd_X5_look (cI cC cZ cB cJ : ClassId) (xD wY wJ uE qU uJ uL uI wQ xH tX jE mX pD oO oQ eG : Nat) (oX rJ pN rP : Int32) (rX : Nat → Int32) (bZ bD bI aI : Int32) (wD gF qA nJ nY dQ : Nat → Int32) (jC eO eW dO fJ fY jD nG : Int32) : va_W := [(xD, .inr (5, [.ref wY, .ref wJ, .ref uE, .ref qU, .ref uJ, .ref uL, .ref uI, .int oX, .int rJ, .int pN, .int rP])), (uE, .inl (cI, 8, .inl rX)), (wY, .inr (0, [.ref wJ, .ref wQ, .ref xH])), (wJ, .inr (3, [.ref tX, .ref jE, .ref mX, .ref pD, .ref oO, .ref oQ, .ref eG, .int bZ, .int bD, .int bI, .int aI])), (tX, .inl (cI, 16, .inl wD)), (jE, .inl (cI, 16, .inl gF)), (pD, .inl (cI, 16, .inl qA)), (oO, .inl (cI, 8, .inl nJ)), (oQ, .inl (cI, 8, .inl nY)), (eG, .inl (cI, 5, .inl dQ)), (wQ, .inr (2, [.int jC, .int eO, .int eW, .int dO, .int fJ, .int fY, .int jD, .int nG]))]
noncomputable abbrev q_X5_look (dC : Nat → ClassId) (dI : Nat → Nat → Nat) (cI cC cZ cB cJ : ClassId) (A : Nat → Prop) (xD wY wJ uE qU uJ uL uI wQ xH tX jE mX pD oO oQ eG : Nat) (rJ pN rP bZ bD bI aI : Int32) (wD gF qA nJ nY dQ : Nat → Int32) (jC eO eW dO fJ fY jD nG : Int32) (post : Int32 → (Nat → Int32) → Prop) : Array Value → State → Outcome → State → Prop := va_Qv (fun (u : Int32 × (Nat → Int32)) => post u.1 u.2) (fun u t => gB (dC, dI) (tyl cI cC cZ cB cJ) A (wd_X5_look cI cC cZ cB cJ xD wY wJ uE qU uJ uL uI wQ xH tX jE mX pD oO oQ eG u.1 rJ pN rP u.2 bZ bD bI aI wD gF qA nJ nY dQ jC eO eW dO fJ fY jD nG) t) A
noncomputable abbrev rm_X5_look : Room := { frames := 4, cells := 0, slots := 0, locals := 95 }
noncomputable def wp_X5_look (post : Int32 → (Nat → Int32) → Prop) (oX : Int32) (rX : Nat → Int32) (bZ bD : Int32) (wD gF qA nJ nY dQ : Nat → Int32) (jC eO eW fY jD : Int32) : Prop := wp_X5_lookAs (fun xM xQ => post xM xQ) fY jD oX rX bZ bD wD gF qA nJ nY dQ jC eO eW
set_option maxHeartbeats 4000000 in
set_option maxRecDepth 100000 in
theorem c_X5_look (l : Launch) (dC : Nat → ClassId) (dI : Nat → Nat → Nat) (cI cC cZ cB cJ : ClassId) (xD wY wJ uE qU uJ uL uI wQ xH tX jE mX pD oO oQ eG sz : Nat) (oX rJ pN rP : Int32) (rX : Nat → Int32) (bZ bD bI aI : Int32) (wD gF qA nJ nY dQ : Nat → Int32) (jC eO eW dO fJ fY jD nG : Int32) (post : Int32 → (Nat → Int32) → Prop) (hw : wp_X5_look post oX rX bZ bD wD gF qA nJ nY dQ jC eO eW fY jD) : Met l yX5_look (gw yX5_look cX5_look 1 none) rm_X5_look (va_Pc [.ref xD] (gPre (dC, dI) (tyl cI cC cZ cB cJ) (wd_X5_look cI cC cZ cB cJ xD wY wJ uE qU uJ uL uI wQ xH tX jE mX pD oO oQ eG oX rJ pN rP rX bZ bD bI aI wD gF qA nJ nY dQ jC eO eW dO fJ fY jD nG) sz)) (q_X5_look dC dI cI cC cZ cB cJ (va_A (wd_X5_look cI cC cZ cB cJ xD wY wJ uE qU uJ uL uI wQ xH tX jE mX pD oO oQ eG oX rJ pN rP rX bZ bD bI aI wD gF qA nJ nY dQ jC eO eW dO fJ fY jD nG) sz) xD wY wJ uE qU uJ uL uI wQ xH tX jE mX pD oO oQ eG rJ pN rP bZ bD bI aI wD gF qA nJ nY dQ jC eO eW dO fJ fY jD nG post) 0 0 (va_A (wd_X5_look cI cC cZ cB cJ xD wY wJ uE qU uJ uL uI wQ xH tX jE mX pD oO oQ eG oX rJ pN rP rX bZ bD bI aI wD gF qA nJ nY dQ jC eO eW dO fJ fY jD nG) sz) := by
  refine g_enter (own := RX5) (dC, dI) (tyl cI cC cZ cB cJ) (wd_X5_look cI cC cZ cB cJ xD wY wJ uE qU uJ uL uI wQ xH tX jE mX pD oO oQ eG oX rJ pN rP rX bZ bD bI aI wD gF qA nJ nY dQ jC eO eW dO fJ fY jD nG) sz [.ref xD] (fun A => q_X5_look dC dI cI cC cZ cB cJ A xD wY wJ uE qU uJ uL uI wQ xH tX jE mX pD oO oQ eG rJ pN rP bZ bD bI aI wD gF qA nJ nY dQ jC eO eW dO fJ fY jD nG post) pn_RX5 rfl (Nat.le_of_ble_eq_true rfl) ?_
  intro p e s m args below meth c A H locs ls C0 hP hD hS hl
  have hl : lv_has ls 1 [(0, .ref xD)] := hl
  obtain ⟨hx, hb, hr, hml, hown, hts, hlocks, hA, hK, hN, tL, tM, hZL, hTL, hZM, hTM, hZX⟩ := id C0
  have hp := hw
  unfold wp_X5_look at hp
  refine lv_aload_n hx hb eX5_look_0.1 rfl (lv_at hl 0 rfl) ?_
  refine lv_aload_n hx hb eX5_look_0.2.1 rfl (lv_at hl 0 rfl) ?_
  refine va_get (D := (dC, dI)) (ci := 5) (v := .ref wY) (C := RX5) (T := TX5) (N := 11) hx hb hts i_X5 hown hK hP 0 rfl rfl 0 (Nat.le_of_ble_eq_true rfl) (hts _ q_423) (fun _ h9 => h9) rfl eX5_look_0.2.2.1 ?_
  refine va_get (D := (dC, dI)) (ci := 0) (v := .ref wQ) (C := RX0) (T := TX0) (N := 3) hx hb hts i_X0 hown hK hP 2 rfl rfl 1 (Nat.le_of_ble_eq_true rfl) (hts _ q_437) (fun _ h9 => h9) rfl eX5_look_0.2.2.2.1 ?_
  refine va_get (D := (dC, dI)) (ci := 2) (v := .int fY) (C := RX2) (T := TX2) (N := 8) hx hb hts i_X2 hown hK hP 10 rfl rfl 5 (Nat.le_of_ble_eq_true rfl) (hts _ q_438) (fun _ h9 => h9) rfl eX5_look_0.2.2.2.2.1 ?_
  refine lv_aload_n hx hb eX5_look_0.2.2.2.2.2.1 rfl (lv_at hl 0 rfl) ?_
  refine va_get (D := (dC, dI)) (ci := 5) (v := .ref wY) (C := RX5) (T := TX5) (N := 11) hx hb hts i_X5 hown hK hP 0 rfl rfl 0 (Nat.le_of_ble_eq_true rfl) (hts _ q_423) (fun _ h9 => h9) rfl eX5_look_0.2.2.2.2.2.2.1 ?_
  refine va_get (D := (dC, dI)) (ci := 0) (v := .ref wQ) (C := RX0) (T := TX0) (N := 3) hx hb hts i_X0 hown hK hP 2 rfl rfl 1 (Nat.le_of_ble_eq_true rfl) (hts _ q_437) (fun _ h9 => h9) rfl eX5_look_0.2.2.2.2.2.2.2.1 ?_
  refine va_get (D := (dC, dI)) (ci := 2) (v := .int jD) (C := RX2) (T := TX2) (N := 8) hx hb hts i_X2 hown hK hP 10 rfl rfl 6 (Nat.le_of_ble_eq_true rfl) (hts _ q_439) (fun _ h9 => h9) rfl eX5_look_0.2.2.2.2.2.2.2.2.1 ?_
  have hm := mgk (wc := (wd_X5_lookAs cI cC cZ cB cJ xD wY wJ uE qU uJ uL uI wQ xH tX jE mX pD oO oQ eG oX rJ pN rP rX bZ bD bI aI wD gF qA nJ nY dQ jC eO eW dO fJ fY jD nG)) hP mk_117 11 rfl rfl rfl
  refine g_callv hP hD hS hA (mixT mk_117) (mixF mk_117) hm.1 hm.2 (nd_F _) (dis_g _) (g_runV (As := [.int fY, .int jD]) (rest := []) C0 hP hD hS (mixT mk_117) hm.1 (nd_T _) 0 5 rfl rfl (c_X5_lookAs l dC dI cI cC cZ cB cJ xD wY wJ uE qU uJ uL uI wQ xH tX jE mX pD oO oQ eG H.size fY jD oX rJ pN rP rX bZ bD bI aI wD gF qA nJ nY dQ jC eO eW dO fJ fY jD nG _ hp) q_440 q_443 q_441 q_442 q_431 h_X5_lookAs rfl rfl ⟨Nat.le_of_ble_eq_true rfl, Nat.le_of_ble_eq_true rfl⟩ rfl rfl hl.1 rfl (lv_room (Nat.le_of_ble_eq_true rfl)) eX5_look_0.2.2.2.2.2.2.2.2.2.1 ⟨Nat.zero_le _, Nat.zero_le _⟩) (fun u H locs hp hP hD hS => ?_)
  obtain ⟨xM, xQ⟩ := u
  have hPD := PDm (ws' := (wd_X5_look cI cC cZ cB cJ xD wY wJ uE qU uJ uL uI wQ xH tX jE mX pD oO oQ eG xM rJ pN rP xQ bZ bD bI aI wD gF qA nJ nY dQ jC eO eW dO fJ fY jD nG)) hP hD 11 rfl rfl rfl
  have hP := hPD.1
  have hD := hPD.2
  exact W.vret hx hb hr (fun t ht hW => ⟨⟨(xM, xQ), rfl, hp, by rw [ht]; exact hP, va_K.moved hW.alike hK, hD⟩, hS.F ht⟩) hS.2.2 eX5_look_0.2.2.2.2.2.2.2.2.2.2
noncomputable abbrev wd_X5_wantedFrom (cI cC cZ cB cJ : ClassId) (xD wY wJ uE qU uJ uL uI : Nat) (oX rJ pN rP : Int32) (rX : Nat → Int32) : va_W := [(xD, .inr (5, [.ref wY, .ref wJ, .ref uE, .ref qU, .ref uJ, .ref uL, .ref uI, .int oX, .int rJ, .int pN, .int rP])), (uE, .inl (cI, 8, .inl rX))]
noncomputable abbrev q_X5_wantedFrom (dC : Nat → ClassId) (dI : Nat → Nat → Nat) (cI cC cZ cB cJ : ClassId) (A : Nat → Prop) (xD wY wJ uE qU uJ uL uI : Nat) (oX rJ pN rP : Int32) (rX : Nat → Int32) (post : Int32 → Prop) : Array Value → State → Outcome → State → Prop := va_Qi (fun (r : Int32) (u : Unit) => post r) (fun u t => gB (dC, dI) (tyl cI cC cZ cB cJ) A (wd_X5_wantedFrom cI cC cZ cB cJ xD wY wJ uE qU uJ uL uI oX rJ pN rP rX) t) A
noncomputable abbrev rm_X5_wantedFrom : Room := { frames := 0, cells := 0, slots := 0, locals := 0 }
noncomputable def wp_X5_wantedFrom (post : Int32 → Prop) (p0 oX : Int32) (rX : Nat → Int32) : Prop := vp_in p0 8 ∧ (post (oX &&& (rX p0.toNatClampNeg)))
set_option maxHeartbeats 4000000 in
set_option maxRecDepth 100000 in
theorem c_X5_wantedFrom (l : Launch) (dC : Nat → ClassId) (dI : Nat → Nat → Nat) (cI cC cZ cB cJ : ClassId) (xD wY wJ uE qU uJ uL uI sz : Nat) (p0 oX rJ pN rP : Int32) (rX : Nat → Int32) (post : Int32 → Prop) (hw : wp_X5_wantedFrom post p0 oX rX) : Met l yX5_wantedFrom (gw yX5_wantedFrom cX5_wantedFrom 2 (some .int)) rm_X5_wantedFrom (va_Pc [.ref xD, .int p0] (gPre (dC, dI) (tyl cI cC cZ cB cJ) (wd_X5_wantedFrom cI cC cZ cB cJ xD wY wJ uE qU uJ uL uI oX rJ pN rP rX) sz)) (q_X5_wantedFrom dC dI cI cC cZ cB cJ (va_A (wd_X5_wantedFrom cI cC cZ cB cJ xD wY wJ uE qU uJ uL uI oX rJ pN rP rX) sz) xD wY wJ uE qU uJ uL uI oX rJ pN rP rX post) 0 0 (va_A (wd_X5_wantedFrom cI cC cZ cB cJ xD wY wJ uE qU uJ uL uI oX rJ pN rP rX) sz) := by
  refine g_enter (own := RX5) (dC, dI) (tyl cI cC cZ cB cJ) (wd_X5_wantedFrom cI cC cZ cB cJ xD wY wJ uE qU uJ uL uI oX rJ pN rP rX) sz [.ref xD, .int p0] (fun A => q_X5_wantedFrom dC dI cI cC cZ cB cJ A xD wY wJ uE qU uJ uL uI oX rJ pN rP rX post) pn_RX5 rfl (Nat.le_of_ble_eq_true rfl) ?_
  intro p e s m args below meth c A H locs ls C0 hP hD hS hl
  have hl : lv_has ls 2 [(0, .ref xD), (1, .int p0)] := hl
  obtain ⟨hx, hb, hr, hml, hown, hts, hlocks, hA, hK, hN, tL, tM, hZL, hTL, hZM, hTM, hZX⟩ := id C0
  have hp := hw
  unfold wp_X5_wantedFrom at hp
  refine lv_aload_n hx hb eX5_wantedFrom_0.1 rfl (lv_at hl 0 rfl) ?_
  refine va_get (D := (dC, dI)) (ci := 5) (v := .int oX) (C := RX5) (T := TX5) (N := 11) hx hb hts i_X5 hown hK hP 0 rfl rfl 7 (Nat.le_of_ble_eq_true rfl) (hts _ q_435) (fun _ h9 => h9) rfl eX5_wantedFrom_0.2.1 ?_
  refine lv_aload_n hx hb eX5_wantedFrom_0.2.2.1 rfl (lv_at hl 0 rfl) ?_
  refine va_get (D := (dC, dI)) (ci := 5) (v := .ref uE) (C := RX5) (T := TX5) (N := 11) hx hb hts i_X5 hown hK hP 0 rfl rfl 2 (Nat.le_of_ble_eq_true rfl) (hts _ q_421) (fun _ h9 => h9) rfl eX5_wantedFrom_0.2.2.2.1 ?_
  refine lv_iload_n hx hb eX5_wantedFrom_0.2.2.2.2.1 rfl (lv_at hl 1 rfl) ?_
  have hin := hp.1
  have hp := hp.2
  refine va_iald hx hb hK hP 1 0 rfl rfl hin eX5_wantedFrom_0.2.2.2.2.2.1 ?_
  refine lv_iand hx hb eX5_wantedFrom_0.2.2.2.2.2.2.1 ?_
  exact W.iret (v := oX &&& (rX p0.toNatClampNeg)) hx hb hr (fun t ht hW => ⟨⟨oX &&& (rX p0.toNatClampNeg), (), rfl, hp, by rw [ht]; exact hP, va_K.moved hW.alike hK, hD⟩, hS.F ht⟩) hS.2.2 eX5_wantedFrom_0.2.2.2.2.2.2.2
noncomputable abbrev wd_X9_both (cI cC cZ cB cJ : ClassId) (a_x xG xD wY wJ wQ xI xK xJ tW uE qU uJ uL uI xH tX jE mX pD oO oQ eG qT : Nat) (oX rJ pN rP : Int32) (rX : Nat → Int32) (bZ bD bI aI : Int32) (wD gF qA nJ nY dQ : Nat → Int32) (jC eO eW dO fJ fY jD nG qF : Int32) (jJ : Nat → Int32) : va_W := [(a_x, .inr (9, [.ref xG, .ref xD, .ref wY, .ref wJ, .ref wQ, .ref xI, .ref xK, .ref xJ, .ref tW])), (xD, .inr (5, [.ref wY, .ref wJ, .ref uE, .ref qU, .ref uJ, .ref uL, .ref uI, .int oX, .int rJ, .int pN, .int rP])), (uE, .inl (cI, 8, .inl rX)), (wY, .inr (0, [.ref wJ, .ref wQ, .ref xH])), (wJ, .inr (3, [.ref tX, .ref jE, .ref mX, .ref pD, .ref oO, .ref oQ, .ref eG, .int bZ, .int bD, .int bI, .int aI])), (tX, .inl (cI, 16, .inl wD)), (jE, .inl (cI, 16, .inl gF)), (pD, .inl (cI, 16, .inl qA)), (oO, .inl (cI, 8, .inl nJ)), (oQ, .inl (cI, 8, .inl nY)), (eG, .inl (cI, 5, .inl dQ)), (wQ, .inr (2, [.int jC, .int eO, .int eW, .int dO, .int fJ, .int fY, .int jD, .int nG])), (xK, .inr (6, [.ref qT, .int qF])), (qT, .inl (cI, 16, .inl jJ))]
noncomputable abbrev q_X9_both (dC : Nat → ClassId) (dI : Nat → Nat → Nat) (cI cC cZ cB cJ : ClassId) (A : Nat → Prop) (a_x xG xD wY wJ wQ xI xK xJ tW uE qU uJ uL uI xH tX jE mX pD oO oQ eG qT : Nat) (rJ pN rP bZ bD bI aI : Int32) (wD gF qA nJ nY dQ : Nat → Int32) (jC eO eW dO fJ fY jD nG : Int32) (post : Int32 → Int32 → (Nat → Int32) → Int32 → (Nat → Int32) → Prop) : Array Value → State → Outcome → State → Prop := va_Qi (fun (r : Int32) (u : Int32 × (Nat → Int32) × Int32 × (Nat → Int32)) => post r u.1 u.2.1 u.2.2.1 u.2.2.2) (fun u t => gB (dC, dI) (tyl cI cC cZ cB cJ) A (wd_X9_both cI cC cZ cB cJ a_x xG xD wY wJ wQ xI xK xJ tW uE qU uJ uL uI xH tX jE mX pD oO oQ eG qT u.1 rJ pN rP u.2.1 bZ bD bI aI wD gF qA nJ nY dQ jC eO eW dO fJ fY jD nG u.2.2.1 u.2.2.2) t) A
noncomputable abbrev rm_X9_both : Room := { frames := 5, cells := 0, slots := 0, locals := 115 }
noncomputable def wp_X9_both (post : Int32 → Int32 → (Nat → Int32) → Int32 → (Nat → Int32) → Prop) (p0 p1 oX : Int32) (rX : Nat → Int32) (bZ bD : Int32) (wD gF qA nJ nY dQ : Nat → Int32) (jC eO eW fY jD qF : Int32) (jJ : Nat → Int32) : Prop := wp_X3_hasStanding (fun r_1 => (r_1 = 0 → post (-1) oX rX qF jJ) ∧ (¬ r_1 = 0 → wp_X3_hasStanding (fun r_2 => (r_2 = 0 → post (-1) oX rX qF jJ) ∧ (¬ r_2 = 0 → (¬ p0 = p1 → wp_X5_look (fun aBH aEu => wp_X5_wantedFrom (fun r_5 => wp_X5_wantedFrom (fun r_6 => ∀ v_7 : Int32, v_7 = r_5 &&& (r_6 ^^^ (-1)) → ∀ v_8 : Int32, v_8 = r_6 &&& (r_5 ^^^ (-1)) → wp_X9_tell_ (fun aGB aBv => post (r_5 &&& r_6) aBH aEu aGB aBv) v_7 v_8 qF jJ) p1 aBH aEu) p0 aBH aEu) oX rX bZ bD wD gF qA nJ nY dQ jC eO eW fY jD) ∧ (p0 = p1 → post (-1) oX rX qF jJ))) p1 bD)) p0 bD
set_option maxHeartbeats 4000000 in
set_option maxRecDepth 100000 in
theorem c_X9_both (l : Launch) (dC : Nat → ClassId) (dI : Nat → Nat → Nat) (cI cC cZ cB cJ : ClassId) (a_x xG xD wY wJ wQ xI xK xJ tW uE qU uJ uL uI xH tX jE mX pD oO oQ eG qT sz : Nat) (p0 p1 oX rJ pN rP : Int32) (rX : Nat → Int32) (bZ bD bI aI : Int32) (wD gF qA nJ nY dQ : Nat → Int32) (jC eO eW dO fJ fY jD nG qF : Int32) (jJ : Nat → Int32) (post : Int32 → Int32 → (Nat → Int32) → Int32 → (Nat → Int32) → Prop) (hw : wp_X9_both post p0 p1 oX rX bZ bD wD gF qA nJ nY dQ jC eO eW fY jD qF jJ) : Met l yX9_both (gw yX9_both cX9_both 5 (some .int)) rm_X9_both (va_Pc [.ref a_x, .int p0, .int p1] (gPre (dC, dI) (tyl cI cC cZ cB cJ) (wd_X9_both cI cC cZ cB cJ a_x xG xD wY wJ wQ xI xK xJ tW uE qU uJ uL uI xH tX jE mX pD oO oQ eG qT oX rJ pN rP rX bZ bD bI aI wD gF qA nJ nY dQ jC eO eW dO fJ fY jD nG qF jJ) sz)) (q_X9_both dC dI cI cC cZ cB cJ (va_A (wd_X9_both cI cC cZ cB cJ a_x xG xD wY wJ wQ xI xK xJ tW uE qU uJ uL uI xH tX jE mX pD oO oQ eG qT oX rJ pN rP rX bZ bD bI aI wD gF qA nJ nY dQ jC eO eW dO fJ fY jD nG qF jJ) sz) a_x xG xD wY wJ wQ xI xK xJ tW uE qU uJ uL uI xH tX jE mX pD oO oQ eG qT rJ pN rP bZ bD bI aI wD gF qA nJ nY dQ jC eO eW dO fJ fY jD nG post) 0 0 (va_A (wd_X9_both cI cC cZ cB cJ a_x xG xD wY wJ wQ xI xK xJ tW uE qU uJ uL uI xH tX jE mX pD oO oQ eG qT oX rJ pN rP rX bZ bD bI aI wD gF qA nJ nY dQ jC eO eW dO fJ fY jD nG qF jJ) sz) := by
  refine g_enter (own := RX9) (dC, dI) (tyl cI cC cZ cB cJ) (wd_X9_both cI cC cZ cB cJ a_x xG xD wY wJ wQ xI xK xJ tW uE qU uJ uL uI xH tX jE mX pD oO oQ eG qT oX rJ pN rP rX bZ bD bI aI wD gF qA nJ nY dQ jC eO eW dO fJ fY jD nG qF jJ) sz [.ref a_x, .int p0, .int p1] (fun A => q_X9_both dC dI cI cC cZ cB cJ A a_x xG xD wY wJ wQ xI xK xJ tW uE qU uJ uL uI xH tX jE mX pD oO oQ eG qT rJ pN rP bZ bD bI aI wD gF qA nJ nY dQ jC eO eW dO fJ fY jD nG post) pn_RX9 rfl (Nat.le_of_ble_eq_true rfl) ?_
  intro p e s m args below meth c A H locs ls C0 hP hD hS hl
  have hl : lv_has ls 5 [(0, .ref a_x), (1, .int p0), (2, .int p1)] := hl
  obtain ⟨hx, hb, hr, hml, hown, hts, hlocks, hA, hK, hN, tL, tM, hZL, hTL, hZM, hTM, hZX⟩ := id C0
  have hp := hw
  unfold wp_X9_both at hp
  refine lv_aload_n hx hb eX9_both_0.1 rfl (lv_at hl 0 rfl) ?_
  refine va_get (D := (dC, dI)) (ci := 9) (v := .ref wJ) (C := RX9) (T := TX9) (N := 9) hx hb hts i_X9 hown hK hP 0 rfl rfl 3 (Nat.le_of_ble_eq_true rfl) (hts _ q_74) (fun _ h9 => h9) rfl eX9_both_0.2.1 ?_
  refine lv_iload_n hx hb eX9_both_0.2.2.1 rfl (lv_at hl 1 rfl) ?_
  have hm := mgk (wc := (wd_X3_hasStanding cI cC cZ cB cJ wJ tX jE mX pD oO oQ eG bZ bD bI aI)) hP aAB 14 rfl rfl rfl
  refine g_calli hP hD hS hA (mixT aAB) (mixF aAB) hm.1 hm.2 (nd_F _) (dis_g _) (g_runV (As := [.int p0]) (rest := []) C0 hP hD hS (mixT aAB) hm.1 (nd_T _) 4 3 rfl rfl (c_X3_hasStanding l dC dI cI cC cZ cB cJ wJ tX jE mX pD oO oQ eG H.size p0 bZ bD bI aI _ hp) q_195 q_198 q_196 q_197 q_48 h_X3_hasStanding rfl rfl ⟨Nat.le_of_ble_eq_true rfl, Nat.le_of_ble_eq_true rfl⟩ rfl rfl hl.1 rfl (lv_room (Nat.le_of_ble_eq_true rfl)) eX9_both_0.2.2.2.1 ⟨Nat.zero_le _, Nat.zero_le _⟩) (fun r_1 u H locs hp hP hD hS => ?_)
  have hPD := PDm (ws' := (wd_X9_both cI cC cZ cB cJ a_x xG xD wY wJ wQ xI xK xJ tW uE qU uJ uL uI xH tX jE mX pD oO oQ eG qT oX rJ pN rP rX bZ bD bI aI wD gF qA nJ nY dQ jC eO eW dO fJ fY jD nG qF jJ)) hP hD 14 rfl rfl rfl
  have hP := hPD.1
  have hD := hPD.2
  refine lv_if_eq (tgt := 27) hx hb eX9_both_0.2.2.2.2.1 (by decide) (fun hc => ?_) (fun hc => ?_)
  · have hp := hp.1 hc
    refine lv_iconst (v := (-1)) hx hb eX9_both_0.2.2.2.2.2.2.2.2.2.2.2.2.2.1 ic_m1 ?_
    exact W.iret (v := (-1)) hx hb hr (fun t ht hW => ⟨⟨(-1), (oX, rX, qF, jJ), rfl, hp, by rw [ht]; exact hP, va_K.moved hW.alike hK, hD⟩, hS.F ht⟩) hS.2.2 eX9_both_0.2.2.2.2.2.2.2.2.2.2.2.2.2.2.1
  · have hp := hp.2 hc
    refine lv_aload_n hx hb eX9_both_0.2.2.2.2.2.1 rfl (lv_at hl 0 rfl) ?_
    refine va_get (D := (dC, dI)) (ci := 9) (v := .ref wJ) (C := RX9) (T := TX9) (N := 9) hx hb hts i_X9 hown hK hP 0 rfl rfl 3 (Nat.le_of_ble_eq_true rfl) (hts _ q_74) (fun _ h9 => h9) rfl eX9_both_0.2.2.2.2.2.2.1 ?_
    refine lv_iload_n hx hb eX9_both_0.2.2.2.2.2.2.2.1 rfl (lv_at hl 2 rfl) ?_
    have hm := mgk (wc := (wd_X3_hasStanding cI cC cZ cB cJ wJ tX jE mX pD oO oQ eG bZ bD bI aI)) hP aAB 14 rfl rfl rfl
    refine g_calli hP hD hS hA (mixT aAB) (mixF aAB) hm.1 hm.2 (nd_F _) (dis_g _) (g_runV (As := [.int p1]) (rest := []) C0 hP hD hS (mixT aAB) hm.1 (nd_T _) 4 3 rfl rfl (c_X3_hasStanding l dC dI cI cC cZ cB cJ wJ tX jE mX pD oO oQ eG H.size p1 bZ bD bI aI _ hp) q_195 q_198 q_196 q_197 q_48 h_X3_hasStanding rfl rfl ⟨Nat.le_of_ble_eq_true rfl, Nat.le_of_ble_eq_true rfl⟩ rfl rfl hl.1 rfl (lv_room (Nat.le_of_ble_eq_true rfl)) eX9_both_0.2.2.2.2.2.2.2.2.1 ⟨Nat.zero_le _, Nat.zero_le _⟩) (fun r_2 u H locs hp hP hD hS => ?_)
    have hPD := PDm (ws' := (wd_X9_both cI cC cZ cB cJ a_x xG xD wY wJ wQ xI xK xJ tW uE qU uJ uL uI xH tX jE mX pD oO oQ eG qT oX rJ pN rP rX bZ bD bI aI wD gF qA nJ nY dQ jC eO eW dO fJ fY jD nG qF jJ)) hP hD 14 rfl rfl rfl
    have hP := hPD.1
    have hD := hPD.2
    refine lv_if_eq (tgt := 27) hx hb eX9_both_0.2.2.2.2.2.2.2.2.2.1 (by decide) (fun hc => ?_) (fun hc => ?_)
    · have hp := hp.1 hc
      refine lv_iconst (v := (-1)) hx hb eX9_both_0.2.2.2.2.2.2.2.2.2.2.2.2.2.1 ic_m1 ?_
      exact W.iret (v := (-1)) hx hb hr (fun t ht hW => ⟨⟨(-1), (oX, rX, qF, jJ), rfl, hp, by rw [ht]; exact hP, va_K.moved hW.alike hK, hD⟩, hS.F ht⟩) hS.2.2 eX9_both_0.2.2.2.2.2.2.2.2.2.2.2.2.2.2.1
    · have hp := hp.2 hc
      refine lv_iload_n hx hb eX9_both_0.2.2.2.2.2.2.2.2.2.2.1 rfl (lv_at hl 1 rfl) ?_
      refine lv_iload_n hx hb eX9_both_0.2.2.2.2.2.2.2.2.2.2.2.1 rfl (lv_at hl 2 rfl) ?_
      refine lv_icmp_ne (tgt := 29) hx hb eX9_both_0.2.2.2.2.2.2.2.2.2.2.2.2.1 (by decide) (fun hc => ?_) (fun hc => ?_)
      · have hp := hp.1 hc
        refine lv_aload_n hx hb eX9_both_0.2.2.2.2.2.2.2.2.2.2.2.2.2.2.2 rfl (lv_at hl 0 rfl) ?_
        refine va_get (D := (dC, dI)) (ci := 9) (v := .ref xD) (C := RX9) (T := TX9) (N := 9) hx hb hts i_X9 hown hK hP 0 rfl rfl 1 (Nat.le_of_ble_eq_true rfl) (hts _ q_444) (fun _ h9 => h9) rfl eX9_both_30.1 ?_
        have hm := mgk (wc := (wd_X5_look cI cC cZ cB cJ xD wY wJ uE qU uJ uL uI wQ xH tX jE mX pD oO oQ eG oX rJ pN rP rX bZ bD bI aI wD gF qA nJ nY dQ jC eO eW dO fJ fY jD nG)) hP aA9 14 rfl rfl rfl
        refine g_callv hP hD hS hA (mixT aA9) (mixF aA9) hm.1 hm.2 (nd_F _) (dis_g _) (g_runV (As := []) (rest := []) C0 hP hD hS (mixT aA9) hm.1 (nd_T _) 1 5 rfl rfl (c_X5_look l dC dI cI cC cZ cB cJ xD wY wJ uE qU uJ uL uI wQ xH tX jE mX pD oO oQ eG H.size oX rJ pN rP rX bZ bD bI aI wD gF qA nJ nY dQ jC eO eW dO fJ fY jD nG _ hp) q_445 q_448 q_446 q_447 q_431 h_X5_look rfl rfl ⟨Nat.le_of_ble_eq_true rfl, Nat.le_of_ble_eq_true rfl⟩ rfl rfl hl.1 rfl (lv_room (Nat.le_of_ble_eq_true rfl)) eX9_both_30.2.1 ⟨Nat.zero_le _, Nat.zero_le _⟩) (fun u H locs hp hP hD hS => ?_)
        obtain ⟨aBH, aEu⟩ := u
        have hPD := PDm (ws' := (wd_X9_both cI cC cZ cB cJ a_x xG xD wY wJ wQ xI xK xJ tW uE qU uJ uL uI xH tX jE mX pD oO oQ eG qT aBH rJ pN rP aEu bZ bD bI aI wD gF qA nJ nY dQ jC eO eW dO fJ fY jD nG qF jJ)) hP hD 14 rfl rfl rfl
        have hP := hPD.1
        have hD := hPD.2
        refine lv_aload_n hx hb eX9_both_30.2.2.1 rfl (lv_at hl 0 rfl) ?_
        refine va_get (D := (dC, dI)) (ci := 9) (v := .ref xD) (C := RX9) (T := TX9) (N := 9) hx hb hts i_X9 hown hK hP 0 rfl rfl 1 (Nat.le_of_ble_eq_true rfl) (hts _ q_444) (fun _ h9 => h9) rfl eX9_both_30.2.2.2.1 ?_
        refine lv_iload_n hx hb eX9_both_30.2.2.2.2.1 rfl (lv_at hl 1 rfl) ?_
        have hm := mgk (wc := (wd_X5_wantedFrom cI cC cZ cB cJ xD wY wJ uE qU uJ uL uI aBH rJ pN rP aEu)) hP mk_120 14 rfl rfl rfl
        refine g_calli hP hD hS hA (mixT mk_120) (mixF mk_120) hm.1 hm.2 (nd_F _) (dis_g _) (g_runV (As := [.int p0]) (rest := []) C0 hP hD hS (mixT mk_120) hm.1 (nd_T _) 1 5 rfl rfl (c_X5_wantedFrom l dC dI cI cC cZ cB cJ xD wY wJ uE qU uJ uL uI H.size p0 aBH rJ pN rP aEu _ hp) q_449 q_452 q_450 q_451 q_431 h_X5_wantedFrom rfl rfl ⟨Nat.le_of_ble_eq_true rfl, Nat.le_of_ble_eq_true rfl⟩ rfl rfl hl.1 rfl (lv_room (Nat.le_of_ble_eq_true rfl)) eX9_both_30.2.2.2.2.2.1 ⟨Nat.zero_le _, Nat.zero_le _⟩) (fun r_5 u H locs hp hP hD hS => ?_)
        have hPD := PDm (ws' := (wd_X9_both cI cC cZ cB cJ a_x xG xD wY wJ wQ xI xK xJ tW uE qU uJ uL uI xH tX jE mX pD oO oQ eG qT aBH rJ pN rP aEu bZ bD bI aI wD gF qA nJ nY dQ jC eO eW dO fJ fY jD nG qF jJ)) hP hD 14 rfl rfl rfl
        have hP := hPD.1
        have hD := hPD.2
        refine lv_istore_n (lv' := [(3, .int r_5), (0, .ref a_x), (1, .int p0), (2, .int p1)]) hx hb eX9_both_30.2.2.2.2.2.2.1 rfl hl (by decide) rfl (fun ls hl => ?_)
        refine lv_aload_n hx hb eX9_both_30.2.2.2.2.2.2.2.1 rfl (lv_at hl 1 rfl) ?_
        refine va_get (D := (dC, dI)) (ci := 9) (v := .ref xD) (C := RX9) (T := TX9) (N := 9) hx hb hts i_X9 hown hK hP 0 rfl rfl 1 (Nat.le_of_ble_eq_true rfl) (hts _ q_444) (fun _ h9 => h9) rfl eX9_both_30.2.2.2.2.2.2.2.2.1 ?_
        refine lv_iload_n hx hb eX9_both_30.2.2.2.2.2.2.2.2.2.1 rfl (lv_at hl 3 rfl) ?_
        have hm := mgk (wc := (wd_X5_wantedFrom cI cC cZ cB cJ xD wY wJ uE qU uJ uL uI aBH rJ pN rP aEu)) hP mk_120 14 rfl rfl rfl
        refine g_calli hP hD hS hA (mixT mk_120) (mixF mk_120) hm.1 hm.2 (nd_F _) (dis_g _) (g_runV (As := [.int p1]) (rest := []) C0 hP hD hS (mixT mk_120) hm.1 (nd_T _) 1 5 rfl rfl (c_X5_wantedFrom l dC dI cI cC cZ cB cJ xD wY wJ uE qU uJ uL uI H.size p1 aBH rJ pN rP aEu _ hp) q_449 q_452 q_450 q_451 q_431 h_X5_wantedFrom rfl rfl ⟨Nat.le_of_ble_eq_true rfl, Nat.le_of_ble_eq_true rfl⟩ rfl rfl hl.1 rfl (lv_room (Nat.le_of_ble_eq_true rfl)) eX9_both_30.2.2.2.2.2.2.2.2.2.2.1 ⟨Nat.zero_le _, Nat.zero_le _⟩) (fun r_6 u H locs hp hP hD hS => ?_)
        have hPD := PDm (ws' := (wd_X9_both cI cC cZ cB cJ a_x xG xD wY wJ wQ xI xK xJ tW uE qU uJ uL uI xH tX jE mX pD oO oQ eG qT aBH rJ pN rP aEu bZ bD bI aI wD gF qA nJ nY dQ jC eO eW dO fJ fY jD nG qF jJ)) hP hD 14 rfl rfl rfl
        have hP := hPD.1
        have hD := hPD.2
        refine lv_istore (lv' := [(4, .int r_6), (3, .int r_5), (0, .ref a_x), (1, .int p0), (2, .int p1)]) hx hb eX9_both_30.2.2.2.2.2.2.2.2.2.2.2.1 hl (by decide) rfl (fun ls hl => ?_)
        refine lv_aload_n hx hb eX9_both_30.2.2.2.2.2.2.2.2.2.2.2.2.1 rfl (lv_at hl 2 rfl) ?_
        refine lv_iload_n hx hb eX9_both_30.2.2.2.2.2.2.2.2.2.2.2.2.2.1 rfl (lv_at hl 1 rfl) ?_
        refine lv_iload hx hb eX9_both_30.2.2.2.2.2.2.2.2.2.2.2.2.2.2.1 (lv_at hl 0 rfl) ?_
        refine lv_iconst (v := (-1)) hx hb eX9_both_30.2.2.2.2.2.2.2.2.2.2.2.2.2.2.2 ic_m1 ?_
        refine lv_ixor hx hb eX9_both_60.1 ?_
        refine lv_iand hx hb eX9_both_60.2.1 ?_
        refine lv_topi (fun v_7 ev_7 => ?_)
        have hp := hp v_7 ev_7
        refine lv_iload hx hb eX9_both_60.2.2.1 (lv_at hl 0 rfl) ?_
        refine lv_iload_n hx hb eX9_both_60.2.2.2.1 rfl (lv_at hl 1 rfl) ?_
        refine lv_iconst (v := (-1)) hx hb eX9_both_60.2.2.2.2.1 ic_m1 ?_
        refine lv_ixor hx hb eX9_both_60.2.2.2.2.2.1 ?_
        refine lv_iand hx hb eX9_both_60.2.2.2.2.2.2.1 ?_
        refine lv_topi (fun v_8 ev_8 => ?_)
        have hp := hp v_8 ev_8
        have hm := mgk (wc := (wd_X9_tell_ cI cC cZ cB cJ a_x xG xD wY wJ wQ xI xK xJ tW qT qF jJ)) hP aBp 14 rfl rfl rfl
        refine g_callv hP hD hS hA (mixT aBp) (mixF aBp) hm.1 hm.2 (nd_F _) (dis_g _) (g_runV (As := [.int v_7, .int v_8]) (rest := []) C0 hP hD hS (mixT aBp) hm.1 (nd_T _) 0 9 rfl rfl (c_X9_tell_ l dC dI cI cC cZ cB cJ a_x xG xD wY wJ wQ xI xK xJ tW qT H.size v_7 v_8 qF jJ _ hp) q_377 q_380 q_378 q_379 q_256 h_X9_tell_ rfl rfl ⟨Nat.le_of_ble_eq_true rfl, Nat.le_of_ble_eq_true rfl⟩ rfl rfl hl.1 rfl (lv_room (Nat.le_of_ble_eq_true rfl)) eX9_both_60.2.2.2.2.2.2.2.1 ⟨Nat.zero_le _, Nat.zero_le _⟩) (fun u H locs hp hP hD hS => ?_)
        obtain ⟨aGB, aBv⟩ := u
        have hPD := PDm (ws' := (wd_X9_both cI cC cZ cB cJ a_x xG xD wY wJ wQ xI xK xJ tW uE qU uJ uL uI xH tX jE mX pD oO oQ eG qT aBH rJ pN rP aEu bZ bD bI aI wD gF qA nJ nY dQ jC eO eW dO fJ fY jD nG aGB aBv)) hP hD 14 rfl rfl rfl
        have hP := hPD.1
        have hD := hPD.2
        refine lv_iload_n hx hb eX9_both_60.2.2.2.2.2.2.2.2.1 rfl (lv_at hl 1 rfl) ?_
        refine lv_iload hx hb eX9_both_60.2.2.2.2.2.2.2.2.2.1 (lv_at hl 0 rfl) ?_
        refine lv_iand hx hb eX9_both_60.2.2.2.2.2.2.2.2.2.2.1 ?_
        exact W.iret (v := r_5 &&& r_6) hx hb hr (fun t ht hW => ⟨⟨r_5 &&& r_6, (aBH, aEu, aGB, aBv), rfl, hp, by rw [ht]; exact hP, va_K.moved hW.alike hK, hD⟩, hS.F ht⟩) hS.2.2 eX9_both_60.2.2.2.2.2.2.2.2.2.2.2
      · have hp := hp.2 hc
        refine lv_iconst (v := (-1)) hx hb eX9_both_0.2.2.2.2.2.2.2.2.2.2.2.2.2.1 ic_m1 ?_
        exact W.iret (v := (-1)) hx hb hr (fun t ht hW => ⟨⟨(-1), (oX, rX, qF, jJ), rfl, hp, by rw [ht]; exact hP, va_K.moved hW.alike hK, hD⟩, hS.F ht⟩) hS.2.2 eX9_both_0.2.2.2.2.2.2.2.2.2.2.2.2.2.2.1
noncomputable abbrev wd_X3_leanNeeded (cI cC cZ cB cJ : ClassId) (wJ tX jE mX pD oO oQ eG : Nat) (bZ bD bI aI : Int32) (wD gF nJ nY dQ : Nat → Int32) : va_W := [(wJ, .inr (3, [.ref tX, .ref jE, .ref mX, .ref pD, .ref oO, .ref oQ, .ref eG, .int bZ, .int bD, .int bI, .int aI])), (tX, .inl (cI, 16, .inl wD)), (jE, .inl (cI, 16, .inl gF)), (oO, .inl (cI, 8, .inl nJ)), (oQ, .inl (cI, 8, .inl nY)), (eG, .inl (cI, 5, .inl dQ))]
noncomputable abbrev q_X3_leanNeeded (dC : Nat → ClassId) (dI : Nat → Nat → Nat) (cI cC cZ cB cJ : ClassId) (A : Nat → Prop) (wJ tX jE mX pD oO oQ eG : Nat) (bZ bD bI aI : Int32) (wD gF nJ nY dQ : Nat → Int32) (post : Int32 → Prop) : Array Value → State → Outcome → State → Prop := va_Qi (fun (r : Int32) (u : Unit) => post r) (fun u t => gB (dC, dI) (tyl cI cC cZ cB cJ) A (wd_X3_leanNeeded cI cC cZ cB cJ wJ tX jE mX pD oO oQ eG bZ bD bI aI wD gF nJ nY dQ) t) A
noncomputable abbrev rm_X3_leanNeeded : Room := { frames := 2, cells := 0, slots := 0, locals := 47 }
section S_X3_leanNeeded
variable {p : Program} {l : Launch} {e : Env} {s : State} {m : MethodId} {args : Array Value} {below : List Frame} {meth : Method} {c : Code} {dC : Nat → ClassId} {dI : Nat → Nat → Nat} {cI cC cZ cB cJ : ClassId} {A : Nat → Prop} {wJ tX jE mX pD oO oQ eG : Nat} {bZ bD bI aI : Int32} {wD gF nJ nY dQ : Nat → Int32} {post : Int32 → Prop}
noncomputable def ws_X3_leanNeeded_2 (post : Int32 → Prop) (next : Int32 → Int32 → Int32 → Prop) (wD gF nJ nY dQ : Nat → Int32) (x1 x2 x3 : Int32) : Prop := (30 < x3 → post (-2)) ∧ (¬ 30 < x3 → ∀ v_1 : Int32, v_1 = dQ (0 : Int32).toNatClampNeg → ∀ v_2 : Int32, v_2 = v_1 + x3 → wp_X3_isWithin (fun r_3 => (r_3 = 0 → ∀ v_4 : Int32, v_4 = x3 + 1 → next x1 x2 v_4) ∧ (¬ r_3 = 0 → post x3)) x1 x2 v_2 wD gF nJ nY)
noncomputable def wb_X3_leanNeeded_2 (post : Int32 → Prop) (wD gF nJ nY dQ : Nat → Int32) : Nat → Int32 → Int32 → Int32 → Prop := fun n => Nat.rec (motive := fun _ => Int32 → Int32 → Int32 → Prop) (fun _ _ _ => False) (fun _ ih => ws_X3_leanNeeded_2 post ih wD gF nJ nY dQ) n
set_option maxHeartbeats 4000000 in
set_option maxRecDepth 100000 in
theorem ks_X3_leanNeeded_2 (C0 : gc cX3_leanNeeded (some .int) 4 RX3 (dC, dI) (tyl cI cC cZ cB cJ) A p s m args meth c) {next : Int32 → Int32 → Int32 → Prop} (hKn : ∀ (x1 : Int32) (x2 : Int32) (x3 : Int32) (H : Heap) (locs : List Loc) (ls : Array Slot), next x1 x2 x3 → va_P (dC, dI) classes (wd_X3_leanNeeded cI cC cZ cB cJ wJ tX jE mX pD oO oQ eG bZ bD bI aI wD gF nJ nY dQ) H → va_D A (wd_X3_leanNeeded cI cC cZ cB cJ wJ tX jE mX pD oO oQ eG bZ bD bI aI wD gF nJ nY dQ) → va_S A s.heap H locs → lv_has ls 4 [(0, .ref wJ), (1, .int x1), (2, .int x2), (3, .int x3)] → W p l e rm_X3_leanNeeded s m args below meth c H locs 0 0 (MQ below (q_X3_leanNeeded dC dI cI cC cZ cB cJ A wJ tX jE mX pD oO oQ eG bZ bD bI aI wD gF nJ nY dQ post) args s 0 0 A) (F0 m 2 ls [])) : ∀ (x1 x2 x3 : Int32) (H : Heap) (locs : List Loc) (ls : Array Slot), (ws_X3_leanNeeded_2 post next wD gF nJ nY dQ) x1 x2 x3 → va_P (dC, dI) classes (wd_X3_leanNeeded cI cC cZ cB cJ wJ tX jE mX pD oO oQ eG bZ bD bI aI wD gF nJ nY dQ) H → va_D A (wd_X3_leanNeeded cI cC cZ cB cJ wJ tX jE mX pD oO oQ eG bZ bD bI aI wD gF nJ nY dQ) → va_S A s.heap H locs → lv_has ls 4 [(0, .ref wJ), (1, .int x1), (2, .int x2), (3, .int x3)] → W p l e rm_X3_leanNeeded s m args below meth c H locs 0 0 (MQ below (q_X3_leanNeeded dC dI cI cC cZ cB cJ A wJ tX jE mX pD oO oQ eG bZ bD bI aI wD gF nJ nY dQ post) args s 0 0 A) (F0 m 2 ls []) := by
  obtain ⟨hx, hb, hr, hml, hown, hts, hlocks, hA, hK, hN, tL, tM, hZL, hTL, hZM, hTM, hZX⟩ := id C0
  intro x1 x2 x3 H locs ls hp hP hD hS hl
  unfold ws_X3_leanNeeded_2 at hp
  refine lv_iload_n hx hb eX3_leanNeeded_0.2.2.1 rfl (lv_at hl 3 rfl) ?_
  refine lv_bipush (v := 30) hx hb eX3_leanNeeded_0.2.2.2.1 bp_30 ?_
  refine lv_icmp_gt (tgt := 33) hx hb eX3_leanNeeded_0.2.2.2.2.1 (by decide) (fun hc => ?_) (fun hc => ?_)
  · have hp := hp.1 hc
    refine lv_bipush (v := (-2)) hx hb eX3_leanNeeded_25.2.2.2.2.1 bp_m2 ?_
    exact W.iret (v := (-2)) hx hb hr (fun t ht hW => ⟨⟨(-2), (), rfl, hp, by rw [ht]; exact hP, va_K.moved hW.alike hK, hD⟩, hS.F ht⟩) hS.2.2 eX3_leanNeeded_25.2.2.2.2.2
  · have hp := hp.2 hc
    refine lv_aload_n hx hb eX3_leanNeeded_0.2.2.2.2.2.1 rfl (lv_at hl 0 rfl) ?_
    refine lv_iload_n hx hb eX3_leanNeeded_0.2.2.2.2.2.2.1 rfl (lv_at hl 1 rfl) ?_
    refine lv_iload_n hx hb eX3_leanNeeded_0.2.2.2.2.2.2.2.1 rfl (lv_at hl 2 rfl) ?_
    refine lv_aload_n hx hb eX3_leanNeeded_0.2.2.2.2.2.2.2.2.1 rfl (lv_at hl 0 rfl) ?_
    refine va_get (D := (dC, dI)) (ci := 3) (v := .ref eG) (C := RX3) (T := TX3) (N := 11) hx hb hts i_X3 hown hK hP 0 rfl rfl 6 (Nat.le_of_ble_eq_true rfl) (hts _ q_225) (fun _ h9 => h9) rfl eX3_leanNeeded_0.2.2.2.2.2.2.2.2.2.1 ?_
    refine lv_iconst (v := 0) hx hb eX3_leanNeeded_0.2.2.2.2.2.2.2.2.2.2.1 ic_0 ?_
    refine va_iald hx hb hK hP 5 0 rfl rfl (g_in rfl) eX3_leanNeeded_0.2.2.2.2.2.2.2.2.2.2.2.1 ?_
    refine lv_topi (fun v_1 ev_1 => ?_)
    have hp := hp v_1 ev_1
    refine lv_iload_n hx hb eX3_leanNeeded_0.2.2.2.2.2.2.2.2.2.2.2.2.1 rfl (lv_at hl 3 rfl) ?_
    refine lv_iadd hx hb eX3_leanNeeded_0.2.2.2.2.2.2.2.2.2.2.2.2.2.1 ?_
    refine lv_topi (fun v_2 ev_2 => ?_)
    have hp := hp v_2 ev_2
    have hm := mgk (wc := (wd_X3_isWithin cI cC cZ cB cJ wJ tX jE mX pD oO oQ eG bZ bD bI aI wD gF nJ nY)) hP mk_122 6 rfl rfl rfl
    refine g_calli hP hD hS hA (mixT mk_122) (mixF mk_122) hm.1 hm.2 (nd_F _) (dis_g _) (g_runV (As := [.int x1, .int x2, .int v_2]) (rest := []) C0 hP hD hS (mixT mk_122) hm.1 (nd_T _) 0 3 rfl rfl (c_X3_isWithin l dC dI cI cC cZ cB cJ wJ tX jE mX pD oO oQ eG H.size x1 x2 v_2 bZ bD bI aI wD gF nJ nY _ hp) q_316 q_338 q_317 q_318 q_48 h_X3_isWithin rfl rfl ⟨Nat.le_of_ble_eq_true rfl, Nat.le_of_ble_eq_true rfl⟩ rfl rfl hl.1 rfl (lv_room (Nat.le_of_ble_eq_true rfl)) eX3_leanNeeded_0.2.2.2.2.2.2.2.2.2.2.2.2.2.2.1 ⟨Nat.zero_le _, Nat.zero_le _⟩) (fun r_3 u H locs hp hP hD hS => ?_)
    have hPD := PDm (ws' := (wd_X3_leanNeeded cI cC cZ cB cJ wJ tX jE mX pD oO oQ eG bZ bD bI aI wD gF nJ nY dQ)) hP hD 6 rfl rfl rfl
    have hP := hPD.1
    have hD := hPD.2
    refine lv_if_eq (tgt := 27) hx hb eX3_leanNeeded_0.2.2.2.2.2.2.2.2.2.2.2.2.2.2.2 (by decide) (fun hc => ?_) (fun hc => ?_)
    · have hp := hp.1 hc
      obtain ⟨v_4, ev_4⟩ : ∃ y : Int32, y = x3 + 1 := ⟨_, rfl⟩
      refine lv_iinc (v := v_4) (lv' := [(3, .int v_4), (0, .ref wJ), (1, .int x1), (2, .int x2)]) hx hb eX3_leanNeeded_25.2.2.1 hl (k := 3) rfl (by rw [ev_4]; rfl) (by decide) rfl (fun ls hl => ?_)
      have hp := hp v_4 ev_4
      refine lv_goto (tgt := 2) hx hb eX3_leanNeeded_25.2.2.2.1 (by decide) ?_
      exact hKn x1 x2 v_4 H locs ls hp hP hD hS (lv_sub hl [1, 2, 3, 0] rfl)
    · have hp := hp.2 hc
      refine lv_iload_n hx hb eX3_leanNeeded_25.1 rfl (lv_at hl 3 rfl) ?_
      exact W.iret (v := x3) hx hb hr (fun t ht hW => ⟨⟨x3, (), rfl, hp, by rw [ht]; exact hP, va_K.moved hW.alike hK, hD⟩, hS.F ht⟩) hS.2.2 eX3_leanNeeded_25.2.1
set_option maxHeartbeats 4000000 in
set_option maxRecDepth 100000 in
theorem kb_X3_leanNeeded_2 (C0 : gc cX3_leanNeeded (some .int) 4 RX3 (dC, dI) (tyl cI cC cZ cB cJ) A p s m args meth c) : ∀ (n : Nat), ∀ (x1 x2 x3 : Int32) (H : Heap) (locs : List Loc) (ls : Array Slot), (wb_X3_leanNeeded_2 post wD gF nJ nY dQ n) x1 x2 x3 → va_P (dC, dI) classes (wd_X3_leanNeeded cI cC cZ cB cJ wJ tX jE mX pD oO oQ eG bZ bD bI aI wD gF nJ nY dQ) H → va_D A (wd_X3_leanNeeded cI cC cZ cB cJ wJ tX jE mX pD oO oQ eG bZ bD bI aI wD gF nJ nY dQ) → va_S A s.heap H locs → lv_has ls 4 [(0, .ref wJ), (1, .int x1), (2, .int x2), (3, .int x3)] → W p l e rm_X3_leanNeeded s m args below meth c H locs 0 0 (MQ below (q_X3_leanNeeded dC dI cI cC cZ cB cJ A wJ tX jE mX pD oO oQ eG bZ bD bI aI wD gF nJ nY dQ post) args s 0 0 A) (F0 m 2 ls []) := by
  intro n
  induction n with
  | zero =>
    intro x1 x2 x3 H locs ls hp
    exact False.elim hp
  | succ n ih =>
    intro x1 x2 x3 H locs ls hp
    exact ks_X3_leanNeeded_2 C0 ih x1 x2 x3 H locs ls hp
end S_X3_leanNeeded
noncomputable def wp_X3_leanNeeded (post : Int32 → Prop) (p0 p1 : Int32) (wD gF nJ nY dQ : Nat → Int32) : Prop := ∃ n : Nat, wb_X3_leanNeeded_2 post wD gF nJ nY dQ n p0 p1 0
set_option maxHeartbeats 4000000 in
set_option maxRecDepth 100000 in
theorem c_X3_leanNeeded (l : Launch) (dC : Nat → ClassId) (dI : Nat → Nat → Nat) (cI cC cZ cB cJ : ClassId) (wJ tX jE mX pD oO oQ eG sz : Nat) (p0 p1 bZ bD bI aI : Int32) (wD gF nJ nY dQ : Nat → Int32) (post : Int32 → Prop) (hw : wp_X3_leanNeeded post p0 p1 wD gF nJ nY dQ) : Met l yX3_leanNeeded (gw yX3_leanNeeded cX3_leanNeeded 4 (some .int)) rm_X3_leanNeeded (va_Pc [.ref wJ, .int p0, .int p1] (gPre (dC, dI) (tyl cI cC cZ cB cJ) (wd_X3_leanNeeded cI cC cZ cB cJ wJ tX jE mX pD oO oQ eG bZ bD bI aI wD gF nJ nY dQ) sz)) (q_X3_leanNeeded dC dI cI cC cZ cB cJ (va_A (wd_X3_leanNeeded cI cC cZ cB cJ wJ tX jE mX pD oO oQ eG bZ bD bI aI wD gF nJ nY dQ) sz) wJ tX jE mX pD oO oQ eG bZ bD bI aI wD gF nJ nY dQ post) 0 0 (va_A (wd_X3_leanNeeded cI cC cZ cB cJ wJ tX jE mX pD oO oQ eG bZ bD bI aI wD gF nJ nY dQ) sz) := by
  refine g_enter (own := RX3) (dC, dI) (tyl cI cC cZ cB cJ) (wd_X3_leanNeeded cI cC cZ cB cJ wJ tX jE mX pD oO oQ eG bZ bD bI aI wD gF nJ nY dQ) sz [.ref wJ, .int p0, .int p1] (fun A => q_X3_leanNeeded dC dI cI cC cZ cB cJ A wJ tX jE mX pD oO oQ eG bZ bD bI aI wD gF nJ nY dQ post) pn_RX3 rfl (Nat.le_of_ble_eq_true rfl) ?_
  intro p e s m args below meth c A H locs ls C0 hP hD hS hl
  have hl : lv_has ls 4 [(0, .ref wJ), (1, .int p0), (2, .int p1)] := hl
  obtain ⟨hx, hb, hr, hml, hown, hts, hlocks, hA, hK, hN, tL, tM, hZL, hTL, hZM, hTM, hZX⟩ := id C0
  have hp := hw
  unfold wp_X3_leanNeeded at hp
  refine lv_iconst (v := 0) hx hb eX3_leanNeeded_0.1 ic_0 ?_
  refine lv_istore_n (lv' := [(3, .int 0), (0, .ref wJ), (1, .int p0), (2, .int p1)]) hx hb eX3_leanNeeded_0.2.1 rfl hl (by decide) rfl (fun ls hl => ?_)
  obtain ⟨n9, hp⟩ := hp
  exact kb_X3_leanNeeded_2 C0 n9 p0 p1 0 H locs ls hp hP hD hS (lv_sub hl [1, 2, 3, 0] rfl)
noncomputable abbrev wd_X9_nearest (cI cC cZ cB cJ : ClassId) (a_x xG xD wY wJ wQ xI xK xJ tW tX jE mX pD oO oQ eG qT : Nat) (bZ bD bI aI : Int32) (wD gF nJ nY dQ : Nat → Int32) (qF : Int32) (jJ : Nat → Int32) : va_W := [(a_x, .inr (9, [.ref xG, .ref xD, .ref wY, .ref wJ, .ref wQ, .ref xI, .ref xK, .ref xJ, .ref tW])), (wJ, .inr (3, [.ref tX, .ref jE, .ref mX, .ref pD, .ref oO, .ref oQ, .ref eG, .int bZ, .int bD, .int bI, .int aI])), (tX, .inl (cI, 16, .inl wD)), (jE, .inl (cI, 16, .inl gF)), (oO, .inl (cI, 8, .inl nJ)), (oQ, .inl (cI, 8, .inl nY)), (eG, .inl (cI, 5, .inl dQ)), (xK, .inr (6, [.ref qT, .int qF])), (qT, .inl (cI, 16, .inl jJ))]
noncomputable abbrev q_X9_nearest (dC : Nat → ClassId) (dI : Nat → Nat → Nat) (cI cC cZ cB cJ : ClassId) (A : Nat → Prop) (a_x xG xD wY wJ wQ xI xK xJ tW tX jE mX pD oO oQ eG qT : Nat) (bZ bD bI aI : Int32) (wD gF nJ nY dQ : Nat → Int32) (post : Int32 → Int32 → (Nat → Int32) → Prop) : Array Value → State → Outcome → State → Prop := va_Qi (fun (r : Int32) (u : Int32 × (Nat → Int32)) => post r u.1 u.2) (fun u t => gB (dC, dI) (tyl cI cC cZ cB cJ) A (wd_X9_nearest cI cC cZ cB cJ a_x xG xD wY wJ wQ xI xK xJ tW tX jE mX pD oO oQ eG qT bZ bD bI aI wD gF nJ nY dQ u.1 u.2) t) A
noncomputable abbrev rm_X9_nearest : Room := { frames := 3, cells := 0, slots := 0, locals := 70 }
section S_X9_nearest
variable {p : Program} {l : Launch} {e : Env} {s : State} {m : MethodId} {args : Array Value} {below : List Frame} {meth : Method} {c : Code} {dC : Nat → ClassId} {dI : Nat → Nat → Nat} {cI cC cZ cB cJ : ClassId} {A : Nat → Prop} {a_x xG xD wY wJ wQ xI xK xJ tW tX jE mX pD oO oQ eG qT : Nat} {bZ bD bI aI : Int32} {wD gF nJ nY dQ : Nat → Int32} {post : Int32 → Int32 → (Nat → Int32) → Prop}
noncomputable def ws_X9_nearest_63 (post : Int32 → Int32 → (Nat → Int32) → Prop) (K22 : Int32 → Int32 → Int32 → Int32 → Int32 → (Nat → Int32) → Prop) (bZ bD : Int32) (wD gF nJ nY dQ : Nat → Int32) (x1 x2 x3 x4 qF : Int32) (jJ : Nat → Int32) : Prop := ∀ v_5 : Int32, v_5 = x4 + 1 → K22 x1 x2 x3 v_5 qF jJ
set_option maxHeartbeats 4000000 in
set_option maxRecDepth 100000 in
theorem ks_X9_nearest_63 (C0 : gc cX9_nearest (some .int) 6 RX9 (dC, dI) (tyl cI cC cZ cB cJ) A p s m args meth c) {K22 : Int32 → Int32 → Int32 → Int32 → Int32 → (Nat → Int32) → Prop} (hK22 : ∀ (x1 : Int32) (x2 : Int32) (x3 : Int32) (x4 : Int32) (qF : Int32) (jJ : Nat → Int32) (H : Heap) (locs : List Loc) (ls : Array Slot), K22 x1 x2 x3 x4 qF jJ → va_P (dC, dI) classes (wd_X9_nearest cI cC cZ cB cJ a_x xG xD wY wJ wQ xI xK xJ tW tX jE mX pD oO oQ eG qT bZ bD bI aI wD gF nJ nY dQ qF jJ) H → va_D A (wd_X9_nearest cI cC cZ cB cJ a_x xG xD wY wJ wQ xI xK xJ tW tX jE mX pD oO oQ eG qT bZ bD bI aI wD gF nJ nY dQ qF jJ) → va_S A s.heap H locs → lv_has ls 6 [(0, .ref a_x), (1, .int x1), (2, .int x2), (3, .int x3), (4, .int x4)] → W p l e rm_X9_nearest s m args below meth c H locs 0 0 (MQ below (q_X9_nearest dC dI cI cC cZ cB cJ A a_x xG xD wY wJ wQ xI xK xJ tW tX jE mX pD oO oQ eG qT bZ bD bI aI wD gF nJ nY dQ post) args s 0 0 A) (F0 m 22 ls [])) : ∀ (x1 x2 x3 x4 qF : Int32) (jJ : Nat → Int32) (H : Heap) (locs : List Loc) (ls : Array Slot), (ws_X9_nearest_63 post K22 bZ bD wD gF nJ nY dQ) x1 x2 x3 x4 qF jJ → va_P (dC, dI) classes (wd_X9_nearest cI cC cZ cB cJ a_x xG xD wY wJ wQ xI xK xJ tW tX jE mX pD oO oQ eG qT bZ bD bI aI wD gF nJ nY dQ qF jJ) H → va_D A (wd_X9_nearest cI cC cZ cB cJ a_x xG xD wY wJ wQ xI xK xJ tW tX jE mX pD oO oQ eG qT bZ bD bI aI wD gF nJ nY dQ qF jJ) → va_S A s.heap H locs → lv_has ls 6 [(0, .ref a_x), (1, .int x1), (2, .int x2), (3, .int x3), (4, .int x4)] → W p l e rm_X9_nearest s m args below meth c H locs 0 0 (MQ below (q_X9_nearest dC dI cI cC cZ cB cJ A a_x xG xD wY wJ wQ xI xK xJ tW tX jE mX pD oO oQ eG qT bZ bD bI aI wD gF nJ nY dQ post) args s 0 0 A) (F0 m 63 ls []) := by
  obtain ⟨hx, hb, hr, hml, hown, hts, hlocks, hA, hK, hN, tL, tM, hZL, hTL, hZM, hTM, hZX⟩ := id C0
  intro x1 x2 x3 x4 qF jJ H locs ls hp hP hD hS hl
  unfold ws_X9_nearest_63 at hp
  obtain ⟨v_5, ev_5⟩ : ∃ y : Int32, y = x4 + 1 := ⟨_, rfl⟩
  refine lv_iinc (v := v_5) (lv' := [(4, .int v_5), (0, .ref a_x), (1, .int x1), (2, .int x2), (3, .int x3)]) hx hb eX9_nearest_62.2.1 hl (k := 4) rfl (by rw [ev_5]; rfl) (by decide) rfl (fun ls hl => ?_)
  have hp := hp v_5 ev_5
  refine lv_goto (tgt := 22) hx hb eX9_nearest_62.2.2.1 (by decide) ?_
  exact hK22 x1 x2 x3 v_5 qF jJ H locs ls hp hP hD hS (lv_sub hl [1, 2, 3, 4, 0] rfl)
noncomputable def ws_X9_nearest_22 (post : Int32 → Int32 → (Nat → Int32) → Prop) (next : Int32 → Int32 → Int32 → Int32 → Int32 → (Nat → Int32) → Prop) (bZ bD : Int32) (wD gF nJ nY dQ : Nat → Int32) (x1 x2 x3 x4 qF : Int32) (jJ : Nat → Int32) : Prop := (bD ≤ x4 → (x2 < 0 → post x2 qF jJ) ∧ (¬ x2 < 0 → wp_X9_tell (fun aAO aAD => post x2 aAO aAD) x3 qF jJ)) ∧ (¬ bD ≤ x4 → wp_X3_leanNeeded (fun r_4 => (r_4 < 0 → ws_X9_nearest_63 post next bZ bD wD gF nJ nY dQ x1 x2 x3 x4 qF jJ) ∧ (¬ r_4 < 0 → (x3 ≤ r_4 → ws_X9_nearest_63 post next bZ bD wD gF nJ nY dQ x1 x2 x3 x4 qF jJ) ∧ (¬ x3 ≤ r_4 → ws_X9_nearest_63 post next bZ bD wD gF nJ nY dQ x1 x4 r_4 x4 qF jJ))) x1 x4 wD gF nJ nY dQ)
noncomputable def wb_X9_nearest_22 (post : Int32 → Int32 → (Nat → Int32) → Prop) (bZ bD : Int32) (wD gF nJ nY dQ : Nat → Int32) : Nat → Int32 → Int32 → Int32 → Int32 → Int32 → (Nat → Int32) → Prop := fun n => Nat.rec (motive := fun _ => Int32 → Int32 → Int32 → Int32 → Int32 → (Nat → Int32) → Prop) (fun _ _ _ _ _ _ => False) (fun _ ih => ws_X9_nearest_22 post ih bZ bD wD gF nJ nY dQ) n
set_option maxHeartbeats 4000000 in
set_option maxRecDepth 100000 in
theorem ks_X9_nearest_22 (C0 : gc cX9_nearest (some .int) 6 RX9 (dC, dI) (tyl cI cC cZ cB cJ) A p s m args meth c) {next : Int32 → Int32 → Int32 → Int32 → Int32 → (Nat → Int32) → Prop} (hKn : ∀ (x1 : Int32) (x2 : Int32) (x3 : Int32) (x4 : Int32) (qF : Int32) (jJ : Nat → Int32) (H : Heap) (locs : List Loc) (ls : Array Slot), next x1 x2 x3 x4 qF jJ → va_P (dC, dI) classes (wd_X9_nearest cI cC cZ cB cJ a_x xG xD wY wJ wQ xI xK xJ tW tX jE mX pD oO oQ eG qT bZ bD bI aI wD gF nJ nY dQ qF jJ) H → va_D A (wd_X9_nearest cI cC cZ cB cJ a_x xG xD wY wJ wQ xI xK xJ tW tX jE mX pD oO oQ eG qT bZ bD bI aI wD gF nJ nY dQ qF jJ) → va_S A s.heap H locs → lv_has ls 6 [(0, .ref a_x), (1, .int x1), (2, .int x2), (3, .int x3), (4, .int x4)] → W p l e rm_X9_nearest s m args below meth c H locs 0 0 (MQ below (q_X9_nearest dC dI cI cC cZ cB cJ A a_x xG xD wY wJ wQ xI xK xJ tW tX jE mX pD oO oQ eG qT bZ bD bI aI wD gF nJ nY dQ post) args s 0 0 A) (F0 m 22 ls [])) : ∀ (x1 x2 x3 x4 qF : Int32) (jJ : Nat → Int32) (H : Heap) (locs : List Loc) (ls : Array Slot), (ws_X9_nearest_22 post next bZ bD wD gF nJ nY dQ) x1 x2 x3 x4 qF jJ → va_P (dC, dI) classes (wd_X9_nearest cI cC cZ cB cJ a_x xG xD wY wJ wQ xI xK xJ tW tX jE mX pD oO oQ eG qT bZ bD bI aI wD gF nJ nY dQ qF jJ) H → va_D A (wd_X9_nearest cI cC cZ cB cJ a_x xG xD wY wJ wQ xI xK xJ tW tX jE mX pD oO oQ eG qT bZ bD bI aI wD gF nJ nY dQ qF jJ) → va_S A s.heap H locs → lv_has ls 6 [(0, .ref a_x), (1, .int x1), (2, .int x2), (3, .int x3), (4, .int x4)] → W p l e rm_X9_nearest s m args below meth c H locs 0 0 (MQ below (q_X9_nearest dC dI cI cC cZ cB cJ A a_x xG xD wY wJ wQ xI xK xJ tW tX jE mX pD oO oQ eG qT bZ bD bI aI wD gF nJ nY dQ post) args s 0 0 A) (F0 m 22 ls []) := by
  obtain ⟨hx, hb, hr, hml, hown, hts, hlocks, hA, hK, hN, tL, tM, hZL, hTL, hZM, hTM, hZX⟩ := id C0
  intro x1 x2 x3 x4 qF jJ H locs ls hp hP hD hS hl
  unfold ws_X9_nearest_22 at hp
  refine lv_iload hx hb eX9_nearest_0.2.2.2.2.2.2.2.2.2.2.2.2.2.1 (lv_at hl 4 rfl) ?_
  refine lv_aload_n hx hb eX9_nearest_0.2.2.2.2.2.2.2.2.2.2.2.2.2.2.1 rfl (lv_at hl 0 rfl) ?_
  refine va_get (D := (dC, dI)) (ci := 9) (v := .ref wJ) (C := RX9) (T := TX9) (N := 9) hx hb hts i_X9 hown hK hP 0 rfl rfl 3 (Nat.le_of_ble_eq_true rfl) (hts _ q_74) (fun _ h9 => h9) rfl eX9_nearest_0.2.2.2.2.2.2.2.2.2.2.2.2.2.2.2 ?_
  refine va_get (D := (dC, dI)) (ci := 3) (v := .int bD) (C := RX3) (T := TX3) (N := 11) hx hb hts i_X3 hown hK hP 1 rfl rfl 8 (Nat.le_of_ble_eq_true rfl) (hts _ q_415) (fun _ h9 => h9) rfl eX9_nearest_28.1 ?_
  refine lv_icmp_ge (tgt := 69) hx hb eX9_nearest_28.2.1 (by decide) (fun hc => ?_) (fun hc => ?_)
  · have hp := hp.1 hc
    refine lv_iload_n hx hb eX9_nearest_62.2.2.2.1 rfl (lv_at hl 2 rfl) ?_
    refine lv_if_lt (tgt := 78) hx hb eX9_nearest_62.2.2.2.2.1 (by decide) (fun hc => ?_) (fun hc => ?_)
    · have hp := hp.1 hc
      refine lv_iload_n hx hb eX9_nearest_62.2.2.2.2.2.2.2.2.1 rfl (lv_at hl 2 rfl) ?_
      exact W.iret (v := x2) hx hb hr (fun t ht hW => ⟨⟨x2, (qF, jJ), rfl, hp, by rw [ht]; exact hP, va_K.moved hW.alike hK, hD⟩, hS.F ht⟩) hS.2.2 eX9_nearest_62.2.2.2.2.2.2.2.2.2
    · have hp := hp.2 hc
      refine lv_aload_n hx hb eX9_nearest_62.2.2.2.2.2.1 rfl (lv_at hl 0 rfl) ?_
      refine lv_iload_n hx hb eX9_nearest_62.2.2.2.2.2.2.1 rfl (lv_at hl 3 rfl) ?_
      have hm := mgk (wc := (wd_X9_tell cI cC cZ cB cJ a_x xG xD wY wJ wQ xI xK xJ tW qT qF jJ)) hP mk_98 9 rfl rfl rfl
      refine g_callv hP hD hS hA (mixT mk_98) (mixF mk_98) hm.1 hm.2 (nd_F _) (dis_g _) (g_runV (As := [.int x3]) (rest := []) C0 hP hD hS (mixT mk_98) hm.1 (nd_T _) 0 9 rfl rfl (c_X9_tell l dC dI cI cC cZ cB cJ a_x xG xD wY wJ wQ xI xK xJ tW qT H.size x3 qF jJ _ hp) q_373 q_376 q_374 q_375 q_256 h_X9_tell rfl rfl ⟨Nat.le_of_ble_eq_true rfl, Nat.le_of_ble_eq_true rfl⟩ rfl rfl hl.1 rfl (lv_room (Nat.le_of_ble_eq_true rfl)) eX9_nearest_62.2.2.2.2.2.2.2.1 ⟨Nat.zero_le _, Nat.zero_le _⟩) (fun u H locs hp hP hD hS => ?_)
      obtain ⟨aAO, aAD⟩ := u
      have hPD := PDm (ws' := (wd_X9_nearest cI cC cZ cB cJ a_x xG xD wY wJ wQ xI xK xJ tW tX jE mX pD oO oQ eG qT bZ bD bI aI wD gF nJ nY dQ aAO aAD)) hP hD 9 rfl rfl rfl
      have hP := hPD.1
      have hD := hPD.2
      refine lv_iload_n hx hb eX9_nearest_62.2.2.2.2.2.2.2.2.1 rfl (lv_at hl 2 rfl) ?_
      exact W.iret (v := x2) hx hb hr (fun t ht hW => ⟨⟨x2, (aAO, aAD), rfl, hp, by rw [ht]; exact hP, va_K.moved hW.alike hK, hD⟩, hS.F ht⟩) hS.2.2 eX9_nearest_62.2.2.2.2.2.2.2.2.2
  · have hp := hp.2 hc
    refine lv_aload_n hx hb eX9_nearest_28.2.2.1 rfl (lv_at hl 0 rfl) ?_
    refine va_get (D := (dC, dI)) (ci := 9) (v := .ref wJ) (C := RX9) (T := TX9) (N := 9) hx hb hts i_X9 hown hK hP 0 rfl rfl 3 (Nat.le_of_ble_eq_true rfl) (hts _ q_74) (fun _ h9 => h9) rfl eX9_nearest_28.2.2.2.1 ?_
    refine lv_iload_n hx hb eX9_nearest_28.2.2.2.2.1 rfl (lv_at hl 1 rfl) ?_
    refine lv_iload hx hb eX9_nearest_28.2.2.2.2.2.1 (lv_at hl 4 rfl) ?_
    have hm := mgk (wc := (wd_X3_leanNeeded cI cC cZ cB cJ wJ tX jE mX pD oO oQ eG bZ bD bI aI wD gF nJ nY dQ)) hP mk_43 9 rfl rfl rfl
    refine g_calli hP hD hS hA (mixT mk_43) (mixF mk_43) hm.1 hm.2 (nd_F _) (dis_g _) (g_runV (As := [.int x1, .int x4]) (rest := []) C0 hP hD hS (mixT mk_43) hm.1 (nd_T _) 1 3 rfl rfl (c_X3_leanNeeded l dC dI cI cC cZ cB cJ wJ tX jE mX pD oO oQ eG H.size x1 x4 bZ bD bI aI wD gF nJ nY dQ _ hp) q_453 q_456 q_454 q_455 q_48 h_X3_leanNeeded rfl rfl ⟨Nat.le_of_ble_eq_true rfl, Nat.le_of_ble_eq_true rfl⟩ rfl rfl hl.1 rfl (lv_room (Nat.le_of_ble_eq_true rfl)) eX9_nearest_28.2.2.2.2.2.2.1 ⟨Nat.zero_le _, Nat.zero_le _⟩) (fun r_4 u H locs hp hP hD hS => ?_)
    have hPD := PDm (ws' := (wd_X9_nearest cI cC cZ cB cJ a_x xG xD wY wJ wQ xI xK xJ tW tX jE mX pD oO oQ eG qT bZ bD bI aI wD gF nJ nY dQ qF jJ)) hP hD 9 rfl rfl rfl
    have hP := hPD.1
    have hD := hPD.2
    refine lv_istore (lv' := [(5, .int r_4), (0, .ref a_x), (1, .int x1), (2, .int x2), (3, .int x3), (4, .int x4)]) hx hb eX9_nearest_28.2.2.2.2.2.2.2.1 hl (by decide) rfl (fun ls hl => ?_)
    refine lv_iload hx hb eX9_nearest_28.2.2.2.2.2.2.2.2.1 (lv_at hl 0 rfl) ?_
    refine lv_if_lt (tgt := 63) hx hb eX9_nearest_28.2.2.2.2.2.2.2.2.2.1 (by decide) (fun hc => ?_) (fun hc => ?_)
    · have hp := hp.1 hc
      exact ks_X9_nearest_63 C0 hKn x1 x2 x3 x4 qF jJ H locs ls hp hP hD hS (lv_sub hl [1, 2, 3, 4, 5] rfl)
    · have hp := hp.2 hc
      refine lv_iload hx hb eX9_nearest_28.2.2.2.2.2.2.2.2.2.2.1 (lv_at hl 0 rfl) ?_
      refine lv_iload_n hx hb eX9_nearest_28.2.2.2.2.2.2.2.2.2.2.2.1 rfl (lv_at hl 4 rfl) ?_
      refine lv_icmp_ge (tgt := 63) hx hb eX9_nearest_28.2.2.2.2.2.2.2.2.2.2.2.2.1 (by decide) (fun hc => ?_) (fun hc => ?_)
      · have hp := hp.1 hc
        exact ks_X9_nearest_63 C0 hKn x1 x2 x3 x4 qF jJ H locs ls hp hP hD hS (lv_sub hl [1, 2, 3, 4, 5] rfl)
      · have hp := hp.2 hc
        refine lv_iload hx hb eX9_nearest_28.2.2.2.2.2.2.2.2.2.2.2.2.2.1 (lv_at hl 5 rfl) ?_
        refine lv_istore_n (lv' := [(2, .int x4), (5, .int r_4), (0, .ref a_x), (1, .int x1), (3, .int x3), (4, .int x4)]) hx hb eX9_nearest_28.2.2.2.2.2.2.2.2.2.2.2.2.2.2.1 rfl hl (by decide) rfl (fun ls hl => ?_)
        refine lv_iload hx hb eX9_nearest_28.2.2.2.2.2.2.2.2.2.2.2.2.2.2.2 (lv_at hl 1 rfl) ?_
        refine lv_istore_n (lv' := [(3, .int r_4), (2, .int x4), (5, .int r_4), (0, .ref a_x), (1, .int x1), (4, .int x4)]) hx hb eX9_nearest_62.1 rfl hl (by decide) rfl (fun ls hl => ?_)
        exact ks_X9_nearest_63 C0 hKn x1 x4 r_4 x4 qF jJ H locs ls hp hP hD hS (lv_sub hl [3, 4, 1, 0, 5] rfl)
set_option maxHeartbeats 4000000 in
set_option maxRecDepth 100000 in
theorem kb_X9_nearest_22 (C0 : gc cX9_nearest (some .int) 6 RX9 (dC, dI) (tyl cI cC cZ cB cJ) A p s m args meth c) : ∀ (n : Nat), ∀ (x1 x2 x3 x4 qF : Int32) (jJ : Nat → Int32) (H : Heap) (locs : List Loc) (ls : Array Slot), (wb_X9_nearest_22 post bZ bD wD gF nJ nY dQ n) x1 x2 x3 x4 qF jJ → va_P (dC, dI) classes (wd_X9_nearest cI cC cZ cB cJ a_x xG xD wY wJ wQ xI xK xJ tW tX jE mX pD oO oQ eG qT bZ bD bI aI wD gF nJ nY dQ qF jJ) H → va_D A (wd_X9_nearest cI cC cZ cB cJ a_x xG xD wY wJ wQ xI xK xJ tW tX jE mX pD oO oQ eG qT bZ bD bI aI wD gF nJ nY dQ qF jJ) → va_S A s.heap H locs → lv_has ls 6 [(0, .ref a_x), (1, .int x1), (2, .int x2), (3, .int x3), (4, .int x4)] → W p l e rm_X9_nearest s m args below meth c H locs 0 0 (MQ below (q_X9_nearest dC dI cI cC cZ cB cJ A a_x xG xD wY wJ wQ xI xK xJ tW tX jE mX pD oO oQ eG qT bZ bD bI aI wD gF nJ nY dQ post) args s 0 0 A) (F0 m 22 ls []) := by
  intro n
  induction n with
  | zero =>
    intro x1 x2 x3 x4 qF jJ H locs ls hp
    exact False.elim hp
  | succ n ih =>
    intro x1 x2 x3 x4 qF jJ H locs ls hp
    exact ks_X9_nearest_22 C0 ih x1 x2 x3 x4 qF jJ H locs ls hp
end S_X9_nearest
noncomputable def wp_X9_nearest (post : Int32 → Int32 → (Nat → Int32) → Prop) (p0 bZ bD : Int32) (wD gF nJ nY dQ : Nat → Int32) (qF : Int32) (jJ : Nat → Int32) : Prop := wp_X3_hasFruit (fun r_1 => (¬ r_1 = 0 → ∃ n : Nat, wb_X9_nearest_22 post bZ bD wD gF nJ nY dQ n p0 (-2) 31 0 qF jJ) ∧ (r_1 = 0 → post (-1) qF jJ)) p0 bZ
set_option maxHeartbeats 4000000 in
set_option maxRecDepth 100000 in
theorem c_X9_nearest (l : Launch) (dC : Nat → ClassId) (dI : Nat → Nat → Nat) (cI cC cZ cB cJ : ClassId) (a_x xG xD wY wJ wQ xI xK xJ tW tX jE mX pD oO oQ eG qT sz : Nat) (p0 bZ bD bI aI : Int32) (wD gF nJ nY dQ : Nat → Int32) (qF : Int32) (jJ : Nat → Int32) (post : Int32 → Int32 → (Nat → Int32) → Prop) (hw : wp_X9_nearest post p0 bZ bD wD gF nJ nY dQ qF jJ) : Met l yX9_nearest (gw yX9_nearest cX9_nearest 6 (some .int)) rm_X9_nearest (va_Pc [.ref a_x, .int p0] (gPre (dC, dI) (tyl cI cC cZ cB cJ) (wd_X9_nearest cI cC cZ cB cJ a_x xG xD wY wJ wQ xI xK xJ tW tX jE mX pD oO oQ eG qT bZ bD bI aI wD gF nJ nY dQ qF jJ) sz)) (q_X9_nearest dC dI cI cC cZ cB cJ (va_A (wd_X9_nearest cI cC cZ cB cJ a_x xG xD wY wJ wQ xI xK xJ tW tX jE mX pD oO oQ eG qT bZ bD bI aI wD gF nJ nY dQ qF jJ) sz) a_x xG xD wY wJ wQ xI xK xJ tW tX jE mX pD oO oQ eG qT bZ bD bI aI wD gF nJ nY dQ post) 0 0 (va_A (wd_X9_nearest cI cC cZ cB cJ a_x xG xD wY wJ wQ xI xK xJ tW tX jE mX pD oO oQ eG qT bZ bD bI aI wD gF nJ nY dQ qF jJ) sz) := by
  refine g_enter (own := RX9) (dC, dI) (tyl cI cC cZ cB cJ) (wd_X9_nearest cI cC cZ cB cJ a_x xG xD wY wJ wQ xI xK xJ tW tX jE mX pD oO oQ eG qT bZ bD bI aI wD gF nJ nY dQ qF jJ) sz [.ref a_x, .int p0] (fun A => q_X9_nearest dC dI cI cC cZ cB cJ A a_x xG xD wY wJ wQ xI xK xJ tW tX jE mX pD oO oQ eG qT bZ bD bI aI wD gF nJ nY dQ post) pn_RX9 rfl (Nat.le_of_ble_eq_true rfl) ?_
  intro p e s m args below meth c A H locs ls C0 hP hD hS hl
  have hl : lv_has ls 6 [(0, .ref a_x), (1, .int p0)] := hl
  obtain ⟨hx, hb, hr, hml, hown, hts, hlocks, hA, hK, hN, tL, tM, hZL, hTL, hZM, hTM, hZX⟩ := id C0
  have hp := hw
  unfold wp_X9_nearest at hp
  refine lv_aload_n hx hb eX9_nearest_0.1 rfl (lv_at hl 0 rfl) ?_
  refine va_get (D := (dC, dI)) (ci := 9) (v := .ref wJ) (C := RX9) (T := TX9) (N := 9) hx hb hts i_X9 hown hK hP 0 rfl rfl 3 (Nat.le_of_ble_eq_true rfl) (hts _ q_74) (fun _ h9 => h9) rfl eX9_nearest_0.2.1 ?_
  refine lv_iload_n hx hb eX9_nearest_0.2.2.1 rfl (lv_at hl 1 rfl) ?_
  have hm := mgk (wc := (wd_X3_hasFruit cI cC cZ cB cJ wJ tX jE mX pD oO oQ eG bZ bD bI aI)) hP mk_95 9 rfl rfl rfl
  refine g_calli hP hD hS hA (mixT mk_95) (mixF mk_95) hm.1 hm.2 (nd_F _) (dis_g _) (g_runV (As := [.int p0]) (rest := []) C0 hP hD hS (mixT mk_95) hm.1 (nd_T _) 1 3 rfl rfl (c_X3_hasFruit l dC dI cI cC cZ cB cJ wJ tX jE mX pD oO oQ eG H.size p0 bZ bD bI aI _ hp) q_171 q_174 q_172 q_173 q_48 h_X3_hasFruit rfl rfl ⟨Nat.le_of_ble_eq_true rfl, Nat.le_of_ble_eq_true rfl⟩ rfl rfl hl.1 rfl (lv_room (Nat.le_of_ble_eq_true rfl)) eX9_nearest_0.2.2.2.1 ⟨Nat.zero_le _, Nat.zero_le _⟩) (fun r_1 u H locs hp hP hD hS => ?_)
  have hPD := PDm (ws' := (wd_X9_nearest cI cC cZ cB cJ a_x xG xD wY wJ wQ xI xK xJ tW tX jE mX pD oO oQ eG qT bZ bD bI aI wD gF nJ nY dQ qF jJ)) hP hD 9 rfl rfl rfl
  have hP := hPD.1
  have hD := hPD.2
  refine lv_if_ne (tgt := 13) hx hb eX9_nearest_0.2.2.2.2.1 (by decide) (fun hc => ?_) (fun hc => ?_)
  · have hp := hp.1 hc
    refine lv_bipush (v := (-2)) hx hb eX9_nearest_0.2.2.2.2.2.2.2.1 bp_m2 ?_
    refine lv_istore_n (lv' := [(2, .int (-2)), (0, .ref a_x), (1, .int p0)]) hx hb eX9_nearest_0.2.2.2.2.2.2.2.2.1 rfl hl (by decide) rfl (fun ls hl => ?_)
    refine lv_bipush (v := 31) hx hb eX9_nearest_0.2.2.2.2.2.2.2.2.2.1 bp_31 ?_
    refine lv_istore_n (lv' := [(3, .int 31), (2, .int (-2)), (0, .ref a_x), (1, .int p0)]) hx hb eX9_nearest_0.2.2.2.2.2.2.2.2.2.2.1 rfl hl (by decide) rfl (fun ls hl => ?_)
    refine lv_iconst (v := 0) hx hb eX9_nearest_0.2.2.2.2.2.2.2.2.2.2.2.1 ic_0 ?_
    refine lv_istore (lv' := [(4, .int 0), (3, .int 31), (2, .int (-2)), (0, .ref a_x), (1, .int p0)]) hx hb eX9_nearest_0.2.2.2.2.2.2.2.2.2.2.2.2.1 hl (by decide) rfl (fun ls hl => ?_)
    obtain ⟨n9, hp⟩ := hp
    exact kb_X9_nearest_22 C0 n9 p0 (-2) 31 0 qF jJ H locs ls hp hP hD hS (lv_sub hl [3, 4, 2, 1, 0] rfl)
  · have hp := hp.2 hc
    refine lv_iconst (v := (-1)) hx hb eX9_nearest_0.2.2.2.2.2.1 ic_m1 ?_
    exact W.iret (v := (-1)) hx hb hr (fun t ht hW => ⟨⟨(-1), (qF, jJ), rfl, hp, by rw [ht]; exact hP, va_K.moved hW.alike hK, hD⟩, hS.F ht⟩) hS.2.2 eX9_nearest_0.2.2.2.2.2.2.1
noncomputable abbrev wd_X5_isEarlier (cI cC cZ cB cJ : ClassId) : va_W := []
noncomputable abbrev q_X5_isEarlier (dC : Nat → ClassId) (dI : Nat → Nat → Nat) (cI cC cZ cB cJ : ClassId) (A : Nat → Prop) (post : Int32 → Prop) : Array Value → State → Outcome → State → Prop := va_Qi (fun (r : Int32) (u : Unit) => post r) (fun u t => gB (dC, dI) (tyl cI cC cZ cB cJ) A (wd_X5_isEarlier cI cC cZ cB cJ) t) A
noncomputable abbrev rm_X5_isEarlier : Room := { frames := 1, cells := 0, slots := 0, locals := 20 }
section S_X5_isEarlier
variable {p : Program} {l : Launch} {e : Env} {s : State} {m : MethodId} {args : Array Value} {below : List Frame} {meth : Method} {c : Code} {dC : Nat → ClassId} {dI : Nat → Nat → Nat} {cI cC cZ cB cJ : ClassId} {A : Nat → Prop} {post : Int32 → Prop}
noncomputable def ws_X5_isEarlier_31 (post : Int32 → Prop) : Prop := post 1
set_option maxHeartbeats 4000000 in
set_option maxRecDepth 100000 in
theorem ks_X5_isEarlier_31 (C0 : gc cX5_isEarlier (some .boolean) 4 RX5 (dC, dI) (tyl cI cC cZ cB cJ) A p s m args meth c) : ∀ (H : Heap) (locs : List Loc) (ls : Array Slot), (ws_X5_isEarlier_31 post) → va_P (dC, dI) classes (wd_X5_isEarlier cI cC cZ cB cJ) H → va_D A (wd_X5_isEarlier cI cC cZ cB cJ) → va_S A s.heap H locs → lv_has ls 4 [] → W p l e rm_X5_isEarlier s m args below meth c H locs 0 0 (MQ below (q_X5_isEarlier dC dI cI cC cZ cB cJ A post) args s 0 0 A) (F0 m 31 ls []) := by
  obtain ⟨hx, hb, hr, hml, hown, hts, hlocks, hA, hK, hN, tL, tM, hZL, hTL, hZM, hTM, hZX⟩ := id C0
  intro H locs ls hp hP hD hS hl
  unfold ws_X5_isEarlier_31 at hp
  refine lv_iconst (v := 1) hx hb eX5_isEarlier_24.2.2.2.2.2.1 ic_1 ?_
  refine lv_goto (tgt := 36) hx hb eX5_isEarlier_24.2.2.2.2.2.2.1 (by decide) ?_
  exact W.zret (v := 1) hx hb hr rfl (fun t ht hW => ⟨⟨1, (), rfl, hp, by rw [ht]; exact hP, va_K.moved hW.alike hK, hD⟩, hS.F ht⟩) hS.2.2 eX5_isEarlier_24.2.2.2.2.2.2.2.2
end S_X5_isEarlier
noncomputable def wp_X5_isEarlier (post : Int32 → Prop) (p0 p1 : Int32) : Prop := wp_J6_bitCount_0f7a4 (fun r_1 => wp_J6_bitCount_0f7a4 (fun r_2 => ∀ v_3 : Int32, v_3 = r_1 - r_2 → ∀ v_4 : Int32, v_4 = p0 ^^^ p1 → (v_3 < 0 → ws_X5_isEarlier_31 post) ∧ (¬ v_3 < 0 → (¬ v_3 = 0 → post 0) ∧ (v_3 = 0 → ∀ v_5 : Int32, v_5 = p0 &&& v_4 → ((v_5 &&& (-v_4)) = 0 → post 0) ∧ (¬ (v_5 &&& (-v_4)) = 0 → ws_X5_isEarlier_31 post)))) p1) p0
set_option maxHeartbeats 4000000 in
set_option maxRecDepth 100000 in
theorem c_X5_isEarlier (l : Launch) (dC : Nat → ClassId) (dI : Nat → Nat → Nat) (cI cC cZ cB cJ : ClassId) (sz : Nat) (p0 p1 : Int32) (post : Int32 → Prop) (hw : wp_X5_isEarlier post p0 p1) : Met l yX5_isEarlier (gw yX5_isEarlier cX5_isEarlier 4 (some .boolean)) rm_X5_isEarlier (va_Pc [.int p0, .int p1] (gPre (dC, dI) (tyl cI cC cZ cB cJ) (wd_X5_isEarlier cI cC cZ cB cJ) sz)) (q_X5_isEarlier dC dI cI cC cZ cB cJ (va_A (wd_X5_isEarlier cI cC cZ cB cJ) sz) post) 0 0 (va_A (wd_X5_isEarlier cI cC cZ cB cJ) sz) := by
  refine g_enter (own := RX5) (dC, dI) (tyl cI cC cZ cB cJ) (wd_X5_isEarlier cI cC cZ cB cJ) sz [.int p0, .int p1] (fun A => q_X5_isEarlier dC dI cI cC cZ cB cJ A post) pn_RX5 rfl (Nat.le_of_ble_eq_true rfl) ?_
  intro p e s m args below meth c A H locs ls C0 hP hD hS hl
  have hl : lv_has ls 4 [(0, .int p0), (1, .int p1)] := hl
  obtain ⟨hx, hb, hr, hml, hown, hts, hlocks, hA, hK, hN, tL, tM, hZL, hTL, hZM, hTM, hZX⟩ := id C0
  have hp := hw
  unfold wp_X5_isEarlier at hp
  refine lv_iload_n hx hb eX5_isEarlier_0.1 rfl (lv_at hl 0 rfl) ?_
  refine g_calli (wc := (wd_J6_bitCount_0f7a4 cI cC cZ cB cJ)) hP hD hS hA [] [] rfl rfl rfl rfl (g_runS (As := [.int p0]) (rest := []) C0 hP hD hS [] rfl rfl (c_J6_bitCount_0f7a4 l dC dI cI cC cZ cB cJ H.size p0 _ hp) q_320 q_457 q_322 q_321 h_J6_bitCount_0f7a4 rfl rfl ⟨Nat.le_of_ble_eq_true rfl, Nat.le_of_ble_eq_true rfl⟩ rfl rfl hl.1 rfl (lv_room (Nat.le_of_ble_eq_true rfl)) eX5_isEarlier_0.2.1 ⟨Nat.zero_le _, Nat.zero_le _⟩) (fun r_1 u H locs hp hP hD hS => ?_)
  refine lv_iload_n hx hb eX5_isEarlier_0.2.2.1 rfl (lv_at hl 1 rfl) ?_
  refine g_calli (wc := (wd_J6_bitCount_0f7a4 cI cC cZ cB cJ)) hP hD hS hA [] [] rfl rfl rfl rfl (g_runS (As := [.int p1]) (rest := [.int r_1]) C0 hP hD hS [] rfl rfl (c_J6_bitCount_0f7a4 l dC dI cI cC cZ cB cJ H.size p1 _ hp) q_320 q_457 q_322 q_321 h_J6_bitCount_0f7a4 rfl rfl ⟨Nat.le_of_ble_eq_true rfl, Nat.le_of_ble_eq_true rfl⟩ rfl rfl hl.1 rfl (lv_room (Nat.le_of_ble_eq_true rfl)) eX5_isEarlier_0.2.2.2.1 ⟨Nat.zero_le _, Nat.zero_le _⟩) (fun r_2 u H locs hp hP hD hS => ?_)
  refine lv_isub hx hb eX5_isEarlier_0.2.2.2.2.1 ?_
  refine lv_topi (fun v_3 ev_3 => ?_)
  have hp := hp v_3 ev_3
  refine lv_istore_n (lv' := [(2, .int v_3), (0, .int p0), (1, .int p1)]) hx hb eX5_isEarlier_0.2.2.2.2.2.1 rfl hl (by decide) rfl (fun ls hl => ?_)
  refine lv_iload_n hx hb eX5_isEarlier_0.2.2.2.2.2.2.1 rfl (lv_at hl 1 rfl) ?_
  refine lv_iload_n hx hb eX5_isEarlier_0.2.2.2.2.2.2.2.1 rfl (lv_at hl 2 rfl) ?_
  refine lv_ixor hx hb eX5_isEarlier_0.2.2.2.2.2.2.2.2.1 ?_
  refine lv_topi (fun v_4 ev_4 => ?_)
  have hp := hp v_4 ev_4
  refine lv_istore_n (lv' := [(3, .int v_4), (2, .int v_3), (0, .int p0), (1, .int p1)]) hx hb eX5_isEarlier_0.2.2.2.2.2.2.2.2.2.1 rfl hl (by decide) rfl (fun ls hl => ?_)
  refine lv_iload_n hx hb eX5_isEarlier_0.2.2.2.2.2.2.2.2.2.2.1 rfl (lv_at hl 1 rfl) ?_
  refine lv_if_lt (tgt := 31) hx hb eX5_isEarlier_0.2.2.2.2.2.2.2.2.2.2.2.1 (by decide) (fun hc => ?_) (fun hc => ?_)
  · have hp := hp.1 hc
    exact ks_X5_isEarlier_31 C0 H locs ls hp hP hD hS (lv_sub hl [] rfl)
  · have hp := hp.2 hc
    refine lv_iload_n hx hb eX5_isEarlier_0.2.2.2.2.2.2.2.2.2.2.2.2.1 rfl (lv_at hl 1 rfl) ?_
    refine lv_if_ne (tgt := 35) hx hb eX5_isEarlier_0.2.2.2.2.2.2.2.2.2.2.2.2.2.1 (by decide) (fun hc => ?_) (fun hc => ?_)
    · have hp := hp.1 hc
      refine lv_iconst (v := 0) hx hb eX5_isEarlier_24.2.2.2.2.2.2.2.1 ic_0 ?_
      exact W.zret (v := 0) hx hb hr rfl (fun t ht hW => ⟨⟨0, (), rfl, hp, by rw [ht]; exact hP, va_K.moved hW.alike hK, hD⟩, hS.F ht⟩) hS.2.2 eX5_isEarlier_24.2.2.2.2.2.2.2.2
    · have hp := hp.2 hc
      refine lv_iload_n hx hb eX5_isEarlier_0.2.2.2.2.2.2.2.2.2.2.2.2.2.2.1 rfl (lv_at hl 2 rfl) ?_
      refine lv_iload_n hx hb eX5_isEarlier_0.2.2.2.2.2.2.2.2.2.2.2.2.2.2.2 rfl (lv_at hl 0 rfl) ?_
      refine lv_iand hx hb eX5_isEarlier_24.1 ?_
      refine lv_topi (fun v_5 ev_5 => ?_)
      have hp := hp v_5 ev_5
      refine lv_iload_n hx hb eX5_isEarlier_24.2.1 rfl (lv_at hl 0 rfl) ?_
      refine lv_ineg hx hb eX5_isEarlier_24.2.2.1 ?_
      refine lv_iand hx hb eX5_isEarlier_24.2.2.2.1 ?_
      refine lv_if_eq (tgt := 35) hx hb eX5_isEarlier_24.2.2.2.2.1 (by decide) (fun hc => ?_) (fun hc => ?_)
      · have hp := hp.1 hc
        refine lv_iconst (v := 0) hx hb eX5_isEarlier_24.2.2.2.2.2.2.2.1 ic_0 ?_
        exact W.zret (v := 0) hx hb hr rfl (fun t ht hW => ⟨⟨0, (), rfl, hp, by rw [ht]; exact hP, va_K.moved hW.alike hK, hD⟩, hS.F ht⟩) hS.2.2 eX5_isEarlier_24.2.2.2.2.2.2.2.2
      · have hp := hp.2 hc
        exact ks_X5_isEarlier_31 C0 H locs ls hp hP hD hS (lv_sub hl [] rfl)
