abbrev wd_X9_sleep (cI cC cZ cB cJ : ClassId) (a_x xI xH xB vI wY xX yA xY uD xO wF uT wD : Nat) (jE eW eY dU fY gJ jG nU pR uM : Int32) (tD : Nat -> Int32) : va_W := [(a_x, .inr (9, [.ref xI, .ref xH, .ref xB, .ref vI, .ref wY, .ref xX, .ref yA, .ref xY, .ref uD])), (xB, .inr (0, [.ref vI, .ref wY, .ref xO])), (wY, .inr (2, [.int jE, .int eW, .int eY, .int dU, .int fY, .int gJ, .int jG, .int nU])), (xX, .inr (4, [.ref wF, .ref uT, .ref wD, .int pR, .int uM])), (wF, .inl (cI, 104, .inl tD))]
abbrev q_X9_sleep (dC : Nat -> ClassId) (dI : Nat -> Nat -> Nat) (cI cC cZ cB cJ : ClassId) (A : Nat -> Prop) (a_x xI xH xB vI wY xX yA xY uD xO wF uT wD : Nat) (eY dU gJ : Int32) (post : Int32 -> Int32 -> Int32 -> Int32 -> Int32 -> Int32 -> Int32 -> Int32 -> (Nat -> Int32) -> Prop) : Array Value -> State -> Outcome -> State -> Prop := va_Qi (fun (r : Int32) (u : Int32 × Int32 × Int32 × Int32 × Int32 × Int32 × Int32 × (Nat -> Int32)) => post r u.1 u.2.1 u.2.2.1 u.2.2.2.1 u.2.2.2.2.1 u.2.2.2.2.2.1 u.2.2.2.2.2.2.1 u.2.2.2.2.2.2.2) (fun u t => gB (dC, dI) (tyl cI cC cZ cB cJ) A (wd_X9_sleep cI cC cZ cB cJ a_x xI xH xB vI wY xX yA xY uD xO wF uT wD u.1 u.2.1 eY dU u.2.2.1 gJ u.2.2.2.1 u.2.2.2.2.1 u.2.2.2.2.2.1 u.2.2.2.2.2.2.1 u.2.2.2.2.2.2.2) t) A
abbrev rm_X9_sleep : Room := { frames := 3, cells := 0, slots := 0, locals := 62 }
def wp_X9_sleep (post : Int32 -> Int32 -> Int32 -> Int32 -> Int32 -> Int32 -> Int32 -> Int32 -> (Nat -> Int32) -> Prop) (jE eW eY dU fY gJ jG nU pR uM : Int32) (tD : Nat -> Int32) : Prop := wp_X4_note (fun aGG => wp_X0_sleepOver (fun r_2 aJy aLG bAu no_today_6 no_clock_7 => aUb (fun r_8 aPK pa_free_10 => post r_8 aJy aLG bAu no_today_6 no_clock_7 aPK pa_free_10 aGG) r_2 pR uM) jE eW fY jG nU) jE eW eY dU fY gJ jG nU uM tD
set_option maxHeartbeats 4000000 in
set_option maxRecDepth 100000 in
theorem c_X9_sleep (l : Launch) (dC : Nat -> ClassId) (dI : Nat -> Nat -> Nat) (cI cC cZ cB cJ : ClassId) (a_x xI xH xB vI wY xX yA xY uD xO wF uT wD sz : Nat) (jE eW eY dU fY gJ jG nU pR uM : Int32) (tD : Nat -> Int32) (post : Int32 -> Int32 -> Int32 -> Int32 -> Int32 -> Int32 -> Int32 -> Int32 -> (Nat -> Int32) -> Prop) (hw : wp_X9_sleep post jE eW eY dU fY gJ jG nU pR uM tD) : Met l yX9_sleep (gw yX9_sleep cX9_sleep 1 (some .int)) rm_X9_sleep (va_Pc [.ref a_x] (gPre (dC, dI) (tyl cI cC cZ cB cJ) (wd_X9_sleep cI cC cZ cB cJ a_x xI xH xB vI wY xX yA xY uD xO wF uT wD jE eW eY dU fY gJ jG nU pR uM tD) sz)) (q_X9_sleep dC dI cI cC cZ cB cJ (va_A (wd_X9_sleep cI cC cZ cB cJ a_x xI xH xB vI wY xX yA xY uD xO wF uT wD jE eW eY dU fY gJ jG nU pR uM tD) sz) a_x xI xH xB vI wY xX yA xY uD xO wF uT wD eY dU gJ post) 0 0 (va_A (wd_X9_sleep cI cC cZ cB cJ a_x xI xH xB vI wY xX yA xY uD xO wF uT wD jE eW eY dU fY gJ jG nU pR uM tD) sz) := by
  refine aBJ (own := RX9) (dC, dI) (tyl cI cC cZ cB cJ) (wd_X9_sleep cI cC cZ cB cJ a_x xI xH xB vI wY xX yA xY uD xO wF uT wD jE eW eY dU fY gJ jG nU pR uM tD) sz [.ref a_x] (fun A => q_X9_sleep dC dI cI cC cZ cB cJ A a_x xI xH xB vI wY xX yA xY uD xO wF uT wD eY dU gJ post) pn_RX9 rfl (lbz rfl) ?_
  intro p e s m args below meth c A H locs ls C0 hP hD hS hl
  have hl : lv_has ls 1 [(0, .ref a_x)] := hl
  obtain ⟨hx, hb, hr, hml, hown, hts, hlocks, hA, hK, hN, tL, tM, hZL, hTL, hZM, hTM, hZX⟩ := id C0
  have hp := hw
  unfold wp_X9_sleep at hp
  refine lv_aload_n hx hb eX9_sleep_0.1 rfl (lv_at hl 0 rfl) ?_
  refine va_get (D := (dC, dI)) (ci := 9) (v := .ref xX) (C := RX9) (T := TX9) (N := 9) hx hb hts aC3 hown hK hP 0 rfl rfl 5 (lbz rfl) (hts _ q_91) (fun _ h9 => h9) rfl eX9_sleep_0.2.1 ?_
  refine lv_aload_n hx hb eX9_sleep_0.2.2.1 rfl (lv_at hl 0 rfl) ?_
  refine va_get (D := (dC, dI)) (ci := 9) (v := .ref wY) (C := RX9) (T := TX9) (N := 9) hx hb hts aC3 hown hK hP 0 rfl rfl 4 (lbz rfl) (hts _ q_179) (fun _ h9 => h9) rfl eX9_sleep_0.2.2.2.1 ?_
  have hm := mgk (wc := (wd_X4_note cI cC cZ cB cJ wY xX wF uT wD jE eW eY dU fY gJ jG nU pR uM tD)) hP mk_22 5 rfl rfl rfl
  refine aBn hP hD hS hA (yS mk_22) (aAi mk_22) hm.1 hm.2 (aAk _) (zW _) (zF (As := [.ref wY]) (rest := []) C0 hP hD hS (yS mk_22) hm.1 (aAl _) 3 4 rfl rfl (c_X4_note l dC dI cI cC cZ cB cJ wY xX wF uT wD H.size jE eW eY dU fY gJ jG nU pR uM tD _ hp) q_247 q_250 q_248 q_249 q_93 h_X4_note rfl rfl ⟨lbz rfl, lbz rfl⟩ rfl rfl hl.1 rfl (lv_room (lbz rfl)) eX9_sleep_0.2.2.2.2.1 ⟨Nat.zero_le _, Nat.zero_le _⟩) (fun u H locs hp hP hD hS => ?_)
  obtain ⟨aGG, rfl⟩ : ∃ z, z = u := ⟨_, rfl⟩
  have hPD := PDm (ws' := (wd_X9_sleep cI cC cZ cB cJ a_x xI xH xB vI wY xX yA xY uD xO wF uT wD jE eW eY dU fY gJ jG nU pR uM aGG)) hP hD 5 rfl rfl rfl
  have hP := hPD.1
  have hD := hPD.2
  refine lv_aload_n hx hb eX9_sleep_0.2.2.2.2.2.1 rfl (lv_at hl 0 rfl) ?_
  refine lv_aload_n hx hb eX9_sleep_0.2.2.2.2.2.2.1 rfl (lv_at hl 0 rfl) ?_
  refine va_get (D := (dC, dI)) (ci := 9) (v := .ref xB) (C := RX9) (T := TX9) (N := 9) hx hb hts aC3 hown hK hP 0 rfl rfl 2 (lbz rfl) (hts _ q_146) (fun _ h9 => h9) rfl eX9_sleep_0.2.2.2.2.2.2.2.1 ?_
  have hm := mgk (wc := (aRo cI cC cZ cB cJ xB vI wY xO jE eW eY dU fY gJ jG nU)) hP mk_45 5 rfl rfl rfl
  refine yW hP hD hS hA (yS mk_45) (aAi mk_45) hm.1 hm.2 (aAk _) (zW _) (zF (As := []) (rest := [.ref a_x]) C0 hP hD hS (yS mk_45) hm.1 (aAl _) 1 0 rfl rfl (c_X0_sleepOver l dC dI cI cC cZ cB cJ xB vI wY xO H.size jE eW eY dU fY gJ jG nU _ hp) q_357 q_360 q_358 q_359 q_187 h_X0_sleepOver rfl rfl ⟨lbz rfl, lbz rfl⟩ rfl rfl hl.1 rfl (lv_room (lbz rfl)) eX9_sleep_0.2.2.2.2.2.2.2.2.1 ⟨Nat.zero_le _, Nat.zero_le _⟩) (fun r_2 u H locs hp hP hD hS => ?_)
  obtain ⟨aJy, aLG, bAu, no_today_6, no_clock_7⟩ := u
  have hPD := PDm (ws' := (wd_X9_sleep cI cC cZ cB cJ a_x xI xH xB vI wY xX yA xY uD xO wF uT wD aJy aLG eY dU bAu gJ no_today_6 no_clock_7 pR uM aGG)) hP hD 5 rfl rfl rfl
  have hP := hPD.1
  have hD := hPD.2
  have hm := mgk (wc := (aUY cI cC cZ cB cJ a_x xI xH xB vI wY xX yA xY uD wF uT wD pR uM)) hP mk_46 5 rfl rfl rfl
  refine yW hP hD hS hA (yS mk_46) (aAi mk_46) hm.1 hm.2 (aAk _) (zW _) (zF (As := [.int r_2]) (rest := []) C0 hP hD hS (yS mk_46) hm.1 (aAl _) 0 9 rfl rfl (c_X9_holdIfDone l dC dI cI cC cZ cB cJ a_x xI xH xB vI wY xX yA xY uD wF uT wD H.size r_2 pR uM _ hp) q_255 q_259 q_257 q_258 aIl h_X9_holdIfDone rfl rfl ⟨lbz rfl, lbz rfl⟩ rfl rfl hl.1 rfl (lv_room (lbz rfl)) eX9_sleep_0.2.2.2.2.2.2.2.2.2.1 ⟨Nat.zero_le _, Nat.zero_le _⟩) (fun r_8 u H locs hp hP hD hS => ?_)
  obtain ⟨aPK, pa_free_10⟩ := u
  have hPD := PDm (ws' := (wd_X9_sleep cI cC cZ cB cJ a_x xI xH xB vI wY xX yA xY uD xO wF uT wD aJy aLG eY dU bAu gJ no_today_6 no_clock_7 aPK pa_free_10 aGG)) hP hD 5 rfl rfl rfl
  have hP := hPD.1
  have hD := hPD.2
  exact W.iret (v := r_8) hx hb hr (fun t ht hW => ⟨⟨r_8, (aJy, aLG, bAu, no_today_6, no_clock_7, aPK, pa_free_10, aGG), rfl, hp, by rw [ht]; exact hP, va_K.moved hW.alike hK, hD⟩, hS.F ht⟩) hS.2.2 eX9_sleep_0.2.2.2.2.2.2.2.2.2.2
abbrev bAv (cI cC cZ cB cJ : ClassId) (a_x xI xH xB vI wY xX yA xY uD xO tJ jJ mY pG pD pE eO uS tX uR rY tY : Nat) (dN bD bJ aI : Int32) (uU gF pL qF mX oE dY : Nat -> Int32) (jE eW eY dU fY gJ jG nU pQ qI sY uG pY nJ : Int32) (qY qU pN : Nat -> Int32) : va_W := [(a_x, .inr (9, [.ref xI, .ref xH, .ref xB, .ref vI, .ref wY, .ref xX, .ref yA, .ref xY, .ref uD])), (xB, .inr (0, [.ref vI, .ref wY, .ref xO])), (vI, .inr (3, [.ref tJ, .ref jJ, .ref mY, .ref pG, .ref pD, .ref pE, .ref eO, .int dN, .int bD, .int bJ, .int aI])), (tJ, .inl (cI, 16, .inl uU)), (jJ, .inl (cI, 16, .inl gF)), (mY, .inl (cI, 16, .inl pL)), (pG, .inl (cI, 16, .inl qF)), (pD, .inl (cI, 8, .inl mX)), (pE, .inl (cI, 8, .inl oE)), (eO, .inl (cI, 5, .inl dY)), (wY, .inr (2, [.int jE, .int eW, .int eY, .int dU, .int fY, .int gJ, .int jG, .int nU])), (xO, .inr (7, [.ref uS, .ref tX, .ref uR, .ref rY, .ref tY, .int pQ, .int qI, .int sY, .int uG, .int pY, .int nJ])), (uS, .inl (cI, 7, .inl qY)), (uR, .inl (cI, 40, .inl qU)), (rY, .inl (cI, 40, .inl pN))]
abbrev q_X9_doAct (dC : Nat -> ClassId) (dI : Nat -> Nat -> Nat) (cI cC cZ cB cJ : ClassId) (A : Nat -> Prop) (a_x xI xH xB vI wY xX yA xY uD xO tJ jJ mY pG pD pE eO uS tX uR rY tY : Nat) (dN bD bJ aI : Int32) (uU gF pL qF mX oE dY : Nat -> Int32) (pQ qI sY uG pY nJ : Int32) (pN : Nat -> Int32) (post : Int32 -> Int32 -> Int32 -> Int32 -> Int32 -> Int32 -> Int32 -> Int32 -> Int32 -> (Nat -> Int32) -> (Nat -> Int32) -> Prop) : Array Value -> State -> Outcome -> State -> Prop := va_Qi (fun (r : Int32) (u : Int32 × Int32 × Int32 × Int32 × Int32 × Int32 × Int32 × Int32 × (Nat -> Int32) × (Nat -> Int32)) => post r u.1 u.2.1 u.2.2.1 u.2.2.2.1 u.2.2.2.2.1 u.2.2.2.2.2.1 u.2.2.2.2.2.2.1 u.2.2.2.2.2.2.2.1 u.2.2.2.2.2.2.2.2.1 u.2.2.2.2.2.2.2.2.2) (fun u t => gB (dC, dI) (tyl cI cC cZ cB cJ) A (bAv cI cC cZ cB cJ a_x xI xH xB vI wY xX yA xY uD xO tJ jJ mY pG pD pE eO uS tX uR rY tY dN bD bJ aI uU gF pL qF mX oE dY u.1 u.2.1 u.2.2.1 u.2.2.2.1 u.2.2.2.2.1 u.2.2.2.2.2.1 u.2.2.2.2.2.2.1 u.2.2.2.2.2.2.2.1 pQ qI sY uG pY nJ u.2.2.2.2.2.2.2.2.1 u.2.2.2.2.2.2.2.2.2 pN) t) A
abbrev rm_X9_doAct : Room := { frames := 5, cells := 0, slots := 0, locals := 116 }
section S_X9_doAct
variable {p : Program} {l : Launch} {e : Env} {s : State} {m : MethodId} {args : Array Value} {below : List Frame} {meth : Method} {c : Code} {dC : Nat -> ClassId} {dI : Nat -> Nat -> Nat} {cI cC cZ cB cJ : ClassId} {A : Nat -> Prop} {a_x xI xH xB vI wY xX yA xY uD xO tJ jJ mY pG pD pE eO uS tX uR rY tY : Nat} {dN bD bJ aI : Int32} {uU gF pL qF mX oE dY : Nat -> Int32} {pQ qI sY uG pY nJ : Int32} {pN : Nat -> Int32} {post : Int32 -> Int32 -> Int32 -> Int32 -> Int32 -> Int32 -> Int32 -> Int32 -> Int32 -> (Nat -> Int32) -> (Nat -> Int32) -> Prop}
def ws_X9_doAct_143 (post : Int32 -> Int32 -> Int32 -> Int32 -> Int32 -> Int32 -> Int32 -> Int32 -> Int32 -> (Nat -> Int32) -> (Nat -> Int32) -> Prop) (dN bD : Int32) (uU gF pL qF mX oE dY : Nat -> Int32) (pQ : Int32) (pN : Nat -> Int32) (jE eW eY dU fY gJ jG nU : Int32) (qY qU : Nat -> Int32) : Prop := wp_X0_sleepOver (fun r_30 no_apron_31 no_basket_32 no_ladder_33 no_today_34 no_clock_35 => post r_30 no_apron_31 no_basket_32 eY dU no_ladder_33 gJ no_today_34 no_clock_35 qY qU) jE eW fY jG nU
set_option maxHeartbeats 4000000 in
set_option maxRecDepth 100000 in
theorem ks_X9_doAct_143 (C0 : gc aHy (some .int) 3 RX9 (dC, dI) (tyl cI cC cZ cB cJ) A p s m args meth c) : ∀ (jE eW eY dU fY gJ jG nU : Int32) (qY qU : Nat -> Int32) (H : Heap) (locs : List Loc) (ls : Array Slot), (ws_X9_doAct_143 post dN bD uU gF pL qF mX oE dY pQ pN) jE eW eY dU fY gJ jG nU qY qU -> va_P (dC, dI) classes (bAv cI cC cZ cB cJ a_x xI xH xB vI wY xX yA xY uD xO tJ jJ mY pG pD pE eO uS tX uR rY tY dN bD bJ aI uU gF pL qF mX oE dY jE eW eY dU fY gJ jG nU pQ qI sY uG pY nJ qY qU pN) H -> va_D A (bAv cI cC cZ cB cJ a_x xI xH xB vI wY xX yA xY uD xO tJ jJ mY pG pD pE eO uS tX uR rY tY dN bD bJ aI uU gF pL qF mX oE dY jE eW eY dU fY gJ jG nU pQ qI sY uG pY nJ qY qU pN) -> va_S A s.heap H locs -> lv_has ls 3 [(0, .ref a_x)] -> W p l e rm_X9_doAct s m args below meth c H locs 0 0 (MQ below (q_X9_doAct dC dI cI cC cZ cB cJ A a_x xI xH xB vI wY xX yA xY uD xO tJ jJ mY pG pD pE eO uS tX uR rY tY dN bD bJ aI uU gF pL qF mX oE dY pQ qI sY uG pY nJ pN post) args s 0 0 A) (F0 m 143 ls []) := by
  obtain ⟨hx, hb, hr, hml, hown, hts, hlocks, hA, hK, hN, tL, tM, hZL, hTL, hZM, hTM, hZX⟩ := id C0
  intro jE eW eY dU fY gJ jG nU qY qU H locs ls hp hP hD hS hl
  unfold ws_X9_doAct_143 at hp
  refine lv_aload_n hx hb eX9_doAct_134.2.2.2.2.2.1 rfl (lv_at hl 0 rfl) ?_
  refine va_get (D := (dC, dI)) (ci := 9) (v := .ref xB) (C := RX9) (T := TX9) (N := 9) hx hb hts aC3 hown hK hP 0 rfl rfl 2 (lbz rfl) (hts _ q_146) (fun _ h9 => h9) rfl eX9_doAct_134.2.2.2.2.2.2.1 ?_
  have hm := mgk (wc := (aRo cI cC cZ cB cJ xB vI wY xO jE eW eY dU fY gJ jG nU)) hP mk_80 15 rfl rfl rfl
  refine yW hP hD hS hA (yS mk_80) (aAi mk_80) hm.1 hm.2 (aAk _) (zW _) (zF (As := []) (rest := []) C0 hP hD hS (yS mk_80) hm.1 (aAl _) 1 0 rfl rfl (c_X0_sleepOver l dC dI cI cC cZ cB cJ xB vI wY xO H.size jE eW eY dU fY gJ jG nU _ hp) q_357 q_360 q_358 q_359 q_187 h_X0_sleepOver rfl rfl ⟨lbz rfl, lbz rfl⟩ rfl rfl hl.1 rfl (lv_room (lbz rfl)) eX9_doAct_134.2.2.2.2.2.2.2.1 ⟨Nat.zero_le _, Nat.zero_le _⟩) (fun r_30 u H locs hp hP hD hS => ?_)
  obtain ⟨no_apron_31, no_basket_32, no_ladder_33, no_today_34, no_clock_35⟩ := u
  have hPD := PDm (ws' := (bAv cI cC cZ cB cJ a_x xI xH xB vI wY xX yA xY uD xO tJ jJ mY pG pD pE eO uS tX uR rY tY dN bD bJ aI uU gF pL qF mX oE dY no_apron_31 no_basket_32 eY dU no_ladder_33 gJ no_today_34 no_clock_35 pQ qI sY uG pY nJ qY qU pN)) hP hD 15 rfl rfl rfl
  have hP := hPD.1
  have hD := hPD.2
  exact W.iret (v := r_30) hx hb hr (fun t ht hW => ⟨⟨r_30, (no_apron_31, no_basket_32, eY, dU, no_ladder_33, gJ, no_today_34, no_clock_35, qY, qU), rfl, hp, by rw [ht]; exact hP, va_K.moved hW.alike hK, hD⟩, hS.F ht⟩) hS.2.2 eX9_doAct_134.2.2.2.2.2.2.2.2
end S_X9_doAct
def wp_X9_doAct (post : Int32 -> Int32 -> Int32 -> Int32 -> Int32 -> Int32 -> Int32 -> Int32 -> Int32 -> (Nat -> Int32) -> (Nat -> Int32) -> Prop) (p0 p1 dN bD : Int32) (uU gF pL qF mX oE dY : Nat -> Int32) (jE eW eY dU fY gJ jG nU pQ : Int32) (qY qU pN : Nat -> Int32) : Prop := (p0 = 97 -> wp_X0_setHelper (fun r_1 no_helper_2 => post r_1 jE eW eY dU fY no_helper_2 jG nU qY qU) 1 gJ) /\ (p0 = 100 -> wp_X0_goDown (fun r_3 no_apron_4 no_basket_5 no_clock_6 => post r_3 no_apron_4 no_basket_5 eY dU fY gJ jG no_clock_6 qY qU) oE jE eW fY nU) /\ (p0 = 104 -> wp_X0_pickFruit (fun r_7 no_apron_8 no_bruised_9 no_clock_10 ru_given_11 ru_stack_12 => post r_7 no_apron_8 eW eY no_bruised_9 fY gJ jG no_clock_10 ru_given_11 ru_stack_12) p1 1 dN uU gF pL qF mX oE dY jE eW eY dU fY gJ jG nU pQ qY qU pN) /\ (p0 = 107 -> wp_X0_shakeTree (fun r_13 no_ground_14 no_bruised_15 no_clock_16 => post r_13 jE eW no_ground_14 no_bruised_15 fY gJ jG no_clock_16 qY qU) dN uU gF qF mX oE dY jE eW eY dU fY gJ jG nU) /\ (p0 = 109 -> wp_X0_setLadder (fun r_17 no_apron_18 no_basket_19 no_ladder_20 no_clock_21 => post r_17 no_apron_18 no_basket_19 eY dU no_ladder_20 gJ jG no_clock_21 qY qU) p1 bD mX oE dY jE eW fY nU) /\ (p0 = 111 -> wp_X0_setHelper (fun r_22 no_helper_23 => post r_22 jE eW eY dU fY no_helper_23 jG nU qY qU) 0 gJ) /\ (p0 = 112 -> wp_X0_pickFruit (fun r_24 no_apron_25 no_bruised_26 no_clock_27 ru_given_28 ru_stack_29 => post r_24 no_apron_25 eW eY no_bruised_26 fY gJ jG no_clock_27 ru_given_28 ru_stack_29) p1 0 dN uU gF pL qF mX oE dY jE eW eY dU fY gJ jG nU pQ qY qU pN) /\ (¬ p0 = 97 -> ¬ p0 = 100 -> ¬ p0 = 104 -> ¬ p0 = 107 -> ¬ p0 = 109 -> ¬ p0 = 111 -> ¬ p0 = 112 -> ws_X9_doAct_143 post dN bD uU gF pL qF mX oE dY pQ pN jE eW eY dU fY gJ jG nU qY qU)
set_option maxHeartbeats 4000000 in
set_option maxRecDepth 100000 in
theorem c_X9_doAct (l : Launch) (dC : Nat -> ClassId) (dI : Nat -> Nat -> Nat) (cI cC cZ cB cJ : ClassId) (a_x xI xH xB vI wY xX yA xY uD xO tJ jJ mY pG pD pE eO uS tX uR rY tY sz : Nat) (p0 p1 dN bD bJ aI : Int32) (uU gF pL qF mX oE dY : Nat -> Int32) (jE eW eY dU fY gJ jG nU pQ qI sY uG pY nJ : Int32) (qY qU pN : Nat -> Int32) (post : Int32 -> Int32 -> Int32 -> Int32 -> Int32 -> Int32 -> Int32 -> Int32 -> Int32 -> (Nat -> Int32) -> (Nat -> Int32) -> Prop) (hw : wp_X9_doAct post p0 p1 dN bD uU gF pL qF mX oE dY jE eW eY dU fY gJ jG nU pQ qY qU pN) : Met l yX9_doAct (gw yX9_doAct aHy 3 (some .int)) rm_X9_doAct (va_Pc [.ref a_x, .int p0, .int p1] (gPre (dC, dI) (tyl cI cC cZ cB cJ) (bAv cI cC cZ cB cJ a_x xI xH xB vI wY xX yA xY uD xO tJ jJ mY pG pD pE eO uS tX uR rY tY dN bD bJ aI uU gF pL qF mX oE dY jE eW eY dU fY gJ jG nU pQ qI sY uG pY nJ qY qU pN) sz)) (q_X9_doAct dC dI cI cC cZ cB cJ (va_A (bAv cI cC cZ cB cJ a_x xI xH xB vI wY xX yA xY uD xO tJ jJ mY pG pD pE eO uS tX uR rY tY dN bD bJ aI uU gF pL qF mX oE dY jE eW eY dU fY gJ jG nU pQ qI sY uG pY nJ qY qU pN) sz) a_x xI xH xB vI wY xX yA xY uD xO tJ jJ mY pG pD pE eO uS tX uR rY tY dN bD bJ aI uU gF pL qF mX oE dY pQ qI sY uG pY nJ pN post) 0 0 (va_A (bAv cI cC cZ cB cJ a_x xI xH xB vI wY xX yA xY uD xO tJ jJ mY pG pD pE eO uS tX uR rY tY dN bD bJ aI uU gF pL qF mX oE dY jE eW eY dU fY gJ jG nU pQ qI sY uG pY nJ qY qU pN) sz) := by
  refine aBJ (own := RX9) (dC, dI) (tyl cI cC cZ cB cJ) (bAv cI cC cZ cB cJ a_x xI xH xB vI wY xX yA xY uD xO tJ jJ mY pG pD pE eO uS tX uR rY tY dN bD bJ aI uU gF pL qF mX oE dY jE eW eY dU fY gJ jG nU pQ qI sY uG pY nJ qY qU pN) sz [.ref a_x, .int p0, .int p1] (fun A => q_X9_doAct dC dI cI cC cZ cB cJ A a_x xI xH xB vI wY xX yA xY uD xO tJ jJ mY pG pD pE eO uS tX uR rY tY dN bD bJ aI uU gF pL qF mX oE dY pQ qI sY uG pY nJ pN post) pn_RX9 rfl (lbz rfl) ?_
  intro p e s m args below meth c A H locs ls C0 hP hD hS hl
  have hl : lv_has ls 3 [(0, .ref a_x), (1, .int p0), (2, .int p1)] := hl
  obtain ⟨hx, hb, hr, hml, hown, hts, hlocks, hA, hK, hN, tL, tM, hZL, hTL, hZM, hTM, hZX⟩ := id C0
  have hp := hw
  unfold wp_X9_doAct at hp
  refine lv_iload_n hx hb aIi.1 rfl (lv_at hl 1 rfl) ?_
  by_cases hc0 : p0 = 97
  · have hp := hp.1 hc0
    refine lv_tableIn (tgt := 125) hx hb aIi.2.1 (by first | (rw [hc0]; done) | (rw [hc0]; decide)) (by first | (rw [hc0]; done) | (rw [hc0]; decide)) (by first | (rw [hc0]; done) | (rw [hc0]; rfl)) (by decide) ?_
    refine lv_aload_n hx hb aTn.2.2.2.2.2.2.2.2.2.2.2.1 rfl (lv_at hl 0 rfl) ?_
    refine va_get (D := (dC, dI)) (ci := 9) (v := .ref xB) (C := RX9) (T := TX9) (N := 9) hx hb hts aC3 hown hK hP 0 rfl rfl 2 (lbz rfl) (hts _ q_146) (fun _ h9 => h9) rfl aTn.2.2.2.2.2.2.2.2.2.2.2.2.1 ?_
    refine lv_iconst (v := 1) hx hb aTn.2.2.2.2.2.2.2.2.2.2.2.2.2.1 aDx ?_
    have hm := mgk (wc := (aY1 cI cC cZ cB cJ xB vI wY xO jE eW eY dU fY gJ jG nU)) hP mk_80 15 rfl rfl rfl
    refine yW hP hD hS hA (yS mk_80) (aAi mk_80) hm.1 hm.2 (aAk _) (zW _) (zF (As := [.int 1]) (rest := []) C0 hP hD hS (yS mk_80) hm.1 (aAl _) 1 0 rfl rfl (c_X0_setHelper l dC dI cI cC cZ cB cJ xB vI wY xO H.size 1 jE eW eY dU fY gJ jG nU _ hp) q_263 q_266 q_264 q_265 q_187 h_X0_setHelper rfl rfl ⟨lbz rfl, lbz rfl⟩ rfl rfl hl.1 rfl (lv_room (lbz rfl)) aTn.2.2.2.2.2.2.2.2.2.2.2.2.2.2.1 ⟨Nat.zero_le _, Nat.zero_le _⟩) (fun r_1 u H locs hp hP hD hS => ?_)
    obtain ⟨no_helper_2, rfl⟩ : ∃ z, z = u := ⟨_, rfl⟩
    have hPD := PDm (ws' := (bAv cI cC cZ cB cJ a_x xI xH xB vI wY xX yA xY uD xO tJ jJ mY pG pD pE eO uS tX uR rY tY dN bD bJ aI uU gF pL qF mX oE dY jE eW eY dU fY no_helper_2 jG nU pQ qI sY uG pY nJ qY qU pN)) hP hD 15 rfl rfl rfl
    have hP := hPD.1
    have hD := hPD.2
    exact W.iret (v := r_1) hx hb hr (fun t ht hW => ⟨⟨r_1, (jE, eW, eY, dU, fY, no_helper_2, jG, nU, qY, qU), rfl, hp, by rw [ht]; exact hP, va_K.moved hW.alike hK, hD⟩, hS.F ht⟩) hS.2.2 aTn.2.2.2.2.2.2.2.2.2.2.2.2.2.2.2
  by_cases hc1 : p0 = 100
  · have hp := hp.2.1 hc1
    refine lv_tableIn (tgt := 109) hx hb aIi.2.1 (by first | (rw [hc1]; done) | (rw [hc1]; decide)) (by first | (rw [hc1]; done) | (rw [hc1]; decide)) (by first | (rw [hc1]; done) | (rw [hc1]; rfl)) (by decide) ?_
    refine lv_aload_n hx hb aTn.2.2.2.1 rfl (lv_at hl 0 rfl) ?_
    refine va_get (D := (dC, dI)) (ci := 9) (v := .ref xB) (C := RX9) (T := TX9) (N := 9) hx hb hts aC3 hown hK hP 0 rfl rfl 2 (lbz rfl) (hts _ q_146) (fun _ h9 => h9) rfl aTn.2.2.2.2.1 ?_
    have hm := mgk (wc := (wd_X0_goDown cI cC cZ cB cJ xB vI wY xO tJ jJ mY pG pD pE eO dN bD bJ aI oE jE eW eY dU fY gJ jG nU)) hP mk_81 15 rfl rfl rfl
    refine yW hP hD hS hA (yS mk_81) (aAi mk_81) hm.1 hm.2 (aAk _) (zW _) (zF (As := []) (rest := []) C0 hP hD hS (yS mk_81) hm.1 (aAl _) 1 0 rfl rfl (c_X0_goDown l dC dI cI cC cZ cB cJ xB vI wY xO tJ jJ mY pG pD pE eO H.size dN bD bJ aI oE jE eW eY dU fY gJ jG nU _ hp) q_334 q_337 q_335 q_336 q_187 h_X0_goDown rfl rfl ⟨lbz rfl, lbz rfl⟩ rfl rfl hl.1 rfl (lv_room (lbz rfl)) aTn.2.2.2.2.2.1 ⟨Nat.zero_le _, Nat.zero_le _⟩) (fun r_3 u H locs hp hP hD hS => ?_)
    obtain ⟨no_apron_4, no_basket_5, no_clock_6⟩ := u
    have hPD := PDm (ws' := (bAv cI cC cZ cB cJ a_x xI xH xB vI wY xX yA xY uD xO tJ jJ mY pG pD pE eO uS tX uR rY tY dN bD bJ aI uU gF pL qF mX oE dY no_apron_4 no_basket_5 eY dU fY gJ jG no_clock_6 pQ qI sY uG pY nJ qY qU pN)) hP hD 15 rfl rfl rfl
    have hP := hPD.1
    have hD := hPD.2
    exact W.iret (v := r_3) hx hb hr (fun t ht hW => ⟨⟨r_3, (no_apron_4, no_basket_5, eY, dU, fY, gJ, jG, no_clock_6, qY, qU), rfl, hp, by rw [ht]; exact hP, va_K.moved hW.alike hK, hD⟩, hS.F ht⟩) hS.2.2 aTn.2.2.2.2.2.2.1
  by_cases hc2 : p0 = 104
  · have hp := hp.2.2.1 hc2
    refine lv_tableIn (tgt := 99) hx hb aIi.2.1 (by first | (rw [hc2]; done) | (rw [hc2]; decide)) (by first | (rw [hc2]; done) | (rw [hc2]; decide)) (by first | (rw [hc2]; done) | (rw [hc2]; rfl)) (by decide) ?_
    refine lv_aload_n hx hb aIi.2.2.2.2.2.2.2.2.2.2.2.2.2.1 rfl (lv_at hl 0 rfl) ?_
    refine va_get (D := (dC, dI)) (ci := 9) (v := .ref xB) (C := RX9) (T := TX9) (N := 9) hx hb hts aC3 hown hK hP 0 rfl rfl 2 (lbz rfl) (hts _ q_146) (fun _ h9 => h9) rfl aIi.2.2.2.2.2.2.2.2.2.2.2.2.2.2.1 ?_
    refine lv_iload_n hx hb aIi.2.2.2.2.2.2.2.2.2.2.2.2.2.2.2 rfl (lv_at hl 2 rfl) ?_
    refine lv_iconst (v := 1) hx hb aTn.1 aDx ?_
    have hm := mgk (wc := (aJE cI cC cZ cB cJ xB vI wY xO tJ jJ mY pG pD pE eO uS tX uR rY tY dN bD bJ aI uU gF pL qF mX oE dY jE eW eY dU fY gJ jG nU pQ qI sY uG pY nJ qY qU pN)) hP mk_82 15 rfl rfl rfl
    refine yW hP hD hS hA (yS mk_82) (aAi mk_82) hm.1 hm.2 (aAk _) (zW _) (zF (As := [.int p1, .int 1]) (rest := []) C0 hP hD hS (yS mk_82) hm.1 (aAl _) 1 0 rfl rfl (c_X0_pickFruit l dC dI cI cC cZ cB cJ xB vI wY xO tJ jJ mY pG pD pE eO uS tX uR rY tY H.size p1 1 dN bD bJ aI uU gF pL qF mX oE dY jE eW eY dU fY gJ jG nU pQ qI sY uG pY nJ qY qU pN _ hp) q_330 q_333 q_331 q_332 q_187 h_X0_pickFruit rfl rfl ⟨lbz rfl, lbz rfl⟩ rfl rfl hl.1 rfl (lv_room (lbz rfl)) aTn.2.1 ⟨Nat.zero_le _, Nat.zero_le _⟩) (fun r_7 u H locs hp hP hD hS => ?_)
    obtain ⟨no_apron_8, no_bruised_9, no_clock_10, ru_given_11, ru_stack_12⟩ := u
    have hPD := PDm (ws' := (bAv cI cC cZ cB cJ a_x xI xH xB vI wY xX yA xY uD xO tJ jJ mY pG pD pE eO uS tX uR rY tY dN bD bJ aI uU gF pL qF mX oE dY no_apron_8 eW eY no_bruised_9 fY gJ jG no_clock_10 pQ qI sY uG pY nJ ru_given_11 ru_stack_12 pN)) hP hD 15 rfl rfl rfl
    have hP := hPD.1
    have hD := hPD.2
    exact W.iret (v := r_7) hx hb hr (fun t ht hW => ⟨⟨r_7, (no_apron_8, eW, eY, no_bruised_9, fY, gJ, jG, no_clock_10, ru_given_11, ru_stack_12), rfl, hp, by rw [ht]; exact hP, va_K.moved hW.alike hK, hD⟩, hS.F ht⟩) hS.2.2 aTn.2.2.1
  by_cases hc3 : p0 = 107
  · have hp := hp.2.2.2.1 hc3
    refine lv_tableIn (tgt := 117) hx hb aIi.2.1 (by first | (rw [hc3]; done) | (rw [hc3]; decide)) (by first | (rw [hc3]; done) | (rw [hc3]; decide)) (by first | (rw [hc3]; done) | (rw [hc3]; rfl)) (by decide) ?_
    refine lv_aload_n hx hb aTn.2.2.2.2.2.2.2.1 rfl (lv_at hl 0 rfl) ?_
    refine va_get (D := (dC, dI)) (ci := 9) (v := .ref xB) (C := RX9) (T := TX9) (N := 9) hx hb hts aC3 hown hK hP 0 rfl rfl 2 (lbz rfl) (hts _ q_146) (fun _ h9 => h9) rfl aTn.2.2.2.2.2.2.2.2.1 ?_
    have hm := mgk (wc := (aGv cI cC cZ cB cJ xB vI wY xO tJ jJ mY pG pD pE eO dN bD bJ aI uU gF qF mX oE dY jE eW eY dU fY gJ jG nU)) hP mk_83 15 rfl rfl rfl
    refine yW hP hD hS hA (yS mk_83) (aAi mk_83) hm.1 hm.2 (aAk _) (zW _) (zF (As := []) (rest := []) C0 hP hD hS (yS mk_83) hm.1 (aAl _) 1 0 rfl rfl (c_X0_shakeTree l dC dI cI cC cZ cB cJ xB vI wY xO tJ jJ mY pG pD pE eO H.size dN bD bJ aI uU gF qF mX oE dY jE eW eY dU fY gJ jG nU _ hp) q_352 q_355 q_353 q_354 q_187 h_X0_shakeTree rfl rfl ⟨lbz rfl, lbz rfl⟩ rfl rfl hl.1 rfl (lv_room (lbz rfl)) aTn.2.2.2.2.2.2.2.2.2.1 ⟨Nat.zero_le _, Nat.zero_le _⟩) (fun r_13 u H locs hp hP hD hS => ?_)
    obtain ⟨no_ground_14, no_bruised_15, no_clock_16⟩ := u
    have hPD := PDm (ws' := (bAv cI cC cZ cB cJ a_x xI xH xB vI wY xX yA xY uD xO tJ jJ mY pG pD pE eO uS tX uR rY tY dN bD bJ aI uU gF pL qF mX oE dY jE eW no_ground_14 no_bruised_15 fY gJ jG no_clock_16 pQ qI sY uG pY nJ qY qU pN)) hP hD 15 rfl rfl rfl
    have hP := hPD.1
    have hD := hPD.2
    exact W.iret (v := r_13) hx hb hr (fun t ht hW => ⟨⟨r_13, (jE, eW, no_ground_14, no_bruised_15, fY, gJ, jG, no_clock_16, qY, qU), rfl, hp, by rw [ht]; exact hP, va_K.moved hW.alike hK, hD⟩, hS.F ht⟩) hS.2.2 aTn.2.2.2.2.2.2.2.2.2.2.1
  by_cases hc4 : p0 = 109
  · have hp := hp.2.2.2.2.1 hc4
    refine lv_tableIn (tgt := 80) hx hb aIi.2.1 (by first | (rw [hc4]; done) | (rw [hc4]; decide)) (by first | (rw [hc4]; done) | (rw [hc4]; decide)) (by first | (rw [hc4]; done) | (rw [hc4]; rfl)) (by decide) ?_
    refine lv_aload_n hx hb aIi.2.2.1 rfl (lv_at hl 0 rfl) ?_
    refine va_get (D := (dC, dI)) (ci := 9) (v := .ref xB) (C := RX9) (T := TX9) (N := 9) hx hb hts aC3 hown hK hP 0 rfl rfl 2 (lbz rfl) (hts _ q_146) (fun _ h9 => h9) rfl aIi.2.2.2.1 ?_
    refine lv_iload_n hx hb aIi.2.2.2.2.1 rfl (lv_at hl 2 rfl) ?_
    have hm := mgk (wc := (aOX cI cC cZ cB cJ xB vI wY xO tJ jJ mY pG pD pE eO dN bD bJ aI mX oE dY jE eW eY dU fY gJ jG nU)) hP mk_84 15 rfl rfl rfl
    refine yW hP hD hS hA (yS mk_84) (aAi mk_84) hm.1 hm.2 (aAk _) (zW _) (zF (As := [.int p1]) (rest := []) C0 hP hD hS (yS mk_84) hm.1 (aAl _) 1 0 rfl rfl (c_X0_setLadder l dC dI cI cC cZ cB cJ xB vI wY xO tJ jJ mY pG pD pE eO H.size p1 dN bD bJ aI mX oE dY jE eW eY dU fY gJ jG nU _ hp) q_251 q_254 q_252 q_253 q_187 h_X0_setLadder rfl rfl ⟨lbz rfl, lbz rfl⟩ rfl rfl hl.1 rfl (lv_room (lbz rfl)) aIi.2.2.2.2.2.1 ⟨Nat.zero_le _, Nat.zero_le _⟩) (fun r_17 u H locs hp hP hD hS => ?_)
    obtain ⟨no_apron_18, no_basket_19, no_ladder_20, no_clock_21⟩ := u
    have hPD := PDm (ws' := (bAv cI cC cZ cB cJ a_x xI xH xB vI wY xX yA xY uD xO tJ jJ mY pG pD pE eO uS tX uR rY tY dN bD bJ aI uU gF pL qF mX oE dY no_apron_18 no_basket_19 eY dU no_ladder_20 gJ jG no_clock_21 pQ qI sY uG pY nJ qY qU pN)) hP hD 15 rfl rfl rfl
    have hP := hPD.1
    have hD := hPD.2
    exact W.iret (v := r_17) hx hb hr (fun t ht hW => ⟨⟨r_17, (no_apron_18, no_basket_19, eY, dU, no_ladder_20, gJ, jG, no_clock_21, qY, qU), rfl, hp, by rw [ht]; exact hP, va_K.moved hW.alike hK, hD⟩, hS.F ht⟩) hS.2.2 aIi.2.2.2.2.2.2.1
  by_cases hc5 : p0 = 111
  · have hp := hp.2.2.2.2.2.1 hc5
    refine lv_tableIn (tgt := 134) hx hb aIi.2.1 (by first | (rw [hc5]; done) | (rw [hc5]; decide)) (by first | (rw [hc5]; done) | (rw [hc5]; decide)) (by first | (rw [hc5]; done) | (rw [hc5]; rfl)) (by decide) ?_
    refine lv_aload_n hx hb eX9_doAct_134.1 rfl (lv_at hl 0 rfl) ?_
    refine va_get (D := (dC, dI)) (ci := 9) (v := .ref xB) (C := RX9) (T := TX9) (N := 9) hx hb hts aC3 hown hK hP 0 rfl rfl 2 (lbz rfl) (hts _ q_146) (fun _ h9 => h9) rfl eX9_doAct_134.2.1 ?_
    refine lv_iconst (v := 0) hx hb eX9_doAct_134.2.2.1 aCi ?_
    have hm := mgk (wc := (aY1 cI cC cZ cB cJ xB vI wY xO jE eW eY dU fY gJ jG nU)) hP mk_80 15 rfl rfl rfl
    refine yW hP hD hS hA (yS mk_80) (aAi mk_80) hm.1 hm.2 (aAk _) (zW _) (zF (As := [.int 0]) (rest := []) C0 hP hD hS (yS mk_80) hm.1 (aAl _) 1 0 rfl rfl (c_X0_setHelper l dC dI cI cC cZ cB cJ xB vI wY xO H.size 0 jE eW eY dU fY gJ jG nU _ hp) q_263 q_266 q_264 q_265 q_187 h_X0_setHelper rfl rfl ⟨lbz rfl, lbz rfl⟩ rfl rfl hl.1 rfl (lv_room (lbz rfl)) eX9_doAct_134.2.2.2.1 ⟨Nat.zero_le _, Nat.zero_le _⟩) (fun r_22 u H locs hp hP hD hS => ?_)
    obtain ⟨no_helper_23, rfl⟩ : ∃ z, z = u := ⟨_, rfl⟩
    have hPD := PDm (ws' := (bAv cI cC cZ cB cJ a_x xI xH xB vI wY xX yA xY uD xO tJ jJ mY pG pD pE eO uS tX uR rY tY dN bD bJ aI uU gF pL qF mX oE dY jE eW eY dU fY no_helper_23 jG nU pQ qI sY uG pY nJ qY qU pN)) hP hD 15 rfl rfl rfl
    have hP := hPD.1
    have hD := hPD.2
    exact W.iret (v := r_22) hx hb hr (fun t ht hW => ⟨⟨r_22, (jE, eW, eY, dU, fY, no_helper_23, jG, nU, qY, qU), rfl, hp, by rw [ht]; exact hP, va_K.moved hW.alike hK, hD⟩, hS.F ht⟩) hS.2.2 eX9_doAct_134.2.2.2.2.1
  by_cases hc6 : p0 = 112
  · have hp := hp.2.2.2.2.2.2.1 hc6
    refine lv_tableIn (tgt := 89) hx hb aIi.2.1 (by first | (rw [hc6]; done) | (rw [hc6]; decide)) (by first | (rw [hc6]; done) | (rw [hc6]; decide)) (by first | (rw [hc6]; done) | (rw [hc6]; rfl)) (by decide) ?_
    refine lv_aload_n hx hb aIi.2.2.2.2.2.2.2.1 rfl (lv_at hl 0 rfl) ?_
    refine va_get (D := (dC, dI)) (ci := 9) (v := .ref xB) (C := RX9) (T := TX9) (N := 9) hx hb hts aC3 hown hK hP 0 rfl rfl 2 (lbz rfl) (hts _ q_146) (fun _ h9 => h9) rfl aIi.2.2.2.2.2.2.2.2.1 ?_
    refine lv_iload_n hx hb aIi.2.2.2.2.2.2.2.2.2.1 rfl (lv_at hl 2 rfl) ?_
    refine lv_iconst (v := 0) hx hb aIi.2.2.2.2.2.2.2.2.2.2.1 aCi ?_
    have hm := mgk (wc := (aJE cI cC cZ cB cJ xB vI wY xO tJ jJ mY pG pD pE eO uS tX uR rY tY dN bD bJ aI uU gF pL qF mX oE dY jE eW eY dU fY gJ jG nU pQ qI sY uG pY nJ qY qU pN)) hP mk_82 15 rfl rfl rfl
    refine yW hP hD hS hA (yS mk_82) (aAi mk_82) hm.1 hm.2 (aAk _) (zW _) (zF (As := [.int p1, .int 0]) (rest := []) C0 hP hD hS (yS mk_82) hm.1 (aAl _) 1 0 rfl rfl (c_X0_pickFruit l dC dI cI cC cZ cB cJ xB vI wY xO tJ jJ mY pG pD pE eO uS tX uR rY tY H.size p1 0 dN bD bJ aI uU gF pL qF mX oE dY jE eW eY dU fY gJ jG nU pQ qI sY uG pY nJ qY qU pN _ hp) q_330 q_333 q_331 q_332 q_187 h_X0_pickFruit rfl rfl ⟨lbz rfl, lbz rfl⟩ rfl rfl hl.1 rfl (lv_room (lbz rfl)) aIi.2.2.2.2.2.2.2.2.2.2.2.1 ⟨Nat.zero_le _, Nat.zero_le _⟩) (fun r_24 u H locs hp hP hD hS => ?_)
    obtain ⟨no_apron_25, no_bruised_26, no_clock_27, ru_given_28, ru_stack_29⟩ := u
    have hPD := PDm (ws' := (bAv cI cC cZ cB cJ a_x xI xH xB vI wY xX yA xY uD xO tJ jJ mY pG pD pE eO uS tX uR rY tY dN bD bJ aI uU gF pL qF mX oE dY no_apron_25 eW eY no_bruised_26 fY gJ jG no_clock_27 pQ qI sY uG pY nJ ru_given_28 ru_stack_29 pN)) hP hD 15 rfl rfl rfl
    have hP := hPD.1
    have hD := hPD.2
    exact W.iret (v := r_24) hx hb hr (fun t ht hW => ⟨⟨r_24, (no_apron_25, eW, eY, no_bruised_26, fY, gJ, jG, no_clock_27, ru_given_28, ru_stack_29), rfl, hp, by rw [ht]; exact hP, va_K.moved hW.alike hK, hD⟩, hS.F ht⟩) hS.2.2 aIi.2.2.2.2.2.2.2.2.2.2.2.2.1
  have hp := hp.2.2.2.2.2.2.2 hc0 hc1 hc2 hc3 hc4 hc5 hc6
  have key : W p l e rm_X9_doAct s m args below meth c H locs 0 0 (MQ below (q_X9_doAct dC dI cI cC cZ cB cJ A a_x xI xH xB vI wY xX yA xY uD xO tJ jJ mY pG pD pE eO uS tX uR rY tY dN bD bJ aI uU gF pL qF mX oE dY pQ qI sY uG pY nJ pN post) args s 0 0 A) (F0 m 143 ls []) := by
    exact ks_X9_doAct_143 C0 jE eW eY dU fY gJ jG nU qY qU H locs ls hp hP hD hS (lv_sub hl [0] rfl)
  by_cases hh0 : p0 = 98
  · exact lv_tableIn (tgt := 143) hx hb aIi.2.1 (by first | (rw [hh0]; done) | (rw [hh0]; decide)) (by first | (rw [hh0]; done) | (rw [hh0]; decide)) (by first | (rw [hh0]; done) | (rw [hh0]; rfl)) (by decide) key
  by_cases hh1 : p0 = 99
  · exact lv_tableIn (tgt := 143) hx hb aIi.2.1 (by first | (rw [hh1]; done) | (rw [hh1]; decide)) (by first | (rw [hh1]; done) | (rw [hh1]; decide)) (by first | (rw [hh1]; done) | (rw [hh1]; rfl)) (by decide) key
  by_cases hh2 : p0 = 101
  · exact lv_tableIn (tgt := 143) hx hb aIi.2.1 (by first | (rw [hh2]; done) | (rw [hh2]; decide)) (by first | (rw [hh2]; done) | (rw [hh2]; decide)) (by first | (rw [hh2]; done) | (rw [hh2]; rfl)) (by decide) key
  by_cases hh3 : p0 = 102
  · exact lv_tableIn (tgt := 143) hx hb aIi.2.1 (by first | (rw [hh3]; done) | (rw [hh3]; decide)) (by first | (rw [hh3]; done) | (rw [hh3]; decide)) (by first | (rw [hh3]; done) | (rw [hh3]; rfl)) (by decide) key
  by_cases hh4 : p0 = 103
  · exact lv_tableIn (tgt := 143) hx hb aIi.2.1 (by first | (rw [hh4]; done) | (rw [hh4]; decide)) (by first | (rw [hh4]; done) | (rw [hh4]; decide)) (by first | (rw [hh4]; done) | (rw [hh4]; rfl)) (by decide) key
  by_cases hh5 : p0 = 105
  · exact lv_tableIn (tgt := 143) hx hb aIi.2.1 (by first | (rw [hh5]; done) | (rw [hh5]; decide)) (by first | (rw [hh5]; done) | (rw [hh5]; decide)) (by first | (rw [hh5]; done) | (rw [hh5]; rfl)) (by decide) key
  by_cases hh6 : p0 = 106
  · exact lv_tableIn (tgt := 143) hx hb aIi.2.1 (by first | (rw [hh6]; done) | (rw [hh6]; decide)) (by first | (rw [hh6]; done) | (rw [hh6]; decide)) (by first | (rw [hh6]; done) | (rw [hh6]; rfl)) (by decide) key
  by_cases hh7 : p0 = 108
  · exact lv_tableIn (tgt := 143) hx hb aIi.2.1 (by first | (rw [hh7]; done) | (rw [hh7]; decide)) (by first | (rw [hh7]; done) | (rw [hh7]; decide)) (by first | (rw [hh7]; done) | (rw [hh7]; rfl)) (by decide) key
  by_cases hh8 : p0 = 110
  · exact lv_tableIn (tgt := 143) hx hb aIi.2.1 (by first | (rw [hh8]; done) | (rw [hh8]; decide)) (by first | (rw [hh8]; done) | (rw [hh8]; decide)) (by first | (rw [hh8]; done) | (rw [hh8]; rfl)) (by decide) key
  exact lv_tableOut (tgt := 143) hx hb aIi.2.1 (by have g0 := lv_neT (a := 97) hc0 rfl; have g1 := lv_neT (a := 100) hc1 rfl; have g2 := lv_neT (a := 104) hc2 rfl; have g3 := lv_neT (a := 107) hc3 rfl; have g4 := lv_neT (a := 109) hc4 rfl; have g5 := lv_neT (a := 111) hc5 rfl; have g6 := lv_neT (a := 112) hc6 rfl; have f0 := lv_neT (a := 98) hh0 rfl; have f1 := lv_neT (a := 99) hh1 rfl; have f2 := lv_neT (a := 101) hh2 rfl; have f3 := lv_neT (a := 102) hh3 rfl; have f4 := lv_neT (a := 103) hh4 rfl; have f5 := lv_neT (a := 105) hh5 rfl; have f6 := lv_neT (a := 106) hh6 rfl; have f7 := lv_neT (a := 108) hh7 rfl; have f8 := lv_neT (a := 110) hh8 rfl; omega) (by decide) key
abbrev wd_X6_clear (cI cC cZ cB cJ : ClassId) (yA rG : Nat) (qB : Int32) : va_W := [(yA, .inr (6, [.ref rG, .int qB]))]
abbrev q_X6_clear (dC : Nat -> ClassId) (dI : Nat -> Nat -> Nat) (cI cC cZ cB cJ : ClassId) (A : Nat -> Prop) (yA rG : Nat) (post : Int32 -> Prop) : Array Value -> State -> Outcome -> State -> Prop := va_Qv (fun (u : Int32) => post u) (fun u t => gB (dC, dI) (tyl cI cC cZ cB cJ) A (wd_X6_clear cI cC cZ cB cJ yA rG u) t) A
abbrev rm_X6_clear : Room := { frames := 0, cells := 0, slots := 0, locals := 0 }
def wp_X6_clear (post : Int32 -> Prop) (qB : Int32) : Prop := post 0
set_option maxHeartbeats 4000000 in
set_option maxRecDepth 100000 in
theorem c_X6_clear (l : Launch) (dC : Nat -> ClassId) (dI : Nat -> Nat -> Nat) (cI cC cZ cB cJ : ClassId) (yA rG sz : Nat) (qB : Int32) (post : Int32 -> Prop) (hw : wp_X6_clear post qB) : Met l yX6_clear (gw yX6_clear cX6_clear 1 none) rm_X6_clear (va_Pc [.ref yA] (gPre (dC, dI) (tyl cI cC cZ cB cJ) (wd_X6_clear cI cC cZ cB cJ yA rG qB) sz)) (q_X6_clear dC dI cI cC cZ cB cJ (va_A (wd_X6_clear cI cC cZ cB cJ yA rG qB) sz) yA rG post) 0 0 (va_A (wd_X6_clear cI cC cZ cB cJ yA rG qB) sz) := by
  refine aBJ (own := RX6) (dC, dI) (tyl cI cC cZ cB cJ) (wd_X6_clear cI cC cZ cB cJ yA rG qB) sz [.ref yA] (fun A => q_X6_clear dC dI cI cC cZ cB cJ A yA rG post) pn_RX6 rfl (lbz rfl) ?_
  intro p e s m args below meth c A H locs ls C0 hP hD hS hl
  have hl : lv_has ls 1 [(0, .ref yA)] := hl
  obtain ⟨hx, hb, hr, hml, hown, hts, hlocks, hA, hK, hN, tL, tM, hZL, hTL, hZM, hTM, hZX⟩ := id C0
  have hp := hw
  unfold wp_X6_clear at hp
  refine lv_aload_n hx hb eX6_clear_0.1 rfl (lv_at hl 0 rfl) ?_
  refine lv_iconst (v := 0) hx hb eX6_clear_0.2.1 aCi ?_
  refine va_put (D := (dC, dI)) (ci := 6) (v := .int 0) (ty := .int) (C := RX6) (T := TX6) (N := 2) hx hb hts i_X6 tyX6 tyX6_ok nmX6 hown hK hP hD hS 0 rfl rfl 1 (lbz rfl) (hts _ q_361) (fun _ h9 => h9) rfl (tyX6_ok 1 (lbz rfl)) rfl rfl (lbz rfl) eX6_clear_0.2.2.1 (fun H locs hP hD hS => ?_)
  have hPD := PDw (ws' := (wd_X6_clear cI cC cZ cB cJ yA rG 0)) hP hD rfl
  have hP := hPD.1
  have hD := hPD.2
  exact W.vret hx hb hr (fun t ht hW => ⟨⟨0, rfl, hp, by rw [ht]; exact hP, va_K.moved hW.alike hK, hD⟩, hS.F ht⟩) hS.2.2 eX6_clear_0.2.2.2
abbrev wd_X6_add (cI cC cZ cB cJ : ClassId) (yA rG : Nat) (qB : Int32) (jK : Nat -> Int32) : va_W := [(yA, .inr (6, [.ref rG, .int qB])), (rG, .inl (cI, 16, .inl jK))]
abbrev q_X6_add (dC : Nat -> ClassId) (dI : Nat -> Nat -> Nat) (cI cC cZ cB cJ : ClassId) (A : Nat -> Prop) (yA rG : Nat) (post : Int32 -> (Nat -> Int32) -> Prop) : Array Value -> State -> Outcome -> State -> Prop := va_Qv (fun (u : Int32 × (Nat -> Int32)) => post u.1 u.2) (fun u t => gB (dC, dI) (tyl cI cC cZ cB cJ) A (wd_X6_add cI cC cZ cB cJ yA rG u.1 u.2) t) A
abbrev rm_X6_add : Room := { frames := 0, cells := 0, slots := 0, locals := 0 }
def wp_X6_add (post : Int32 -> (Nat -> Int32) -> Prop) (p0 qB : Int32) (jK : Nat -> Int32) : Prop := (16 <= qB -> post qB jK) /\ (¬ 16 <= qB -> vp_in qB 16 /\ (∀ v_1 : Int32, v_1 = qB + 1 -> post v_1 (upd jK qB.toNatClampNeg p0)))
set_option maxHeartbeats 4000000 in
set_option maxRecDepth 100000 in
theorem c_X6_add (l : Launch) (dC : Nat -> ClassId) (dI : Nat -> Nat -> Nat) (cI cC cZ cB cJ : ClassId) (yA rG sz : Nat) (p0 qB : Int32) (jK : Nat -> Int32) (post : Int32 -> (Nat -> Int32) -> Prop) (hw : wp_X6_add post p0 qB jK) : Met l yX6_add (gw yX6_add cX6_add 2 none) rm_X6_add (va_Pc [.ref yA, .int p0] (gPre (dC, dI) (tyl cI cC cZ cB cJ) (wd_X6_add cI cC cZ cB cJ yA rG qB jK) sz)) (q_X6_add dC dI cI cC cZ cB cJ (va_A (wd_X6_add cI cC cZ cB cJ yA rG qB jK) sz) yA rG post) 0 0 (va_A (wd_X6_add cI cC cZ cB cJ yA rG qB jK) sz) := by
  refine aBJ (own := RX6) (dC, dI) (tyl cI cC cZ cB cJ) (wd_X6_add cI cC cZ cB cJ yA rG qB jK) sz [.ref yA, .int p0] (fun A => q_X6_add dC dI cI cC cZ cB cJ A yA rG post) pn_RX6 rfl (lbz rfl) ?_
  intro p e s m args below meth c A H locs ls C0 hP hD hS hl
  have hl : lv_has ls 2 [(0, .ref yA), (1, .int p0)] := hl
  obtain ⟨hx, hb, hr, hml, hown, hts, hlocks, hA, hK, hN, tL, tM, hZL, hTL, hZM, hTM, hZX⟩ := id C0
  have hp := hw
  unfold wp_X6_add at hp
  refine lv_aload_n hx hb eX6_add_0.1 rfl (lv_at hl 0 rfl) ?_
  refine va_get (D := (dC, dI)) (ci := 6) (v := .int qB) (C := RX6) (T := TX6) (N := 2) hx hb hts i_X6 hown hK hP 0 rfl rfl 1 (lbz rfl) (hts _ q_361) (fun _ h9 => h9) rfl eX6_add_0.2.1 ?_
  refine lv_aload_n hx hb eX6_add_0.2.2.1 rfl (lv_at hl 0 rfl) ?_
  refine va_get (D := (dC, dI)) (ci := 6) (v := .ref rG) (C := RX6) (T := TX6) (N := 2) hx hb hts i_X6 hown hK hP 0 rfl rfl 0 (lbz rfl) (hts _ q_362) (fun _ h9 => h9) rfl eX6_add_0.2.2.2.1 ?_
  refine va_alen (v := 16) hx hb hK hP 1 0 rfl rfl rfl eX6_add_0.2.2.2.2.1 ?_
  refine lv_icmp_ge (tgt := 32) hx hb eX6_add_0.2.2.2.2.2.1 (by decide) (fun hc => ?_) (fun hc => ?_)
  · have hp := hp.1 hc
    exact W.vret hx hb hr (fun t ht hW => ⟨⟨(qB, jK), rfl, hp, by rw [ht]; exact hP, va_K.moved hW.alike hK, hD⟩, hS.F ht⟩) hS.2.2 eX6_add_28.2.2
  · have hp := hp.2 hc
    refine lv_aload_n hx hb eX6_add_0.2.2.2.2.2.2.1 rfl (lv_at hl 0 rfl) ?_
    refine va_get (D := (dC, dI)) (ci := 6) (v := .ref rG) (C := RX6) (T := TX6) (N := 2) hx hb hts i_X6 hown hK hP 0 rfl rfl 0 (lbz rfl) (hts _ q_362) (fun _ h9 => h9) rfl eX6_add_0.2.2.2.2.2.2.2.1 ?_
    refine lv_aload_n hx hb eX6_add_0.2.2.2.2.2.2.2.2.1 rfl (lv_at hl 0 rfl) ?_
    refine va_get (D := (dC, dI)) (ci := 6) (v := .int qB) (C := RX6) (T := TX6) (N := 2) hx hb hts i_X6 hown hK hP 0 rfl rfl 1 (lbz rfl) (hts _ q_361) (fun _ h9 => h9) rfl eX6_add_0.2.2.2.2.2.2.2.2.2.1 ?_
    refine lv_iload_n hx hb eX6_add_0.2.2.2.2.2.2.2.2.2.2.1 rfl (lv_at hl 1 rfl) ?_
    have hin := hp.1
    have hp := hp.2
    refine va_iast hx hb hK hP hD hS 1 0 rfl rfl hin eX6_add_0.2.2.2.2.2.2.2.2.2.2.2.1 (fun H locs hP hD hS => ?_)
    have hPD := PDw (ws' := (wd_X6_add cI cC cZ cB cJ yA rG qB (upd jK qB.toNatClampNeg p0))) hP hD rfl
    have hP := hPD.1
    have hD := hPD.2
    refine lv_aload_n hx hb eX6_add_0.2.2.2.2.2.2.2.2.2.2.2.2.1 rfl (lv_at hl 0 rfl) ?_
    refine lv_dup hx hb eX6_add_0.2.2.2.2.2.2.2.2.2.2.2.2.2.1 rfl ?_
    refine va_get (D := (dC, dI)) (ci := 6) (v := .int qB) (C := RX6) (T := TX6) (N := 2) hx hb hts i_X6 hown hK hP 0 rfl rfl 1 (lbz rfl) (hts _ q_361) (fun _ h9 => h9) rfl eX6_add_0.2.2.2.2.2.2.2.2.2.2.2.2.2.2.1 ?_
    refine lv_iconst (v := 1) hx hb eX6_add_0.2.2.2.2.2.2.2.2.2.2.2.2.2.2.2 aDx ?_
    refine lv_iadd hx hb eX6_add_28.1 ?_
    refine lv_topi (fun v_1 aFJ => ?_)
    have hp := hp v_1 aFJ
    refine va_put (D := (dC, dI)) (ci := 6) (v := .int v_1) (ty := .int) (C := RX6) (T := TX6) (N := 2) hx hb hts i_X6 tyX6 tyX6_ok nmX6 hown hK hP hD hS 0 rfl rfl 1 (lbz rfl) (hts _ q_361) (fun _ h9 => h9) rfl (tyX6_ok 1 (lbz rfl)) rfl rfl (lbz rfl) eX6_add_28.2.1 (fun H locs hP hD hS => ?_)
    have hPD := PDw (ws' := (wd_X6_add cI cC cZ cB cJ yA rG v_1 (upd jK qB.toNatClampNeg p0))) hP hD rfl
    have hP := hPD.1
    have hD := hPD.2
    exact W.vret hx hb hr (fun t ht hW => ⟨⟨(v_1, (upd jK qB.toNatClampNeg p0)), rfl, hp, by rw [ht]; exact hP, va_K.moved hW.alike hK, hD⟩, hS.F ht⟩) hS.2.2 eX6_add_28.2.2
abbrev wd_X9_tell (cI cC cZ cB cJ : ClassId) (a_x xI xH xB vI wY xX yA xY uD rG : Nat) (qB : Int32) (jK : Nat -> Int32) : va_W := [(a_x, .inr (9, [.ref xI, .ref xH, .ref xB, .ref vI, .ref wY, .ref xX, .ref yA, .ref xY, .ref uD])), (yA, .inr (6, [.ref rG, .int qB])), (rG, .inl (cI, 16, .inl jK))]
abbrev q_X9_tell (dC : Nat -> ClassId) (dI : Nat -> Nat -> Nat) (cI cC cZ cB cJ : ClassId) (A : Nat -> Prop) (a_x xI xH xB vI wY xX yA xY uD rG : Nat) (post : Int32 -> (Nat -> Int32) -> Prop) : Array Value -> State -> Outcome -> State -> Prop := va_Qv (fun (u : Int32 × (Nat -> Int32)) => post u.1 u.2) (fun u t => gB (dC, dI) (tyl cI cC cZ cB cJ) A (wd_X9_tell cI cC cZ cB cJ a_x xI xH xB vI wY xX yA xY uD rG u.1 u.2) t) A
abbrev rm_X9_tell : Room := { frames := 1, cells := 0, slots := 0, locals := 21 }
def aYk (post : Int32 -> (Nat -> Int32) -> Prop) (p0 qB : Int32) (jK : Nat -> Int32) : Prop := wp_X6_clear (fun aKV => wp_X6_add (fun aUU aSJ => post aUU aSJ) p0 aKV jK) qB
set_option maxHeartbeats 4000000 in
set_option maxRecDepth 100000 in
theorem c_X9_tell (l : Launch) (dC : Nat -> ClassId) (dI : Nat -> Nat -> Nat) (cI cC cZ cB cJ : ClassId) (a_x xI xH xB vI wY xX yA xY uD rG sz : Nat) (p0 qB : Int32) (jK : Nat -> Int32) (post : Int32 -> (Nat -> Int32) -> Prop) (hw : aYk post p0 qB jK) : Met l yX9_tell (gw yX9_tell cX9_tell 2 none) rm_X9_tell (va_Pc [.ref a_x, .int p0] (gPre (dC, dI) (tyl cI cC cZ cB cJ) (wd_X9_tell cI cC cZ cB cJ a_x xI xH xB vI wY xX yA xY uD rG qB jK) sz)) (q_X9_tell dC dI cI cC cZ cB cJ (va_A (wd_X9_tell cI cC cZ cB cJ a_x xI xH xB vI wY xX yA xY uD rG qB jK) sz) a_x xI xH xB vI wY xX yA xY uD rG post) 0 0 (va_A (wd_X9_tell cI cC cZ cB cJ a_x xI xH xB vI wY xX yA xY uD rG qB jK) sz) := by
  refine aBJ (own := RX9) (dC, dI) (tyl cI cC cZ cB cJ) (wd_X9_tell cI cC cZ cB cJ a_x xI xH xB vI wY xX yA xY uD rG qB jK) sz [.ref a_x, .int p0] (fun A => q_X9_tell dC dI cI cC cZ cB cJ A a_x xI xH xB vI wY xX yA xY uD rG post) pn_RX9 rfl (lbz rfl) ?_
  intro p e s m args below meth c A H locs ls C0 hP hD hS hl
  have hl : lv_has ls 2 [(0, .ref a_x), (1, .int p0)] := hl
  obtain ⟨hx, hb, hr, hml, hown, hts, hlocks, hA, hK, hN, tL, tM, hZL, hTL, hZM, hTM, hZX⟩ := id C0
  have hp := hw
  unfold aYk at hp
  refine lv_aload_n hx hb eX9_tell_0.1 rfl (lv_at hl 0 rfl) ?_
  refine va_get (D := (dC, dI)) (ci := 9) (v := .ref yA) (C := RX9) (T := TX9) (N := 9) hx hb hts aC3 hown hK hP 0 rfl rfl 6 (lbz rfl) (hts _ q_363) (fun _ h9 => h9) rfl eX9_tell_0.2.1 ?_
  have hm := mgk (wc := (wd_X6_clear cI cC cZ cB cJ yA rG qB)) hP mk_31 3 rfl rfl rfl
  refine aBn hP hD hS hA (yS mk_31) (aAi mk_31) hm.1 hm.2 (aAk _) (zW _) (zF (As := []) (rest := []) C0 hP hD hS (yS mk_31) hm.1 (aAl _) 1 6 rfl rfl (c_X6_clear l dC dI cI cC cZ cB cJ yA rG H.size qB _ hp) q_364 q_368 q_366 q_367 q_365 h_X6_clear rfl rfl ⟨lbz rfl, lbz rfl⟩ rfl rfl hl.1 rfl (lv_room (lbz rfl)) eX9_tell_0.2.2.1 ⟨Nat.zero_le _, Nat.zero_le _⟩) (fun u H locs hp hP hD hS => ?_)
  obtain ⟨aKV, rfl⟩ : ∃ z, z = u := ⟨_, rfl⟩
  have hPD := PDm (ws' := (wd_X9_tell cI cC cZ cB cJ a_x xI xH xB vI wY xX yA xY uD rG aKV jK)) hP hD 3 rfl rfl rfl
  have hP := hPD.1
  have hD := hPD.2
  refine lv_aload_n hx hb eX9_tell_0.2.2.2.1 rfl (lv_at hl 0 rfl) ?_
  refine va_get (D := (dC, dI)) (ci := 9) (v := .ref yA) (C := RX9) (T := TX9) (N := 9) hx hb hts aC3 hown hK hP 0 rfl rfl 6 (lbz rfl) (hts _ q_363) (fun _ h9 => h9) rfl eX9_tell_0.2.2.2.2.1 ?_
  refine lv_iload_n hx hb eX9_tell_0.2.2.2.2.2.1 rfl (lv_at hl 1 rfl) ?_
  have hm := mgk (wc := (wd_X6_add cI cC cZ cB cJ yA rG aKV jK)) hP mk_0 3 rfl rfl rfl
  refine aBn hP hD hS hA (yS mk_0) (aAi mk_0) hm.1 hm.2 (aAk _) (zW _) (zF (As := [.int p0]) (rest := []) C0 hP hD hS (yS mk_0) hm.1 (aAl _) 1 6 rfl rfl (c_X6_add l dC dI cI cC cZ cB cJ yA rG H.size p0 aKV jK _ hp) q_369 q_372 q_370 q_371 q_365 h_X6_add rfl rfl ⟨lbz rfl, lbz rfl⟩ rfl rfl hl.1 rfl (lv_room (lbz rfl)) eX9_tell_0.2.2.2.2.2.2.1 ⟨Nat.zero_le _, Nat.zero_le _⟩) (fun u H locs hp hP hD hS => ?_)
  obtain ⟨aUU, aSJ⟩ := u
  have hPD := PDm (ws' := (wd_X9_tell cI cC cZ cB cJ a_x xI xH xB vI wY xX yA xY uD rG aUU aSJ)) hP hD 3 rfl rfl rfl
  have hP := hPD.1
  have hD := hPD.2
  exact W.vret hx hb hr (fun t ht hW => ⟨⟨(aUU, aSJ), rfl, hp, by rw [ht]; exact hP, va_K.moved hW.alike hK, hD⟩, hS.F ht⟩) hS.2.2 eX9_tell_0.2.2.2.2.2.2.2
abbrev aRW (cI cC cZ cB cJ : ClassId) (a_x xI xH xB vI wY xX yA xY uD rG : Nat) (qB : Int32) (jK : Nat -> Int32) : va_W := [(a_x, .inr (9, [.ref xI, .ref xH, .ref xB, .ref vI, .ref wY, .ref xX, .ref yA, .ref xY, .ref uD])), (yA, .inr (6, [.ref rG, .int qB])), (rG, .inl (cI, 16, .inl jK))]
abbrev q_X9_tell_ (dC : Nat -> ClassId) (dI : Nat -> Nat -> Nat) (cI cC cZ cB cJ : ClassId) (A : Nat -> Prop) (a_x xI xH xB vI wY xX yA xY uD rG : Nat) (post : Int32 -> (Nat -> Int32) -> Prop) : Array Value -> State -> Outcome -> State -> Prop := va_Qv (fun (u : Int32 × (Nat -> Int32)) => post u.1 u.2) (fun u t => gB (dC, dI) (tyl cI cC cZ cB cJ) A (aRW cI cC cZ cB cJ a_x xI xH xB vI wY xX yA xY uD rG u.1 u.2) t) A
abbrev rm_X9_tell_ : Room := { frames := 2, cells := 0, slots := 0, locals := 42 }
def aPf (post : Int32 -> (Nat -> Int32) -> Prop) (p0 p1 qB : Int32) (jK : Nat -> Int32) : Prop := aYk (fun aKV ro_numbers_2 => wp_X6_add (fun aNH aHk => post aNH aHk) p1 aKV ro_numbers_2) p0 qB jK
set_option maxHeartbeats 4000000 in
set_option maxRecDepth 100000 in
theorem c_X9_tell_ (l : Launch) (dC : Nat -> ClassId) (dI : Nat -> Nat -> Nat) (cI cC cZ cB cJ : ClassId) (a_x xI xH xB vI wY xX yA xY uD rG sz : Nat) (p0 p1 qB : Int32) (jK : Nat -> Int32) (post : Int32 -> (Nat -> Int32) -> Prop) (hw : aPf post p0 p1 qB jK) : Met l yX9_tell_ (gw yX9_tell_ cX9_tell_ 3 none) rm_X9_tell_ (va_Pc [.ref a_x, .int p0, .int p1] (gPre (dC, dI) (tyl cI cC cZ cB cJ) (aRW cI cC cZ cB cJ a_x xI xH xB vI wY xX yA xY uD rG qB jK) sz)) (q_X9_tell_ dC dI cI cC cZ cB cJ (va_A (aRW cI cC cZ cB cJ a_x xI xH xB vI wY xX yA xY uD rG qB jK) sz) a_x xI xH xB vI wY xX yA xY uD rG post) 0 0 (va_A (aRW cI cC cZ cB cJ a_x xI xH xB vI wY xX yA xY uD rG qB jK) sz) := by
  refine aBJ (own := RX9) (dC, dI) (tyl cI cC cZ cB cJ) (aRW cI cC cZ cB cJ a_x xI xH xB vI wY xX yA xY uD rG qB jK) sz [.ref a_x, .int p0, .int p1] (fun A => q_X9_tell_ dC dI cI cC cZ cB cJ A a_x xI xH xB vI wY xX yA xY uD rG post) pn_RX9 rfl (lbz rfl) ?_
  intro p e s m args below meth c A H locs ls C0 hP hD hS hl
  have hl : lv_has ls 3 [(0, .ref a_x), (1, .int p0), (2, .int p1)] := hl
  obtain ⟨hx, hb, hr, hml, hown, hts, hlocks, hA, hK, hN, tL, tM, hZL, hTL, hZM, hTM, hZX⟩ := id C0
  have hp := hw
  unfold aPf at hp
  refine lv_aload_n hx hb eX9_tell__0.1 rfl (lv_at hl 0 rfl) ?_
  refine lv_iload_n hx hb eX9_tell__0.2.1 rfl (lv_at hl 1 rfl) ?_
  have hm := mgk (wc := (wd_X9_tell cI cC cZ cB cJ a_x xI xH xB vI wY xX yA xY uD rG qB jK)) hP mk_85 3 rfl rfl rfl
  refine aBn hP hD hS hA (yS mk_85) (aAi mk_85) hm.1 hm.2 (aAk _) (zW _) (zF (As := [.int p0]) (rest := []) C0 hP hD hS (yS mk_85) hm.1 (aAl _) 0 9 rfl rfl (c_X9_tell l dC dI cI cC cZ cB cJ a_x xI xH xB vI wY xX yA xY uD rG H.size p0 qB jK _ hp) q_373 q_376 q_374 q_375 aIl h_X9_tell rfl rfl ⟨lbz rfl, lbz rfl⟩ rfl rfl hl.1 rfl (lv_room (lbz rfl)) eX9_tell__0.2.2.1 ⟨Nat.zero_le _, Nat.zero_le _⟩) (fun u H locs hp hP hD hS => ?_)
  obtain ⟨aKV, ro_numbers_2⟩ := u
  have hPD := PDm (ws' := (aRW cI cC cZ cB cJ a_x xI xH xB vI wY xX yA xY uD rG aKV ro_numbers_2)) hP hD 3 rfl rfl rfl
  have hP := hPD.1
  have hD := hPD.2
  refine lv_aload_n hx hb eX9_tell__0.2.2.2.1 rfl (lv_at hl 0 rfl) ?_
  refine va_get (D := (dC, dI)) (ci := 9) (v := .ref yA) (C := RX9) (T := TX9) (N := 9) hx hb hts aC3 hown hK hP 0 rfl rfl 6 (lbz rfl) (hts _ q_363) (fun _ h9 => h9) rfl eX9_tell__0.2.2.2.2.1 ?_
  refine lv_iload_n hx hb eX9_tell__0.2.2.2.2.2.1 rfl (lv_at hl 2 rfl) ?_
  have hm := mgk (wc := (wd_X6_add cI cC cZ cB cJ yA rG aKV ro_numbers_2)) hP mk_0 3 rfl rfl rfl
  refine aBn hP hD hS hA (yS mk_0) (aAi mk_0) hm.1 hm.2 (aAk _) (zW _) (zF (As := [.int p1]) (rest := []) C0 hP hD hS (yS mk_0) hm.1 (aAl _) 1 6 rfl rfl (c_X6_add l dC dI cI cC cZ cB cJ yA rG H.size p1 aKV ro_numbers_2 _ hp) q_369 q_372 q_370 q_371 q_365 h_X6_add rfl rfl ⟨lbz rfl, lbz rfl⟩ rfl rfl hl.1 rfl (lv_room (lbz rfl)) eX9_tell__0.2.2.2.2.2.2.1 ⟨Nat.zero_le _, Nat.zero_le _⟩) (fun u H locs hp hP hD hS => ?_)
  obtain ⟨aNH, aHk⟩ := u
  have hPD := PDm (ws' := (aRW cI cC cZ cB cJ a_x xI xH xB vI wY xX yA xY uD rG aNH aHk)) hP hD 3 rfl rfl rfl
  have hP := hPD.1
  have hD := hPD.2
  exact W.vret hx hb hr (fun t ht hW => ⟨⟨(aNH, aHk), rfl, hp, by rw [ht]; exact hP, va_K.moved hW.alike hK, hD⟩, hS.F ht⟩) hS.2.2 eX9_tell__0.2.2.2.2.2.2.2
abbrev aHc (cI cC cZ cB cJ : ClassId) (a_x xI xH xB vI wY xX yA xY uD xO tJ jJ mY pG pD pE eO uS tX uR rY tY wF uT wD rG : Nat) (wE : Nat -> Int32) (dN bD bJ aI : Int32) (uU gF pL qF mX oE dY : Nat -> Int32) (jE eW eY dU fY gJ jG nU pQ qI sY uG pY nJ : Int32) (qY qU pN : Nat -> Int32) (pR uM : Int32) (tD : Nat -> Int32) (qB : Int32) (jK : Nat -> Int32) : va_W := [(a_x, .inr (9, [.ref xI, .ref xH, .ref xB, .ref vI, .ref wY, .ref xX, .ref yA, .ref xY, .ref uD])), (uD, .inl (cI, 30, .inl wE)), (xB, .inr (0, [.ref vI, .ref wY, .ref xO])), (vI, .inr (3, [.ref tJ, .ref jJ, .ref mY, .ref pG, .ref pD, .ref pE, .ref eO, .int dN, .int bD, .int bJ, .int aI])), (tJ, .inl (cI, 16, .inl uU)), (jJ, .inl (cI, 16, .inl gF)), (mY, .inl (cI, 16, .inl pL)), (pG, .inl (cI, 16, .inl qF)), (pD, .inl (cI, 8, .inl mX)), (pE, .inl (cI, 8, .inl oE)), (eO, .inl (cI, 5, .inl dY)), (wY, .inr (2, [.int jE, .int eW, .int eY, .int dU, .int fY, .int gJ, .int jG, .int nU])), (xO, .inr (7, [.ref uS, .ref tX, .ref uR, .ref rY, .ref tY, .int pQ, .int qI, .int sY, .int uG, .int pY, .int nJ])), (uS, .inl (cI, 7, .inl qY)), (uR, .inl (cI, 40, .inl qU)), (rY, .inl (cI, 40, .inl pN)), (xX, .inr (4, [.ref wF, .ref uT, .ref wD, .int pR, .int uM])), (wF, .inl (cI, 104, .inl tD)), (yA, .inr (6, [.ref rG, .int qB])), (rG, .inl (cI, 16, .inl jK))]
abbrev q_X9_doActs (dC : Nat -> ClassId) (dI : Nat -> Nat -> Nat) (cI cC cZ cB cJ : ClassId) (A : Nat -> Prop) (a_x xI xH xB vI wY xX yA xY uD xO tJ jJ mY pG pD pE eO uS tX uR rY tY wF uT wD rG : Nat) (wE : Nat -> Int32) (dN bD bJ aI : Int32) (uU gF pL qF mX oE dY : Nat -> Int32) (pQ qI sY uG pY nJ : Int32) (pN : Nat -> Int32) (post : Int32 -> Int32 -> Int32 -> Int32 -> Int32 -> Int32 -> Int32 -> Int32 -> Int32 -> (Nat -> Int32) -> (Nat -> Int32) -> Int32 -> Int32 -> (Nat -> Int32) -> Int32 -> (Nat -> Int32) -> Prop) : Array Value -> State -> Outcome -> State -> Prop := va_Qi (fun (r : Int32) (u : Int32 × Int32 × Int32 × Int32 × Int32 × Int32 × Int32 × Int32 × (Nat -> Int32) × (Nat -> Int32) × Int32 × Int32 × (Nat -> Int32) × Int32 × (Nat -> Int32)) => post r u.1 u.2.1 u.2.2.1 u.2.2.2.1 u.2.2.2.2.1 u.2.2.2.2.2.1 u.2.2.2.2.2.2.1 u.2.2.2.2.2.2.2.1 u.2.2.2.2.2.2.2.2.1 u.2.2.2.2.2.2.2.2.2.1 u.2.2.2.2.2.2.2.2.2.2.1 u.2.2.2.2.2.2.2.2.2.2.2.1 u.2.2.2.2.2.2.2.2.2.2.2.2.1 u.2.2.2.2.2.2.2.2.2.2.2.2.2.1 u.2.2.2.2.2.2.2.2.2.2.2.2.2.2) (fun u t => gB (dC, dI) (tyl cI cC cZ cB cJ) A (aHc cI cC cZ cB cJ a_x xI xH xB vI wY xX yA xY uD xO tJ jJ mY pG pD pE eO uS tX uR rY tY wF uT wD rG wE dN bD bJ aI uU gF pL qF mX oE dY u.1 u.2.1 u.2.2.1 u.2.2.2.1 u.2.2.2.2.1 u.2.2.2.2.2.1 u.2.2.2.2.2.2.1 u.2.2.2.2.2.2.2.1 pQ qI sY uG pY nJ u.2.2.2.2.2.2.2.2.1 u.2.2.2.2.2.2.2.2.2.1 pN u.2.2.2.2.2.2.2.2.2.2.1 u.2.2.2.2.2.2.2.2.2.2.2.1 u.2.2.2.2.2.2.2.2.2.2.2.2.1 u.2.2.2.2.2.2.2.2.2.2.2.2.2.1 u.2.2.2.2.2.2.2.2.2.2.2.2.2.2) t) A
abbrev rm_X9_doActs : Room := { frames := 6, cells := 0, slots := 0, locals := 138 }
section S_X9_doActs
variable {p : Program} {l : Launch} {e : Env} {s : State} {m : MethodId} {args : Array Value} {below : List Frame} {meth : Method} {c : Code} {dC : Nat -> ClassId} {dI : Nat -> Nat -> Nat} {cI cC cZ cB cJ : ClassId} {A : Nat -> Prop} {a_x xI xH xB vI wY xX yA xY uD xO tJ jJ mY pG pD pE eO uS tX uR rY tY wF uT wD rG : Nat} {wE : Nat -> Int32} {dN bD bJ aI : Int32} {uU gF pL qF mX oE dY : Nat -> Int32} {pQ qI sY uG pY nJ : Int32} {pN : Nat -> Int32} {post : Int32 -> Int32 -> Int32 -> Int32 -> Int32 -> Int32 -> Int32 -> Int32 -> Int32 -> (Nat -> Int32) -> (Nat -> Int32) -> Int32 -> Int32 -> (Nat -> Int32) -> Int32 -> (Nat -> Int32) -> Prop}
def bCZ (post : Int32 -> Int32 -> Int32 -> Int32 -> Int32 -> Int32 -> Int32 -> Int32 -> Int32 -> (Nat -> Int32) -> (Nat -> Int32) -> Int32 -> Int32 -> (Nat -> Int32) -> Int32 -> (Nat -> Int32) -> Prop) (wE : Nat -> Int32) (dN bD : Int32) (uU gF pL qF mX oE dY : Nat -> Int32) (pQ : Int32) (pN : Nat -> Int32) (x2 x3 x4 jE eW eY dU fY gJ jG nU : Int32) (qY qU : Nat -> Int32) (pR uM : Int32) (tD : Nat -> Int32) (qB : Int32) (jK : Nat -> Int32) : Prop := aPf (fun aUU aSJ => post x2 jE eW eY dU fY gJ jG nU qY qU pR uM tD aUU aSJ) x4 x3 qB jK
set_option maxHeartbeats 4000000 in
set_option maxRecDepth 100000 in
theorem ks_X9_doActs_118 (C0 : gc aC8 (some .int) 7 RX9 (dC, dI) (tyl cI cC cZ cB cJ) A p s m args meth c) : ∀ (x2 x3 x4 jE eW eY dU fY gJ jG nU : Int32) (qY qU : Nat -> Int32) (pR uM : Int32) (tD : Nat -> Int32) (qB : Int32) (jK : Nat -> Int32) (H : Heap) (locs : List Loc) (ls : Array Slot), (bCZ post wE dN bD uU gF pL qF mX oE dY pQ pN) x2 x3 x4 jE eW eY dU fY gJ jG nU qY qU pR uM tD qB jK -> va_P (dC, dI) classes (aHc cI cC cZ cB cJ a_x xI xH xB vI wY xX yA xY uD xO tJ jJ mY pG pD pE eO uS tX uR rY tY wF uT wD rG wE dN bD bJ aI uU gF pL qF mX oE dY jE eW eY dU fY gJ jG nU pQ qI sY uG pY nJ qY qU pN pR uM tD qB jK) H -> va_D A (aHc cI cC cZ cB cJ a_x xI xH xB vI wY xX yA xY uD xO tJ jJ mY pG pD pE eO uS tX uR rY tY wF uT wD rG wE dN bD bJ aI uU gF pL qF mX oE dY jE eW eY dU fY gJ jG nU pQ qI sY uG pY nJ qY qU pN pR uM tD qB jK) -> va_S A s.heap H locs -> lv_has ls 7 [(0, .ref a_x), (2, .int x2), (3, .int x3), (4, .int x4)] -> W p l e rm_X9_doActs s m args below meth c H locs 0 0 (MQ below (q_X9_doActs dC dI cI cC cZ cB cJ A a_x xI xH xB vI wY xX yA xY uD xO tJ jJ mY pG pD pE eO uS tX uR rY tY wF uT wD rG wE dN bD bJ aI uU gF pL qF mX oE dY pQ qI sY uG pY nJ pN post) args s 0 0 A) (F0 m 118 ls []) := by
  obtain ⟨hx, hb, hr, hml, hown, hts, hlocks, hA, hK, hN, tL, tM, hZL, hTL, hZM, hTM, hZX⟩ := id C0
  intro x2 x3 x4 jE eW eY dU fY gJ jG nU qY qU pR uM tD qB jK H locs ls hp hP hD hS hl
  unfold bCZ at hp
  refine lv_aload_n hx hb aTq.2.2.2.2.2.2.2.2.2.2.2.2.2.1 rfl (lv_at hl 0 rfl) ?_
  refine lv_iload hx hb aTq.2.2.2.2.2.2.2.2.2.2.2.2.2.2.1 (lv_at hl 3 rfl) ?_
  refine lv_iload_n hx hb aTq.2.2.2.2.2.2.2.2.2.2.2.2.2.2.2 rfl (lv_at hl 2 rfl) ?_
  have hm := mgk (wc := (aRW cI cC cZ cB cJ a_x xI xH xB vI wY xX yA xY uD rG qB jK)) hP mk_86 20 rfl rfl rfl
  refine aBn hP hD hS hA (yS mk_86) (aAi mk_86) hm.1 hm.2 (aAk _) (zW _) (zF (As := [.int x4, .int x3]) (rest := []) C0 hP hD hS (yS mk_86) hm.1 (aAl _) 0 9 rfl rfl (c_X9_tell_ l dC dI cI cC cZ cB cJ a_x xI xH xB vI wY xX yA xY uD rG H.size x4 x3 qB jK _ hp) q_377 q_380 q_378 q_379 aIl h_X9_tell_ rfl rfl ⟨lbz rfl, lbz rfl⟩ rfl rfl hl.1 rfl (lv_room (lbz rfl)) eX9_doActs_122.1 ⟨Nat.zero_le _, Nat.zero_le _⟩) (fun u H locs hp hP hD hS => ?_)
  obtain ⟨aUU, aSJ⟩ := u
  have hPD := PDm (ws' := (aHc cI cC cZ cB cJ a_x xI xH xB vI wY xX yA xY uD xO tJ jJ mY pG pD pE eO uS tX uR rY tY wF uT wD rG wE dN bD bJ aI uU gF pL qF mX oE dY jE eW eY dU fY gJ jG nU pQ qI sY uG pY nJ qY qU pN pR uM tD aUU aSJ)) hP hD 20 rfl rfl rfl
  have hP := hPD.1
  have hD := hPD.2
  refine lv_iload_n hx hb eX9_doActs_122.2.1 rfl (lv_at hl 1 rfl) ?_
  exact W.iret (v := x2) hx hb hr (fun t ht hW => ⟨⟨x2, (jE, eW, eY, dU, fY, gJ, jG, nU, qY, qU, pR, uM, tD, aUU, aSJ), rfl, hp, by rw [ht]; exact hP, va_K.moved hW.alike hK, hD⟩, hS.F ht⟩) hS.2.2 eX9_doActs_122.2.2
def ws_X9_doActs_107 (post : Int32 -> Int32 -> Int32 -> Int32 -> Int32 -> Int32 -> Int32 -> Int32 -> Int32 -> (Nat -> Int32) -> (Nat -> Int32) -> Int32 -> Int32 -> (Nat -> Int32) -> Int32 -> (Nat -> Int32) -> Prop) (wE : Nat -> Int32) (dN bD : Int32) (uU gF pL qF mX oE dY : Nat -> Int32) (pQ : Int32) (pN : Nat -> Int32) (x2 x3 x4 jE eW eY dU fY gJ jG nU : Int32) (qY qU : Nat -> Int32) (pR uM : Int32) (tD : Nat -> Int32) (qB : Int32) (jK : Nat -> Int32) : Prop := (x2 <= 0 -> bCZ post wE dN bD uU gF pL qF mX oE dY pQ pN x2 x3 x4 jE eW eY dU fY gJ jG nU qY qU pR uM tD qB jK) /\ (¬ x2 <= 0 -> wp_X4_hold (fun pa_undoable_4 pa_free_5 => bCZ post wE dN bD uU gF pL qF mX oE dY pQ pN x2 x3 x4 jE eW eY dU fY gJ jG nU qY qU pa_undoable_4 pa_free_5 tD qB jK) pR uM)
set_option maxHeartbeats 4000000 in
set_option maxRecDepth 100000 in
theorem ks_X9_doActs_107 (C0 : gc aC8 (some .int) 7 RX9 (dC, dI) (tyl cI cC cZ cB cJ) A p s m args meth c) : ∀ (x2 x3 x4 jE eW eY dU fY gJ jG nU : Int32) (qY qU : Nat -> Int32) (pR uM : Int32) (tD : Nat -> Int32) (qB : Int32) (jK : Nat -> Int32) (H : Heap) (locs : List Loc) (ls : Array Slot), (ws_X9_doActs_107 post wE dN bD uU gF pL qF mX oE dY pQ pN) x2 x3 x4 jE eW eY dU fY gJ jG nU qY qU pR uM tD qB jK -> va_P (dC, dI) classes (aHc cI cC cZ cB cJ a_x xI xH xB vI wY xX yA xY uD xO tJ jJ mY pG pD pE eO uS tX uR rY tY wF uT wD rG wE dN bD bJ aI uU gF pL qF mX oE dY jE eW eY dU fY gJ jG nU pQ qI sY uG pY nJ qY qU pN pR uM tD qB jK) H -> va_D A (aHc cI cC cZ cB cJ a_x xI xH xB vI wY xX yA xY uD xO tJ jJ mY pG pD pE eO uS tX uR rY tY wF uT wD rG wE dN bD bJ aI uU gF pL qF mX oE dY jE eW eY dU fY gJ jG nU pQ qI sY uG pY nJ qY qU pN pR uM tD qB jK) -> va_S A s.heap H locs -> lv_has ls 7 [(0, .ref a_x), (2, .int x2), (3, .int x3), (4, .int x4)] -> W p l e rm_X9_doActs s m args below meth c H locs 0 0 (MQ below (q_X9_doActs dC dI cI cC cZ cB cJ A a_x xI xH xB vI wY xX yA xY uD xO tJ jJ mY pG pD pE eO uS tX uR rY tY wF uT wD rG wE dN bD bJ aI uU gF pL qF mX oE dY pQ qI sY uG pY nJ pN post) args s 0 0 A) (F0 m 107 ls []) := by
  obtain ⟨hx, hb, hr, hml, hown, hts, hlocks, hA, hK, hN, tL, tM, hZL, hTL, hZM, hTM, hZX⟩ := id C0
  intro x2 x3 x4 jE eW eY dU fY gJ jG nU qY qU pR uM tD qB jK H locs ls hp hP hD hS hl
  unfold ws_X9_doActs_107 at hp
  refine lv_iload_n hx hb aTq.2.2.2.2.2.2.2.2.1 rfl (lv_at hl 1 rfl) ?_
  refine lv_if_le (tgt := 118) hx hb aTq.2.2.2.2.2.2.2.2.2.1 (by decide) (fun hc => ?_) (fun hc => ?_)
  · have hp := hp.1 hc
    exact ks_X9_doActs_118 C0 x2 x3 x4 jE eW eY dU fY gJ jG nU qY qU pR uM tD qB jK H locs ls hp hP hD hS (lv_sub hl [0, 1, 2, 3] rfl)
  · have hp := hp.2 hc
    refine lv_aload_n hx hb aTq.2.2.2.2.2.2.2.2.2.2.1 rfl (lv_at hl 0 rfl) ?_
    refine va_get (D := (dC, dI)) (ci := 9) (v := .ref xX) (C := RX9) (T := TX9) (N := 9) hx hb hts aC3 hown hK hP 0 rfl rfl 5 (lbz rfl) (hts _ q_91) (fun _ h9 => h9) rfl aTq.2.2.2.2.2.2.2.2.2.2.2.1 ?_
    have hm := mgk (wc := (wd_X4_hold cI cC cZ cB cJ xX wF uT wD pR uM)) hP mk_87 20 rfl rfl rfl
    refine aBn hP hD hS hA (yS mk_87) (aAi mk_87) hm.1 hm.2 (aAk _) (zW _) (zF (As := []) (rest := []) C0 hP hD hS (yS mk_87) hm.1 (aAl _) 16 4 rfl rfl (c_X4_hold l dC dI cI cC cZ cB cJ xX wF uT wD H.size pR uM _ hp) q_243 q_246 q_244 q_245 q_93 h_X4_hold rfl rfl ⟨lbz rfl, lbz rfl⟩ rfl rfl hl.1 rfl (lv_room (lbz rfl)) aTq.2.2.2.2.2.2.2.2.2.2.2.2.1 ⟨Nat.zero_le _, Nat.zero_le _⟩) (fun u H locs hp hP hD hS => ?_)
    obtain ⟨pa_undoable_4, pa_free_5⟩ := u
    have hPD := PDm (ws' := (aHc cI cC cZ cB cJ a_x xI xH xB vI wY xX yA xY uD xO tJ jJ mY pG pD pE eO uS tX uR rY tY wF uT wD rG wE dN bD bJ aI uU gF pL qF mX oE dY jE eW eY dU fY gJ jG nU pQ qI sY uG pY nJ qY qU pN pa_undoable_4 pa_free_5 tD qB jK)) hP hD 20 rfl rfl rfl
    have hP := hPD.1
    have hD := hPD.2
    exact ks_X9_doActs_118 C0 x2 x3 x4 jE eW eY dU fY gJ jG nU qY qU pa_undoable_4 pa_free_5 tD qB jK H locs ls hp hP hD hS (lv_sub hl [0, 1, 2, 3] rfl)
def ws_X9_doActs_101 (post : Int32 -> Int32 -> Int32 -> Int32 -> Int32 -> Int32 -> Int32 -> Int32 -> Int32 -> (Nat -> Int32) -> (Nat -> Int32) -> Int32 -> Int32 -> (Nat -> Int32) -> Int32 -> (Nat -> Int32) -> Prop) (K21 : Int32 -> Int32 -> Int32 -> Int32 -> Int32 -> Int32 -> Int32 -> Int32 -> Int32 -> Int32 -> Int32 -> Int32 -> Int32 -> (Nat -> Int32) -> (Nat -> Int32) -> Int32 -> Int32 -> (Nat -> Int32) -> Int32 -> (Nat -> Int32) -> Prop) (wE : Nat -> Int32) (dN bD : Int32) (uU gF pL qF mX oE dY : Nat -> Int32) (pQ : Int32) (pN : Nat -> Int32) (x1 x2 x3 x4 x5 jE eW eY dU fY gJ jG nU : Int32) (qY qU : Nat -> Int32) (pR uM : Int32) (tD : Nat -> Int32) (qB : Int32) (jK : Nat -> Int32) : Prop := ∀ v_23 : Int32, v_23 = x5 + 1 -> K21 x1 x2 x3 x4 v_23 jE eW eY dU fY gJ jG nU qY qU pR uM tD qB jK
set_option maxHeartbeats 4000000 in
set_option maxRecDepth 100000 in
theorem ks_X9_doActs_101 (C0 : gc aC8 (some .int) 7 RX9 (dC, dI) (tyl cI cC cZ cB cJ) A p s m args meth c) {K21 : Int32 -> Int32 -> Int32 -> Int32 -> Int32 -> Int32 -> Int32 -> Int32 -> Int32 -> Int32 -> Int32 -> Int32 -> Int32 -> (Nat -> Int32) -> (Nat -> Int32) -> Int32 -> Int32 -> (Nat -> Int32) -> Int32 -> (Nat -> Int32) -> Prop} (hK21 : ∀ (x1 : Int32) (x2 : Int32) (x3 : Int32) (x4 : Int32) (x5 : Int32) (jE : Int32) (eW : Int32) (eY : Int32) (dU : Int32) (fY : Int32) (gJ : Int32) (jG : Int32) (nU : Int32) (qY : Nat -> Int32) (qU : Nat -> Int32) (pR : Int32) (uM : Int32) (tD : Nat -> Int32) (qB : Int32) (jK : Nat -> Int32) (H : Heap) (locs : List Loc) (ls : Array Slot), K21 x1 x2 x3 x4 x5 jE eW eY dU fY gJ jG nU qY qU pR uM tD qB jK -> va_P (dC, dI) classes (aHc cI cC cZ cB cJ a_x xI xH xB vI wY xX yA xY uD xO tJ jJ mY pG pD pE eO uS tX uR rY tY wF uT wD rG wE dN bD bJ aI uU gF pL qF mX oE dY jE eW eY dU fY gJ jG nU pQ qI sY uG pY nJ qY qU pN pR uM tD qB jK) H -> va_D A (aHc cI cC cZ cB cJ a_x xI xH xB vI wY xX yA xY uD xO tJ jJ mY pG pD pE eO uS tX uR rY tY wF uT wD rG wE dN bD bJ aI uU gF pL qF mX oE dY jE eW eY dU fY gJ jG nU pQ qI sY uG pY nJ qY qU pN pR uM tD qB jK) -> va_S A s.heap H locs -> lv_has ls 7 [(0, .ref a_x), (1, .int x1), (2, .int x2), (3, .int x3), (4, .int x4), (5, .int x5)] -> W p l e rm_X9_doActs s m args below meth c H locs 0 0 (MQ below (q_X9_doActs dC dI cI cC cZ cB cJ A a_x xI xH xB vI wY xX yA xY uD xO tJ jJ mY pG pD pE eO uS tX uR rY tY wF uT wD rG wE dN bD bJ aI uU gF pL qF mX oE dY pQ qI sY uG pY nJ pN post) args s 0 0 A) (F0 m 21 ls [])) : ∀ (x1 x2 x3 x4 x5 jE eW eY dU fY gJ jG nU : Int32) (qY qU : Nat -> Int32) (pR uM : Int32) (tD : Nat -> Int32) (qB : Int32) (jK : Nat -> Int32) (H : Heap) (locs : List Loc) (ls : Array Slot), (ws_X9_doActs_101 post K21 wE dN bD uU gF pL qF mX oE dY pQ pN) x1 x2 x3 x4 x5 jE eW eY dU fY gJ jG nU qY qU pR uM tD qB jK -> va_P (dC, dI) classes (aHc cI cC cZ cB cJ a_x xI xH xB vI wY xX yA xY uD xO tJ jJ mY pG pD pE eO uS tX uR rY tY wF uT wD rG wE dN bD bJ aI uU gF pL qF mX oE dY jE eW eY dU fY gJ jG nU pQ qI sY uG pY nJ qY qU pN pR uM tD qB jK) H -> va_D A (aHc cI cC cZ cB cJ a_x xI xH xB vI wY xX yA xY uD xO tJ jJ mY pG pD pE eO uS tX uR rY tY wF uT wD rG wE dN bD bJ aI uU gF pL qF mX oE dY jE eW eY dU fY gJ jG nU pQ qI sY uG pY nJ qY qU pN pR uM tD qB jK) -> va_S A s.heap H locs -> lv_has ls 7 [(0, .ref a_x), (1, .int x1), (2, .int x2), (3, .int x3), (4, .int x4), (5, .int x5)] -> W p l e rm_X9_doActs s m args below meth c H locs 0 0 (MQ below (q_X9_doActs dC dI cI cC cZ cB cJ A a_x xI xH xB vI wY xX yA xY uD xO tJ jJ mY pG pD pE eO uS tX uR rY tY wF uT wD rG wE dN bD bJ aI uU gF pL qF mX oE dY pQ qI sY uG pY nJ pN post) args s 0 0 A) (F0 m 101 ls []) := by
  obtain ⟨hx, hb, hr, hml, hown, hts, hlocks, hA, hK, hN, tL, tM, hZL, hTL, hZM, hTM, hZX⟩ := id C0
  intro x1 x2 x3 x4 x5 jE eW eY dU fY gJ jG nU qY qU pR uM tD qB jK H locs ls hp hP hD hS hl
  unfold ws_X9_doActs_101 at hp
  obtain ⟨v_23, ev_23⟩ : ∃ y : Int32, y = x5 + 1 := ⟨_, rfl⟩
  refine lv_iinc (v := v_23) (lv' := [(5, .int v_23), (0, .ref a_x), (1, .int x1), (2, .int x2), (3, .int x3), (4, .int x4)]) hx hb aTq.2.2.2.2.2.2.1 hl (k := 5) rfl (by rw [ev_23]; rfl) (by decide) rfl (fun ls hl => ?_)
  have hp := hp v_23 ev_23
  refine lv_goto (tgt := 21) hx hb aTq.2.2.2.2.2.2.2.1 (by decide) ?_
  exact hK21 x1 x2 x3 x4 v_23 jE eW eY dU fY gJ jG nU qY qU pR uM tD qB jK H locs ls hp hP hD hS (lv_sub hl [1, 2, 3, 4, 5, 0] rfl)
def ws_X9_doActs_99 (post : Int32 -> Int32 -> Int32 -> Int32 -> Int32 -> Int32 -> Int32 -> Int32 -> Int32 -> (Nat -> Int32) -> (Nat -> Int32) -> Int32 -> Int32 -> (Nat -> Int32) -> Int32 -> (Nat -> Int32) -> Prop) (K21 : Int32 -> Int32 -> Int32 -> Int32 -> Int32 -> Int32 -> Int32 -> Int32 -> Int32 -> Int32 -> Int32 -> Int32 -> Int32 -> (Nat -> Int32) -> (Nat -> Int32) -> Int32 -> Int32 -> (Nat -> Int32) -> Int32 -> (Nat -> Int32) -> Prop) (wE : Nat -> Int32) (dN bD : Int32) (uU gF pL qF mX oE dY : Nat -> Int32) (pQ : Int32) (pN : Nat -> Int32) (x1 x2 x4 x5 k0 k1 jE eW eY dU fY gJ jG nU : Int32) (qY qU : Nat -> Int32) (pR uM : Int32) (tD : Nat -> Int32) (qB : Int32) (jK : Nat -> Int32) : Prop := ∀ v_22 : Int32, v_22 = k0 + k1 -> ws_X9_doActs_101 post K21 wE dN bD uU gF pL qF mX oE dY pQ pN x1 x2 v_22 x4 x5 jE eW eY dU fY gJ jG nU qY qU pR uM tD qB jK
set_option maxHeartbeats 4000000 in
set_option maxRecDepth 100000 in
theorem ks_X9_doActs_99 (C0 : gc aC8 (some .int) 7 RX9 (dC, dI) (tyl cI cC cZ cB cJ) A p s m args meth c) {K21 : Int32 -> Int32 -> Int32 -> Int32 -> Int32 -> Int32 -> Int32 -> Int32 -> Int32 -> Int32 -> Int32 -> Int32 -> Int32 -> (Nat -> Int32) -> (Nat -> Int32) -> Int32 -> Int32 -> (Nat -> Int32) -> Int32 -> (Nat -> Int32) -> Prop} (hK21 : ∀ (x1 : Int32) (x2 : Int32) (x3 : Int32) (x4 : Int32) (x5 : Int32) (jE : Int32) (eW : Int32) (eY : Int32) (dU : Int32) (fY : Int32) (gJ : Int32) (jG : Int32) (nU : Int32) (qY : Nat -> Int32) (qU : Nat -> Int32) (pR : Int32) (uM : Int32) (tD : Nat -> Int32) (qB : Int32) (jK : Nat -> Int32) (H : Heap) (locs : List Loc) (ls : Array Slot), K21 x1 x2 x3 x4 x5 jE eW eY dU fY gJ jG nU qY qU pR uM tD qB jK -> va_P (dC, dI) classes (aHc cI cC cZ cB cJ a_x xI xH xB vI wY xX yA xY uD xO tJ jJ mY pG pD pE eO uS tX uR rY tY wF uT wD rG wE dN bD bJ aI uU gF pL qF mX oE dY jE eW eY dU fY gJ jG nU pQ qI sY uG pY nJ qY qU pN pR uM tD qB jK) H -> va_D A (aHc cI cC cZ cB cJ a_x xI xH xB vI wY xX yA xY uD xO tJ jJ mY pG pD pE eO uS tX uR rY tY wF uT wD rG wE dN bD bJ aI uU gF pL qF mX oE dY jE eW eY dU fY gJ jG nU pQ qI sY uG pY nJ qY qU pN pR uM tD qB jK) -> va_S A s.heap H locs -> lv_has ls 7 [(0, .ref a_x), (1, .int x1), (2, .int x2), (3, .int x3), (4, .int x4), (5, .int x5)] -> W p l e rm_X9_doActs s m args below meth c H locs 0 0 (MQ below (q_X9_doActs dC dI cI cC cZ cB cJ A a_x xI xH xB vI wY xX yA xY uD xO tJ jJ mY pG pD pE eO uS tX uR rY tY wF uT wD rG wE dN bD bJ aI uU gF pL qF mX oE dY pQ qI sY uG pY nJ pN post) args s 0 0 A) (F0 m 21 ls [])) : ∀ (x1 x2 x4 x5 k0 k1 jE eW eY dU fY gJ jG nU : Int32) (qY qU : Nat -> Int32) (pR uM : Int32) (tD : Nat -> Int32) (qB : Int32) (jK : Nat -> Int32) (H : Heap) (locs : List Loc) (ls : Array Slot), (ws_X9_doActs_99 post K21 wE dN bD uU gF pL qF mX oE dY pQ pN) x1 x2 x4 x5 k0 k1 jE eW eY dU fY gJ jG nU qY qU pR uM tD qB jK -> va_P (dC, dI) classes (aHc cI cC cZ cB cJ a_x xI xH xB vI wY xX yA xY uD xO tJ jJ mY pG pD pE eO uS tX uR rY tY wF uT wD rG wE dN bD bJ aI uU gF pL qF mX oE dY jE eW eY dU fY gJ jG nU pQ qI sY uG pY nJ qY qU pN pR uM tD qB jK) H -> va_D A (aHc cI cC cZ cB cJ a_x xI xH xB vI wY xX yA xY uD xO tJ jJ mY pG pD pE eO uS tX uR rY tY wF uT wD rG wE dN bD bJ aI uU gF pL qF mX oE dY jE eW eY dU fY gJ jG nU pQ qI sY uG pY nJ qY qU pN pR uM tD qB jK) -> va_S A s.heap H locs -> lv_has ls 7 [(0, .ref a_x), (1, .int x1), (2, .int x2), (4, .int x4), (5, .int x5)] -> W p l e rm_X9_doActs s m args below meth c H locs 0 0 (MQ below (q_X9_doActs dC dI cI cC cZ cB cJ A a_x xI xH xB vI wY xX yA xY uD xO tJ jJ mY pG pD pE eO uS tX uR rY tY wF uT wD rG wE dN bD bJ aI uU gF pL qF mX oE dY pQ qI sY uG pY nJ pN post) args s 0 0 A) (F0 m 99 ls [.int k1, .int k0]) := by
  obtain ⟨hx, hb, hr, hml, hown, hts, hlocks, hA, hK, hN, tL, tM, hZL, hTL, hZM, hTM, hZX⟩ := id C0
  intro x1 x2 x4 x5 k0 k1 jE eW eY dU fY gJ jG nU qY qU pR uM tD qB jK H locs ls hp hP hD hS hl
  unfold ws_X9_doActs_99 at hp
  refine lv_iadd hx hb aTq.2.2.2.2.1 ?_
  refine lv_topi (fun v_22 ev_22 => ?_)
  have hp := hp v_22 ev_22
  refine lv_istore_n (lv' := [(3, .int v_22), (0, .ref a_x), (1, .int x1), (2, .int x2), (4, .int x4), (5, .int x5)]) hx hb aTq.2.2.2.2.2.1 rfl hl (by decide) rfl (fun ls hl => ?_)
  exact ks_X9_doActs_101 C0 hK21 x1 x2 v_22 x4 x5 jE eW eY dU fY gJ jG nU qY qU pR uM tD qB jK H locs ls hp hP hD hS (lv_sub hl [1, 2, 3, 0, 4, 5] rfl)
def ws_X9_doActs_94 (post : Int32 -> Int32 -> Int32 -> Int32 -> Int32 -> Int32 -> Int32 -> Int32 -> Int32 -> (Nat -> Int32) -> (Nat -> Int32) -> Int32 -> Int32 -> (Nat -> Int32) -> Int32 -> (Nat -> Int32) -> Prop) (K21 : Int32 -> Int32 -> Int32 -> Int32 -> Int32 -> Int32 -> Int32 -> Int32 -> Int32 -> Int32 -> Int32 -> Int32 -> Int32 -> (Nat -> Int32) -> (Nat -> Int32) -> Int32 -> Int32 -> (Nat -> Int32) -> Int32 -> (Nat -> Int32) -> Prop) (wE : Nat -> Int32) (dN bD : Int32) (uU gF pL qF mX oE dY : Nat -> Int32) (pQ : Int32) (pN : Nat -> Int32) (x1 x2 x4 x5 k0 jE eW eY dU fY gJ jG nU : Int32) (qY qU : Nat -> Int32) (pR uM : Int32) (tD : Nat -> Int32) (qB : Int32) (jK : Nat -> Int32) : Prop := ws_X9_doActs_99 post K21 wE dN bD uU gF pL qF mX oE dY pQ pN x1 x2 x4 x5 k0 1 jE eW eY dU fY gJ jG nU qY qU pR uM tD qB jK
set_option maxHeartbeats 4000000 in
set_option maxRecDepth 100000 in
theorem ks_X9_doActs_94 (C0 : gc aC8 (some .int) 7 RX9 (dC, dI) (tyl cI cC cZ cB cJ) A p s m args meth c) {K21 : Int32 -> Int32 -> Int32 -> Int32 -> Int32 -> Int32 -> Int32 -> Int32 -> Int32 -> Int32 -> Int32 -> Int32 -> Int32 -> (Nat -> Int32) -> (Nat -> Int32) -> Int32 -> Int32 -> (Nat -> Int32) -> Int32 -> (Nat -> Int32) -> Prop} (hK21 : ∀ (x1 : Int32) (x2 : Int32) (x3 : Int32) (x4 : Int32) (x5 : Int32) (jE : Int32) (eW : Int32) (eY : Int32) (dU : Int32) (fY : Int32) (gJ : Int32) (jG : Int32) (nU : Int32) (qY : Nat -> Int32) (qU : Nat -> Int32) (pR : Int32) (uM : Int32) (tD : Nat -> Int32) (qB : Int32) (jK : Nat -> Int32) (H : Heap) (locs : List Loc) (ls : Array Slot), K21 x1 x2 x3 x4 x5 jE eW eY dU fY gJ jG nU qY qU pR uM tD qB jK -> va_P (dC, dI) classes (aHc cI cC cZ cB cJ a_x xI xH xB vI wY xX yA xY uD xO tJ jJ mY pG pD pE eO uS tX uR rY tY wF uT wD rG wE dN bD bJ aI uU gF pL qF mX oE dY jE eW eY dU fY gJ jG nU pQ qI sY uG pY nJ qY qU pN pR uM tD qB jK) H -> va_D A (aHc cI cC cZ cB cJ a_x xI xH xB vI wY xX yA xY uD xO tJ jJ mY pG pD pE eO uS tX uR rY tY wF uT wD rG wE dN bD bJ aI uU gF pL qF mX oE dY jE eW eY dU fY gJ jG nU pQ qI sY uG pY nJ qY qU pN pR uM tD qB jK) -> va_S A s.heap H locs -> lv_has ls 7 [(0, .ref a_x), (1, .int x1), (2, .int x2), (3, .int x3), (4, .int x4), (5, .int x5)] -> W p l e rm_X9_doActs s m args below meth c H locs 0 0 (MQ below (q_X9_doActs dC dI cI cC cZ cB cJ A a_x xI xH xB vI wY xX yA xY uD xO tJ jJ mY pG pD pE eO uS tX uR rY tY wF uT wD rG wE dN bD bJ aI uU gF pL qF mX oE dY pQ qI sY uG pY nJ pN post) args s 0 0 A) (F0 m 21 ls [])) : ∀ (x1 x2 x4 x5 k0 jE eW eY dU fY gJ jG nU : Int32) (qY qU : Nat -> Int32) (pR uM : Int32) (tD : Nat -> Int32) (qB : Int32) (jK : Nat -> Int32) (H : Heap) (locs : List Loc) (ls : Array Slot), (ws_X9_doActs_94 post K21 wE dN bD uU gF pL qF mX oE dY pQ pN) x1 x2 x4 x5 k0 jE eW eY dU fY gJ jG nU qY qU pR uM tD qB jK -> va_P (dC, dI) classes (aHc cI cC cZ cB cJ a_x xI xH xB vI wY xX yA xY uD xO tJ jJ mY pG pD pE eO uS tX uR rY tY wF uT wD rG wE dN bD bJ aI uU gF pL qF mX oE dY jE eW eY dU fY gJ jG nU pQ qI sY uG pY nJ qY qU pN pR uM tD qB jK) H -> va_D A (aHc cI cC cZ cB cJ a_x xI xH xB vI wY xX yA xY uD xO tJ jJ mY pG pD pE eO uS tX uR rY tY wF uT wD rG wE dN bD bJ aI uU gF pL qF mX oE dY jE eW eY dU fY gJ jG nU pQ qI sY uG pY nJ qY qU pN pR uM tD qB jK) -> va_S A s.heap H locs -> lv_has ls 7 [(0, .ref a_x), (1, .int x1), (2, .int x2), (4, .int x4), (5, .int x5)] -> W p l e rm_X9_doActs s m args below meth c H locs 0 0 (MQ below (q_X9_doActs dC dI cI cC cZ cB cJ A a_x xI xH xB vI wY xX yA xY uD xO tJ jJ mY pG pD pE eO uS tX uR rY tY wF uT wD rG wE dN bD bJ aI uU gF pL qF mX oE dY pQ qI sY uG pY nJ pN post) args s 0 0 A) (F0 m 94 ls [.int k0]) := by
  obtain ⟨hx, hb, hr, hml, hown, hts, hlocks, hA, hK, hN, tL, tM, hZL, hTL, hZM, hTM, hZX⟩ := id C0
  intro x1 x2 x4 x5 k0 jE eW eY dU fY gJ jG nU qY qU pR uM tD qB jK H locs ls hp hP hD hS hl
  unfold ws_X9_doActs_94 at hp
  refine lv_iconst (v := 1) hx hb aTq.2.1 aDx ?_
  refine lv_goto (tgt := 99) hx hb aTq.2.2.1 (by decide) ?_
  exact ks_X9_doActs_99 C0 hK21 x1 x2 x4 x5 k0 1 jE eW eY dU fY gJ jG nU qY qU pR uM tD qB jK H locs ls hp hP hD hS (lv_sub hl [0, 1, 2, 3, 4] rfl)
def ws_X9_doActs_21 (post : Int32 -> Int32 -> Int32 -> Int32 -> Int32 -> Int32 -> Int32 -> Int32 -> Int32 -> (Nat -> Int32) -> (Nat -> Int32) -> Int32 -> Int32 -> (Nat -> Int32) -> Int32 -> (Nat -> Int32) -> Prop) (next : Int32 -> Int32 -> Int32 -> Int32 -> Int32 -> Int32 -> Int32 -> Int32 -> Int32 -> Int32 -> Int32 -> Int32 -> Int32 -> (Nat -> Int32) -> (Nat -> Int32) -> Int32 -> Int32 -> (Nat -> Int32) -> Int32 -> (Nat -> Int32) -> Prop) (wE : Nat -> Int32) (dN bD : Int32) (uU gF pL qF mX oE dY : Nat -> Int32) (pQ : Int32) (pN : Nat -> Int32) (x1 x2 x3 x4 x5 jE eW eY dU fY gJ jG nU : Int32) (qY qU : Nat -> Int32) (pR uM : Int32) (tD : Nat -> Int32) (qB : Int32) (jK : Nat -> Int32) : Prop := (x1 <= x5 -> ws_X9_doActs_107 post wE dN bD uU gF pL qF mX oE dY pQ pN x2 x3 x4 jE eW eY dU fY gJ jG nU qY qU pR uM tD qB jK) /\ (¬ x1 <= x5 -> (30 <= x5 -> ws_X9_doActs_107 post wE dN bD uU gF pL qF mX oE dY pQ pN x2 x3 x4 jE eW eY dU fY gJ jG nU qY qU pR uM tD qB jK) /\ (¬ 30 <= x5 -> (¬ x4 = 0 -> ws_X9_doActs_107 post wE dN bD uU gF pL qF mX oE dY pQ pN x2 x3 x4 jE eW eY dU fY gJ jG nU qY qU pR uM tD qB jK) /\ (x4 = 0 -> vp_in x5 30 /\ (∀ v_6 : Int32, v_6 = wE x5.toNatClampNeg -> ∀ v_7 : Int32, v_7 = v_6 / 100 -> vp_in x5 30 /\ (∀ v_8 : Int32, v_8 = wE x5.toNatClampNeg -> ∀ v_9 : Int32, v_9 = v_8 - v_8 / 100 * 100 -> wp_X9_doAct (fun r_10 no_apron_11 no_basket_12 no_ground_13 no_bruised_14 no_ladder_15 no_helper_16 no_today_17 no_clock_18 ru_given_19 ru_stack_20 => (0 <= r_10 -> ∀ v_21 : Int32, v_21 = x2 + 1 -> (v_7 = 112 -> ws_X9_doActs_94 post next wE dN bD uU gF pL qF mX oE dY pQ pN x1 v_21 x4 x5 x3 no_apron_11 no_basket_12 no_ground_13 no_bruised_14 no_ladder_15 no_helper_16 no_today_17 no_clock_18 ru_given_19 ru_stack_20 pR uM tD qB jK) /\ (¬ v_7 = 112 -> (¬ v_7 = 104 -> ws_X9_doActs_99 post next wE dN bD uU gF pL qF mX oE dY pQ pN x1 v_21 x4 x5 x3 0 no_apron_11 no_basket_12 no_ground_13 no_bruised_14 no_ladder_15 no_helper_16 no_today_17 no_clock_18 ru_given_19 ru_stack_20 pR uM tD qB jK) /\ (v_7 = 104 -> ws_X9_doActs_94 post next wE dN bD uU gF pL qF mX oE dY pQ pN x1 v_21 x4 x5 x3 no_apron_11 no_basket_12 no_ground_13 no_bruised_14 no_ladder_15 no_helper_16 no_today_17 no_clock_18 ru_given_19 ru_stack_20 pR uM tD qB jK))) /\ (¬ 0 <= r_10 -> ws_X9_doActs_101 post next wE dN bD uU gF pL qF mX oE dY pQ pN x1 x2 x3 1 x5 no_apron_11 no_basket_12 no_ground_13 no_bruised_14 no_ladder_15 no_helper_16 no_today_17 no_clock_18 ru_given_19 ru_stack_20 pR uM tD qB jK)) v_7 v_9 dN bD uU gF pL qF mX oE dY jE eW eY dU fY gJ jG nU pQ qY qU pN)))))
noncomputable def wb_X9_doActs_21 (post : Int32 -> Int32 -> Int32 -> Int32 -> Int32 -> Int32 -> Int32 -> Int32 -> Int32 -> (Nat -> Int32) -> (Nat -> Int32) -> Int32 -> Int32 -> (Nat -> Int32) -> Int32 -> (Nat -> Int32) -> Prop) (wE : Nat -> Int32) (dN bD : Int32) (uU gF pL qF mX oE dY : Nat -> Int32) (pQ : Int32) (pN : Nat -> Int32) : Nat -> Int32 -> Int32 -> Int32 -> Int32 -> Int32 -> Int32 -> Int32 -> Int32 -> Int32 -> Int32 -> Int32 -> Int32 -> Int32 -> (Nat -> Int32) -> (Nat -> Int32) -> Int32 -> Int32 -> (Nat -> Int32) -> Int32 -> (Nat -> Int32) -> Prop := fun n => Nat.rec (motive := fun _ => Int32 -> Int32 -> Int32 -> Int32 -> Int32 -> Int32 -> Int32 -> Int32 -> Int32 -> Int32 -> Int32 -> Int32 -> Int32 -> (Nat -> Int32) -> (Nat -> Int32) -> Int32 -> Int32 -> (Nat -> Int32) -> Int32 -> (Nat -> Int32) -> Prop) (fun _ _ _ _ _ _ _ _ _ _ _ _ _ _ _ _ _ _ _ _ => False) (fun _ ih => ws_X9_doActs_21 post ih wE dN bD uU gF pL qF mX oE dY pQ pN) n
set_option maxHeartbeats 4000000 in
set_option maxRecDepth 100000 in
theorem ks_X9_doActs_21 (C0 : gc aC8 (some .int) 7 RX9 (dC, dI) (tyl cI cC cZ cB cJ) A p s m args meth c) {next : Int32 -> Int32 -> Int32 -> Int32 -> Int32 -> Int32 -> Int32 -> Int32 -> Int32 -> Int32 -> Int32 -> Int32 -> Int32 -> (Nat -> Int32) -> (Nat -> Int32) -> Int32 -> Int32 -> (Nat -> Int32) -> Int32 -> (Nat -> Int32) -> Prop} (hKn : ∀ (x1 : Int32) (x2 : Int32) (x3 : Int32) (x4 : Int32) (x5 : Int32) (jE : Int32) (eW : Int32) (eY : Int32) (dU : Int32) (fY : Int32) (gJ : Int32) (jG : Int32) (nU : Int32) (qY : Nat -> Int32) (qU : Nat -> Int32) (pR : Int32) (uM : Int32) (tD : Nat -> Int32) (qB : Int32) (jK : Nat -> Int32) (H : Heap) (locs : List Loc) (ls : Array Slot), next x1 x2 x3 x4 x5 jE eW eY dU fY gJ jG nU qY qU pR uM tD qB jK -> va_P (dC, dI) classes (aHc cI cC cZ cB cJ a_x xI xH xB vI wY xX yA xY uD xO tJ jJ mY pG pD pE eO uS tX uR rY tY wF uT wD rG wE dN bD bJ aI uU gF pL qF mX oE dY jE eW eY dU fY gJ jG nU pQ qI sY uG pY nJ qY qU pN pR uM tD qB jK) H -> va_D A (aHc cI cC cZ cB cJ a_x xI xH xB vI wY xX yA xY uD xO tJ jJ mY pG pD pE eO uS tX uR rY tY wF uT wD rG wE dN bD bJ aI uU gF pL qF mX oE dY jE eW eY dU fY gJ jG nU pQ qI sY uG pY nJ qY qU pN pR uM tD qB jK) -> va_S A s.heap H locs -> lv_has ls 7 [(0, .ref a_x), (1, .int x1), (2, .int x2), (3, .int x3), (4, .int x4), (5, .int x5)] -> W p l e rm_X9_doActs s m args below meth c H locs 0 0 (MQ below (q_X9_doActs dC dI cI cC cZ cB cJ A a_x xI xH xB vI wY xX yA xY uD xO tJ jJ mY pG pD pE eO uS tX uR rY tY wF uT wD rG wE dN bD bJ aI uU gF pL qF mX oE dY pQ qI sY uG pY nJ pN post) args s 0 0 A) (F0 m 21 ls [])) : ∀ (x1 x2 x3 x4 x5 jE eW eY dU fY gJ jG nU : Int32) (qY qU : Nat -> Int32) (pR uM : Int32) (tD : Nat -> Int32) (qB : Int32) (jK : Nat -> Int32) (H : Heap) (locs : List Loc) (ls : Array Slot), (ws_X9_doActs_21 post next wE dN bD uU gF pL qF mX oE dY pQ pN) x1 x2 x3 x4 x5 jE eW eY dU fY gJ jG nU qY qU pR uM tD qB jK -> va_P (dC, dI) classes (aHc cI cC cZ cB cJ a_x xI xH xB vI wY xX yA xY uD xO tJ jJ mY pG pD pE eO uS tX uR rY tY wF uT wD rG wE dN bD bJ aI uU gF pL qF mX oE dY jE eW eY dU fY gJ jG nU pQ qI sY uG pY nJ qY qU pN pR uM tD qB jK) H -> va_D A (aHc cI cC cZ cB cJ a_x xI xH xB vI wY xX yA xY uD xO tJ jJ mY pG pD pE eO uS tX uR rY tY wF uT wD rG wE dN bD bJ aI uU gF pL qF mX oE dY jE eW eY dU fY gJ jG nU pQ qI sY uG pY nJ qY qU pN pR uM tD qB jK) -> va_S A s.heap H locs -> lv_has ls 7 [(0, .ref a_x), (1, .int x1), (2, .int x2), (3, .int x3), (4, .int x4), (5, .int x5)] -> W p l e rm_X9_doActs s m args below meth c H locs 0 0 (MQ below (q_X9_doActs dC dI cI cC cZ cB cJ A a_x xI xH xB vI wY xX yA xY uD xO tJ jJ mY pG pD pE eO uS tX uR rY tY wF uT wD rG wE dN bD bJ aI uU gF pL qF mX oE dY pQ qI sY uG pY nJ pN post) args s 0 0 A) (F0 m 21 ls []) := by
  obtain ⟨hx, hb, hr, hml, hown, hts, hlocks, hA, hK, hN, tL, tM, hZL, hTL, hZM, hTM, hZX⟩ := id C0
  intro x1 x2 x3 x4 x5 jE eW eY dU fY gJ jG nU qY qU pR uM tD qB jK H locs ls hp hP hD hS hl
  unfold ws_X9_doActs_21 at hp
  refine lv_iload hx hb aWl.2.2.2.2.2.2.2.2.2.2.2.2.2.1 (lv_at hl 5 rfl) ?_
  refine lv_iload_n hx hb aWl.2.2.2.2.2.2.2.2.2.2.2.2.2.2.1 rfl (lv_at hl 1 rfl) ?_
  refine lv_icmp_ge (tgt := 107) hx hb aWl.2.2.2.2.2.2.2.2.2.2.2.2.2.2.2 (by decide) (fun hc => ?_) (fun hc => ?_)
  · have hp := hp.1 hc
    exact ks_X9_doActs_107 C0 x2 x3 x4 jE eW eY dU fY gJ jG nU qY qU pR uM tD qB jK H locs ls hp hP hD hS (lv_sub hl [0, 2, 3, 4] rfl)
  · have hp := hp.2 hc
    refine lv_iload hx hb aTo.1 (lv_at hl 5 rfl) ?_
    refine lv_bipush (v := 30) hx hb aTo.2.1 bp_30 ?_
    refine lv_icmp_ge (tgt := 107) hx hb aTo.2.2.1 (by decide) (fun hc => ?_) (fun hc => ?_)
    · have hp := hp.1 hc
      exact ks_X9_doActs_107 C0 x2 x3 x4 jE eW eY dU fY gJ jG nU qY qU pR uM tD qB jK H locs ls hp hP hD hS (lv_sub hl [0, 2, 3, 4] rfl)
    · have hp := hp.2 hc
      refine lv_iload hx hb aTo.2.2.2.1 (lv_at hl 4 rfl) ?_
      refine lv_if_ne (tgt := 107) hx hb aTo.2.2.2.2.1 (by decide) (fun hc => ?_) (fun hc => ?_)
      · have hp := hp.1 hc
        exact ks_X9_doActs_107 C0 x2 x3 x4 jE eW eY dU fY gJ jG nU qY qU pR uM tD qB jK H locs ls hp hP hD hS (lv_sub hl [0, 2, 3, 4] rfl)
      · have hp := hp.2 hc
        refine lv_aload_n hx hb aTo.2.2.2.2.2.1 rfl (lv_at hl 0 rfl) ?_
        refine va_get (D := (dC, dI)) (ci := 9) (v := .ref uD) (C := RX9) (T := TX9) (N := 9) hx hb hts aC3 hown hK hP 0 rfl rfl 8 (lbz rfl) (hts _ q_381) (fun _ h9 => h9) rfl aTo.2.2.2.2.2.2.1 ?_
        refine lv_iload hx hb aTo.2.2.2.2.2.2.2.1 (lv_at hl 5 rfl) ?_
        have hin := hp.1
        have hp := hp.2
        refine va_iald hx hb hK hP 1 0 rfl rfl hin aTo.2.2.2.2.2.2.2.2.1 ?_
        refine lv_topi (fun v_6 ev_6 => ?_)
        have hp := hp v_6 ev_6
        refine lv_bipush (v := 100) hx hb aTo.2.2.2.2.2.2.2.2.2.1 bp_100 ?_
        refine lv_idiv hx hb aTo.2.2.2.2.2.2.2.2.2.2.1 (by decide) ?_
        refine lv_topi (fun v_7 ev_7 => ?_)
        have hp := hp v_7 ev_7
        refine lv_istore (lv' := [(6, .int v_7), (0, .ref a_x), (1, .int x1), (2, .int x2), (3, .int x3), (4, .int x4), (5, .int x5)]) hx hb aTo.2.2.2.2.2.2.2.2.2.2.2.1 hl (by decide) rfl (fun ls hl => ?_)
        refine lv_aload_n hx hb aTo.2.2.2.2.2.2.2.2.2.2.2.2.1 rfl (lv_at hl 1 rfl) ?_
        refine lv_iload hx hb aTo.2.2.2.2.2.2.2.2.2.2.2.2.2.1 (lv_at hl 0 rfl) ?_
        refine lv_aload_n hx hb aTo.2.2.2.2.2.2.2.2.2.2.2.2.2.2.1 rfl (lv_at hl 1 rfl) ?_
        refine va_get (D := (dC, dI)) (ci := 9) (v := .ref uD) (C := RX9) (T := TX9) (N := 9) hx hb hts aC3 hown hK hP 0 rfl rfl 8 (lbz rfl) (hts _ q_381) (fun _ h9 => h9) rfl aTo.2.2.2.2.2.2.2.2.2.2.2.2.2.2.2 ?_
        refine lv_iload hx hb aTp.1 (lv_at hl 6 rfl) ?_
        have hin := hp.1
        have hp := hp.2
        refine va_iald hx hb hK hP 1 0 rfl rfl hin aTp.2.1 ?_
        refine lv_topi (fun v_8 ev_8 => ?_)
        have hp := hp v_8 ev_8
        refine lv_bipush (v := 100) hx hb aTp.2.2.1 bp_100 ?_
        refine lv_irem hx hb aTp.2.2.2.1 (by decide) ?_
        refine lv_topi (fun v_9 ev_9 => ?_)
        have hp := hp v_9 ev_9
        have hm := mgk (wc := (bAv cI cC cZ cB cJ a_x xI xH xB vI wY xX yA xY uD xO tJ jJ mY pG pD pE eO uS tX uR rY tY dN bD bJ aI uU gF pL qF mX oE dY jE eW eY dU fY gJ jG nU pQ qI sY uG pY nJ qY qU pN)) hP mk_88 20 rfl rfl rfl
        refine yW hP hD hS hA (yS mk_88) (aAi mk_88) hm.1 hm.2 (aAk _) (zW _) (zF (As := [.int v_7, .int v_9]) (rest := []) C0 hP hD hS (yS mk_88) hm.1 (aAl _) 0 9 rfl rfl (c_X9_doAct l dC dI cI cC cZ cB cJ a_x xI xH xB vI wY xX yA xY uD xO tJ jJ mY pG pD pE eO uS tX uR rY tY H.size v_7 v_9 dN bD bJ aI uU gF pL qF mX oE dY jE eW eY dU fY gJ jG nU pQ qI sY uG pY nJ qY qU pN _ hp) q_382 q_385 q_383 q_384 aIl h_X9_doAct rfl rfl ⟨lbz rfl, lbz rfl⟩ rfl rfl hl.1 rfl (lv_room (lbz rfl)) aTp.2.2.2.2.1 ⟨Nat.zero_le _, Nat.zero_le _⟩) (fun r_10 u H locs hp hP hD hS => ?_)
        obtain ⟨no_apron_11, no_basket_12, no_ground_13, no_bruised_14, no_ladder_15, no_helper_16, no_today_17, no_clock_18, ru_given_19, ru_stack_20⟩ := u
        have hPD := PDm (ws' := (aHc cI cC cZ cB cJ a_x xI xH xB vI wY xX yA xY uD xO tJ jJ mY pG pD pE eO uS tX uR rY tY wF uT wD rG wE dN bD bJ aI uU gF pL qF mX oE dY no_apron_11 no_basket_12 no_ground_13 no_bruised_14 no_ladder_15 no_helper_16 no_today_17 no_clock_18 pQ qI sY uG pY nJ ru_given_19 ru_stack_20 pN pR uM tD qB jK)) hP hD 20 rfl rfl rfl
        have hP := hPD.1
        have hD := hPD.2
        refine lv_if_ge (tgt := 76) hx hb aTp.2.2.2.2.2.1 (by decide) (fun hc => ?_) (fun hc => ?_)
        · have hp := hp.1 hc
          obtain ⟨v_21, ev_21⟩ : ∃ y : Int32, y = x2 + 1 := ⟨_, rfl⟩
          refine lv_iinc (v := v_21) (lv' := [(2, .int v_21), (6, .int v_7), (0, .ref a_x), (1, .int x1), (3, .int x3), (4, .int x4), (5, .int x5)]) hx hb aTp.2.2.2.2.2.2.2.2.2.1 hl (k := 3) rfl (by rw [ev_21]; rfl) (by decide) rfl (fun ls hl => ?_)
          have hp := hp v_21 ev_21
          refine lv_iload_n hx hb aTp.2.2.2.2.2.2.2.2.2.2.1 rfl (lv_at hl 4 rfl) ?_
          refine lv_iload hx hb aTp.2.2.2.2.2.2.2.2.2.2.2.1 (lv_at hl 1 rfl) ?_
          refine lv_bipush (v := 112) hx hb aTp.2.2.2.2.2.2.2.2.2.2.2.2.1 bp_112 ?_
          refine lv_icmp_eq (tgt := 94) hx hb aTp.2.2.2.2.2.2.2.2.2.2.2.2.2.1 (by decide) (fun hc => ?_) (fun hc => ?_)
          · have hp := hp.1 hc
            exact ks_X9_doActs_94 C0 hKn x1 v_21 x4 x5 x3 no_apron_11 no_basket_12 no_ground_13 no_bruised_14 no_ladder_15 no_helper_16 no_today_17 no_clock_18 ru_given_19 ru_stack_20 pR uM tD qB jK H locs ls hp hP hD hS (lv_sub hl [2, 3, 0, 5, 6] rfl)
          · have hp := hp.2 hc
            refine lv_iload hx hb aTp.2.2.2.2.2.2.2.2.2.2.2.2.2.2.1 (lv_at hl 1 rfl) ?_
            refine lv_bipush (v := 104) hx hb aTp.2.2.2.2.2.2.2.2.2.2.2.2.2.2.2 bp_104 ?_
            refine lv_icmp_ne (tgt := 98) hx hb aTq.1 (by decide) (fun hc => ?_) (fun hc => ?_)
            · have hp := hp.1 hc
              refine lv_iconst (v := 0) hx hb aTq.2.2.2.1 aCi ?_
              exact ks_X9_doActs_99 C0 hKn x1 v_21 x4 x5 x3 0 no_apron_11 no_basket_12 no_ground_13 no_bruised_14 no_ladder_15 no_helper_16 no_today_17 no_clock_18 ru_given_19 ru_stack_20 pR uM tD qB jK H locs ls hp hP hD hS (lv_sub hl [2, 3, 0, 5, 6] rfl)
            · have hp := hp.2 hc
              exact ks_X9_doActs_94 C0 hKn x1 v_21 x4 x5 x3 no_apron_11 no_basket_12 no_ground_13 no_bruised_14 no_ladder_15 no_helper_16 no_today_17 no_clock_18 ru_given_19 ru_stack_20 pR uM tD qB jK H locs ls hp hP hD hS (lv_sub hl [2, 3, 0, 5, 6] rfl)
        · have hp := hp.2 hc
          refine lv_iconst (v := 1) hx hb aTp.2.2.2.2.2.2.1 aDx ?_
          refine lv_istore (lv' := [(4, .int 1), (6, .int v_7), (0, .ref a_x), (1, .int x1), (2, .int x2), (3, .int x3), (5, .int x5)]) hx hb aTp.2.2.2.2.2.2.2.1 hl (by decide) rfl (fun ls hl => ?_)
          refine lv_goto (tgt := 101) hx hb aTp.2.2.2.2.2.2.2.2.1 (by decide) ?_
          exact ks_X9_doActs_101 C0 hKn x1 x2 x3 1 x5 no_apron_11 no_basket_12 no_ground_13 no_bruised_14 no_ladder_15 no_helper_16 no_today_17 no_clock_18 ru_given_19 ru_stack_20 pR uM tD qB jK H locs ls hp hP hD hS (lv_sub hl [2, 3, 4, 5, 0, 6] rfl)
set_option maxHeartbeats 4000000 in
set_option maxRecDepth 100000 in
theorem kb_X9_doActs_21 (C0 : gc aC8 (some .int) 7 RX9 (dC, dI) (tyl cI cC cZ cB cJ) A p s m args meth c) : ∀ (n : Nat), ∀ (x1 x2 x3 x4 x5 jE eW eY dU fY gJ jG nU : Int32) (qY qU : Nat -> Int32) (pR uM : Int32) (tD : Nat -> Int32) (qB : Int32) (jK : Nat -> Int32) (H : Heap) (locs : List Loc) (ls : Array Slot), (wb_X9_doActs_21 post wE dN bD uU gF pL qF mX oE dY pQ pN n) x1 x2 x3 x4 x5 jE eW eY dU fY gJ jG nU qY qU pR uM tD qB jK -> va_P (dC, dI) classes (aHc cI cC cZ cB cJ a_x xI xH xB vI wY xX yA xY uD xO tJ jJ mY pG pD pE eO uS tX uR rY tY wF uT wD rG wE dN bD bJ aI uU gF pL qF mX oE dY jE eW eY dU fY gJ jG nU pQ qI sY uG pY nJ qY qU pN pR uM tD qB jK) H -> va_D A (aHc cI cC cZ cB cJ a_x xI xH xB vI wY xX yA xY uD xO tJ jJ mY pG pD pE eO uS tX uR rY tY wF uT wD rG wE dN bD bJ aI uU gF pL qF mX oE dY jE eW eY dU fY gJ jG nU pQ qI sY uG pY nJ qY qU pN pR uM tD qB jK) -> va_S A s.heap H locs -> lv_has ls 7 [(0, .ref a_x), (1, .int x1), (2, .int x2), (3, .int x3), (4, .int x4), (5, .int x5)] -> W p l e rm_X9_doActs s m args below meth c H locs 0 0 (MQ below (q_X9_doActs dC dI cI cC cZ cB cJ A a_x xI xH xB vI wY xX yA xY uD xO tJ jJ mY pG pD pE eO uS tX uR rY tY wF uT wD rG wE dN bD bJ aI uU gF pL qF mX oE dY pQ qI sY uG pY nJ pN post) args s 0 0 A) (F0 m 21 ls []) := by
  intro n
  induction n with
  | zero =>
    intro x1 x2 x3 x4 x5 jE eW eY dU fY gJ jG nU qY qU pR uM tD qB jK H locs ls hp
    exact False.elim hp
  | succ n ih =>
    intro x1 x2 x3 x4 x5 jE eW eY dU fY gJ jG nU qY qU pR uM tD qB jK H locs ls hp
    exact ks_X9_doActs_21 C0 ih x1 x2 x3 x4 x5 jE eW eY dU fY gJ jG nU qY qU pR uM tD qB jK H locs ls hp
end S_X9_doActs
def wp_X9_doActs (post : Int32 -> Int32 -> Int32 -> Int32 -> Int32 -> Int32 -> Int32 -> Int32 -> Int32 -> (Nat -> Int32) -> (Nat -> Int32) -> Int32 -> Int32 -> (Nat -> Int32) -> Int32 -> (Nat -> Int32) -> Prop) (p0 : Int32) (wE : Nat -> Int32) (dN bD : Int32) (uU gF pL qF mX oE dY : Nat -> Int32) (jE eW eY dU fY gJ jG nU pQ : Int32) (qY qU pN : Nat -> Int32) (pR uM : Int32) (tD : Nat -> Int32) (qB : Int32) (jK : Nat -> Int32) : Prop := wp_X4_note (fun aGG => ∃ n : Nat, wb_X9_doActs_21 post wE dN bD uU gF pL qF mX oE dY pQ pN n p0 0 0 0 0 jE eW eY dU fY gJ jG nU qY qU pR uM aGG qB jK) jE eW eY dU fY gJ jG nU uM tD
set_option maxHeartbeats 4000000 in
set_option maxRecDepth 100000 in
theorem c_X9_doActs (l : Launch) (dC : Nat -> ClassId) (dI : Nat -> Nat -> Nat) (cI cC cZ cB cJ : ClassId) (a_x xI xH xB vI wY xX yA xY uD xO tJ jJ mY pG pD pE eO uS tX uR rY tY wF uT wD rG sz : Nat) (p0 : Int32) (wE : Nat -> Int32) (dN bD bJ aI : Int32) (uU gF pL qF mX oE dY : Nat -> Int32) (jE eW eY dU fY gJ jG nU pQ qI sY uG pY nJ : Int32) (qY qU pN : Nat -> Int32) (pR uM : Int32) (tD : Nat -> Int32) (qB : Int32) (jK : Nat -> Int32) (post : Int32 -> Int32 -> Int32 -> Int32 -> Int32 -> Int32 -> Int32 -> Int32 -> Int32 -> (Nat -> Int32) -> (Nat -> Int32) -> Int32 -> Int32 -> (Nat -> Int32) -> Int32 -> (Nat -> Int32) -> Prop) (hw : wp_X9_doActs post p0 wE dN bD uU gF pL qF mX oE dY jE eW eY dU fY gJ jG nU pQ qY qU pN pR uM tD qB jK) : Met l yX9_doActs (gw yX9_doActs aC8 7 (some .int)) rm_X9_doActs (va_Pc [.ref a_x, .int p0] (gPre (dC, dI) (tyl cI cC cZ cB cJ) (aHc cI cC cZ cB cJ a_x xI xH xB vI wY xX yA xY uD xO tJ jJ mY pG pD pE eO uS tX uR rY tY wF uT wD rG wE dN bD bJ aI uU gF pL qF mX oE dY jE eW eY dU fY gJ jG nU pQ qI sY uG pY nJ qY qU pN pR uM tD qB jK) sz)) (q_X9_doActs dC dI cI cC cZ cB cJ (va_A (aHc cI cC cZ cB cJ a_x xI xH xB vI wY xX yA xY uD xO tJ jJ mY pG pD pE eO uS tX uR rY tY wF uT wD rG wE dN bD bJ aI uU gF pL qF mX oE dY jE eW eY dU fY gJ jG nU pQ qI sY uG pY nJ qY qU pN pR uM tD qB jK) sz) a_x xI xH xB vI wY xX yA xY uD xO tJ jJ mY pG pD pE eO uS tX uR rY tY wF uT wD rG wE dN bD bJ aI uU gF pL qF mX oE dY pQ qI sY uG pY nJ pN post) 0 0 (va_A (aHc cI cC cZ cB cJ a_x xI xH xB vI wY xX yA xY uD xO tJ jJ mY pG pD pE eO uS tX uR rY tY wF uT wD rG wE dN bD bJ aI uU gF pL qF mX oE dY jE eW eY dU fY gJ jG nU pQ qI sY uG pY nJ qY qU pN pR uM tD qB jK) sz) := by
  refine aBJ (own := RX9) (dC, dI) (tyl cI cC cZ cB cJ) (aHc cI cC cZ cB cJ a_x xI xH xB vI wY xX yA xY uD xO tJ jJ mY pG pD pE eO uS tX uR rY tY wF uT wD rG wE dN bD bJ aI uU gF pL qF mX oE dY jE eW eY dU fY gJ jG nU pQ qI sY uG pY nJ qY qU pN pR uM tD qB jK) sz [.ref a_x, .int p0] (fun A => q_X9_doActs dC dI cI cC cZ cB cJ A a_x xI xH xB vI wY xX yA xY uD xO tJ jJ mY pG pD pE eO uS tX uR rY tY wF uT wD rG wE dN bD bJ aI uU gF pL qF mX oE dY pQ qI sY uG pY nJ pN post) pn_RX9 rfl (lbz rfl) ?_
  intro p e s m args below meth c A H locs ls C0 hP hD hS hl
  have hl : lv_has ls 7 [(0, .ref a_x), (1, .int p0)] := hl
  obtain ⟨hx, hb, hr, hml, hown, hts, hlocks, hA, hK, hN, tL, tM, hZL, hTL, hZM, hTM, hZX⟩ := id C0
  have hp := hw
  unfold wp_X9_doActs at hp
  refine lv_aload_n hx hb aWl.1 rfl (lv_at hl 0 rfl) ?_
  refine va_get (D := (dC, dI)) (ci := 9) (v := .ref xX) (C := RX9) (T := TX9) (N := 9) hx hb hts aC3 hown hK hP 0 rfl rfl 5 (lbz rfl) (hts _ q_91) (fun _ h9 => h9) rfl aWl.2.1 ?_
  refine lv_aload_n hx hb aWl.2.2.1 rfl (lv_at hl 0 rfl) ?_
  refine va_get (D := (dC, dI)) (ci := 9) (v := .ref wY) (C := RX9) (T := TX9) (N := 9) hx hb hts aC3 hown hK hP 0 rfl rfl 4 (lbz rfl) (hts _ q_179) (fun _ h9 => h9) rfl aWl.2.2.2.1 ?_
  have hm := mgk (wc := (wd_X4_note cI cC cZ cB cJ wY xX wF uT wD jE eW eY dU fY gJ jG nU pR uM tD)) hP mk_89 20 rfl rfl rfl
  refine aBn hP hD hS hA (yS mk_89) (aAi mk_89) hm.1 hm.2 (aAk _) (zW _) (zF (As := [.ref wY]) (rest := []) C0 hP hD hS (yS mk_89) hm.1 (aAl _) 16 4 rfl rfl (c_X4_note l dC dI cI cC cZ cB cJ wY xX wF uT wD H.size jE eW eY dU fY gJ jG nU pR uM tD _ hp) q_247 q_250 q_248 q_249 q_93 h_X4_note rfl rfl ⟨lbz rfl, lbz rfl⟩ rfl rfl hl.1 rfl (lv_room (lbz rfl)) aWl.2.2.2.2.1 ⟨Nat.zero_le _, Nat.zero_le _⟩) (fun u H locs hp hP hD hS => ?_)
  obtain ⟨aGG, rfl⟩ : ∃ z, z = u := ⟨_, rfl⟩
  have hPD := PDm (ws' := (aHc cI cC cZ cB cJ a_x xI xH xB vI wY xX yA xY uD xO tJ jJ mY pG pD pE eO uS tX uR rY tY wF uT wD rG wE dN bD bJ aI uU gF pL qF mX oE dY jE eW eY dU fY gJ jG nU pQ qI sY uG pY nJ qY qU pN pR uM aGG qB jK)) hP hD 20 rfl rfl rfl
  have hP := hPD.1
  have hD := hPD.2
  refine lv_iconst (v := 0) hx hb aWl.2.2.2.2.2.1 aCi ?_
  refine lv_istore_n (lv' := [(2, .int 0), (0, .ref a_x), (1, .int p0)]) hx hb aWl.2.2.2.2.2.2.1 rfl hl (by decide) rfl (fun ls hl => ?_)
  refine lv_iconst (v := 0) hx hb aWl.2.2.2.2.2.2.2.1 aCi ?_
  refine lv_istore_n (lv' := [(3, .int 0), (2, .int 0), (0, .ref a_x), (1, .int p0)]) hx hb aWl.2.2.2.2.2.2.2.2.1 rfl hl (by decide) rfl (fun ls hl => ?_)
  refine lv_iconst (v := 0) hx hb aWl.2.2.2.2.2.2.2.2.2.1 aCi ?_
  refine lv_istore (lv' := [(4, .int 0), (3, .int 0), (2, .int 0), (0, .ref a_x), (1, .int p0)]) hx hb aWl.2.2.2.2.2.2.2.2.2.2.1 hl (by decide) rfl (fun ls hl => ?_)
  refine lv_iconst (v := 0) hx hb aWl.2.2.2.2.2.2.2.2.2.2.2.1 aCi ?_
  refine lv_istore (lv' := [(5, .int 0), (4, .int 0), (3, .int 0), (2, .int 0), (0, .ref a_x), (1, .int p0)]) hx hb aWl.2.2.2.2.2.2.2.2.2.2.2.2.1 hl (by decide) rfl (fun ls hl => ?_)
  obtain ⟨n9, hp⟩ := hp
  exact kb_X9_doActs_21 C0 n9 p0 0 0 0 0 jE eW eY dU fY gJ jG nU qY qU pR uM aGG qB jK H locs ls hp hP hD hS (lv_sub hl [4, 5, 3, 2, 1, 0] rfl)
abbrev aVO (cI cC cZ cB cJ : ClassId) (a_x xI xH xB vI wY xX yA xY uD uY : Nat) (qL qJ rX : Int32) (qM : Nat -> Int32) : va_W := [(a_x, .inr (9, [.ref xI, .ref xH, .ref xB, .ref vI, .ref wY, .ref xX, .ref yA, .ref xY, .ref uD])), (xI, .inr (8, [.ref uY, .int qL, .int qJ, .int rX])), (uY, .inl (cC, 80, .inl qM))]
abbrev q_X9_readAct (dC : Nat -> ClassId) (dI : Nat -> Nat -> Nat) (cI cC cZ cB cJ : ClassId) (A : Nat -> Prop) (a_x xI xH xB vI wY xX yA xY uD uY : Nat) (qL rX : Int32) (qM : Nat -> Int32) (post : Int32 -> Int32 -> Prop) : Array Value -> State -> Outcome -> State -> Prop := va_Qi (fun (r u : Int32) => post r u) (fun u t => gB (dC, dI) (tyl cI cC cZ cB cJ) A (aVO cI cC cZ cB cJ a_x xI xH xB vI wY xX yA xY uD uY qL u rX qM) t) A
abbrev rm_X9_readAct : Room := { frames := 2, cells := 0, slots := 0, locals := 45 }
section S_X9_readAct
variable {p : Program} {l : Launch} {e : Env} {s : State} {m : MethodId} {args : Array Value} {below : List Frame} {meth : Method} {c : Code} {dC : Nat -> ClassId} {dI : Nat -> Nat -> Nat} {cI cC cZ cB cJ : ClassId} {A : Nat -> Prop} {a_x xI xH xB vI wY xX yA xY uD uY : Nat} {qL rX : Int32} {qM : Nat -> Int32} {post : Int32 -> Int32 -> Prop}
def aUJ (post : Int32 -> Int32 -> Prop) (rX : Int32) (qM : Nat -> Int32) (x1 x2 qJ : Int32) : Prop := wp_X8_skip (fun aCK => (¬ x2 = 0 -> aMm (fun r_3 aDB => (¬ r_3 = (-1) -> ∀ v_5 : Int32, v_5 = x1 * 100 -> post (v_5 + r_3) aDB) /\ (r_3 = (-1) -> post (-1) aDB)) x2 aCK rX qM) /\ (x2 = 0 -> post (x1 * 100) aCK)) qJ rX
set_option maxHeartbeats 4000000 in
set_option maxRecDepth 100000 in
theorem ks_X9_readAct_143 (C0 : gc aFA (some .int) 4 RX9 (dC, dI) (tyl cI cC cZ cB cJ) A p s m args meth c) : ∀ (x1 x2 qJ : Int32) (H : Heap) (locs : List Loc) (ls : Array Slot), (aUJ post rX qM) x1 x2 qJ -> va_P (dC, dI) classes (aVO cI cC cZ cB cJ a_x xI xH xB vI wY xX yA xY uD uY qL qJ rX qM) H -> va_D A (aVO cI cC cZ cB cJ a_x xI xH xB vI wY xX yA xY uD uY qL qJ rX qM) -> va_S A s.heap H locs -> lv_has ls 4 [(0, .ref a_x), (1, .int x1), (2, .int x2)] -> W p l e rm_X9_readAct s m args below meth c H locs 0 0 (MQ below (q_X9_readAct dC dI cI cC cZ cB cJ A a_x xI xH xB vI wY xX yA xY uD uY qL rX qM post) args s 0 0 A) (F0 m 143 ls []) := by
  obtain ⟨hx, hb, hr, hml, hown, hts, hlocks, hA, hK, hN, tL, tM, hZL, hTL, hZM, hTM, hZX⟩ := id C0
  intro x1 x2 qJ H locs ls hp hP hD hS hl
  unfold aUJ at hp
  refine lv_aload_n hx hb aOV.2.1 rfl (lv_at hl 0 rfl) ?_
  refine va_get (D := (dC, dI)) (ci := 9) (v := .ref xI) (C := RX9) (T := TX9) (N := 9) hx hb hts aC3 hown hK hP 0 rfl rfl 0 (lbz rfl) (hts _ q_3) (fun _ h9 => h9) rfl aOV.2.2.1 ?_
  have hm := mgk (wc := (wd_X8_skip cI cC cZ cB cJ xI uY qL qJ rX)) hP mk_31 3 rfl rfl rfl
  refine aBn hP hD hS hA (yS mk_31) (aAi mk_31) hm.1 hm.2 (aAk _) (zW _) (zF (As := []) (rest := []) C0 hP hD hS (yS mk_31) hm.1 (aAl _) 1 8 rfl rfl (c_X8_skip l dC dI cI cC cZ cB cJ xI uY H.size qL qJ rX _ hp) q_29 q_387 q_30 q_31 q_5 h_X8_skip rfl rfl ⟨lbz rfl, lbz rfl⟩ rfl rfl hl.1 rfl (lv_room (lbz rfl)) aOV.2.2.2.1 ⟨Nat.zero_le _, Nat.zero_le _⟩) (fun u H locs hp hP hD hS => ?_)
  obtain ⟨aCK, rfl⟩ : ∃ z, z = u := ⟨_, rfl⟩
  have hPD := PDm (ws' := (aVO cI cC cZ cB cJ a_x xI xH xB vI wY xX yA xY uD uY qL aCK rX qM)) hP hD 3 rfl rfl rfl
  have hP := hPD.1
  have hD := hPD.2
  refine lv_iload_n hx hb aOV.2.2.2.2.1 rfl (lv_at hl 2 rfl) ?_
  refine lv_if_ne (tgt := 159) hx hb aOV.2.2.2.2.2.1 (by decide) (fun hc => ?_) (fun hc => ?_)
  · have hp := hp.1 hc
    refine lv_aload_n hx hb aOV.2.2.2.2.2.2.2.2.2.2.1 rfl (lv_at hl 0 rfl) ?_
    refine va_get (D := (dC, dI)) (ci := 9) (v := .ref xI) (C := RX9) (T := TX9) (N := 9) hx hb hts aC3 hown hK hP 0 rfl rfl 0 (lbz rfl) (hts _ q_3) (fun _ h9 => h9) rfl aOV.2.2.2.2.2.2.2.2.2.2.2.1 ?_
    refine lv_iload_n hx hb aOV.2.2.2.2.2.2.2.2.2.2.2.2.1 rfl (lv_at hl 2 rfl) ?_
    have hm := mgk (wc := (aG2 cI cC cZ cB cJ xI uY qL aCK rX qM)) hP mk_0 3 rfl rfl rfl
    refine yW hP hD hS hA (yS mk_0) (aAi mk_0) hm.1 hm.2 (aAk _) (zW _) (zF (As := [.int x2]) (rest := []) C0 hP hD hS (yS mk_0) hm.1 (aAl _) 1 8 rfl rfl (c_X8_readNumber l dC dI cI cC cZ cB cJ xI uY H.size x2 qL aCK rX qM _ hp) q_37 q_388 q_38 q_39 q_5 h_X8_readNumber rfl rfl ⟨lbz rfl, lbz rfl⟩ rfl rfl hl.1 rfl (lv_room (lbz rfl)) aOV.2.2.2.2.2.2.2.2.2.2.2.2.2.1 ⟨Nat.zero_le _, Nat.zero_le _⟩) (fun r_3 u H locs hp hP hD hS => ?_)
    obtain ⟨aDB, rfl⟩ : ∃ z, z = u := ⟨_, rfl⟩
    have hPD := PDm (ws' := (aVO cI cC cZ cB cJ a_x xI xH xB vI wY xX yA xY uD uY qL aDB rX qM)) hP hD 3 rfl rfl rfl
    have hP := hPD.1
    have hD := hPD.2
    refine lv_istore_n (lv' := [(3, .int r_3), (0, .ref a_x), (1, .int x1), (2, .int x2)]) hx hb aOV.2.2.2.2.2.2.2.2.2.2.2.2.2.2.1 rfl hl (by decide) rfl (fun ls hl => ?_)
    refine lv_iload_n hx hb aOV.2.2.2.2.2.2.2.2.2.2.2.2.2.2.2 rfl (lv_at hl 0 rfl) ?_
    refine lv_iconst (v := (-1)) hx hb aYw.1 aEJ ?_
    refine lv_icmp_ne (tgt := 177) hx hb aYw.2.1 (by decide) (fun hc => ?_) (fun hc => ?_)
    · have hp := hp.1 hc
      refine lv_iload_n hx hb aYw.2.2.2.2.1 rfl (lv_at hl 2 rfl) ?_
      refine lv_bipush (v := 100) hx hb aYw.2.2.2.2.2.1 bp_100 ?_
      refine lv_imul hx hb aYw.2.2.2.2.2.2.1 ?_
      refine lv_topi (fun v_5 aJD => ?_)
      have hp := hp v_5 aJD
      refine lv_iload_n hx hb aYw.2.2.2.2.2.2.2.1 rfl (lv_at hl 0 rfl) ?_
      refine lv_iadd hx hb aYw.2.2.2.2.2.2.2.2.1 ?_
      exact W.iret (v := v_5 + r_3) hx hb hr (fun t ht hW => ⟨⟨v_5 + r_3, aDB, rfl, hp, by rw [ht]; exact hP, va_K.moved hW.alike hK, hD⟩, hS.F ht⟩) hS.2.2 aYw.2.2.2.2.2.2.2.2.2
    · have hp := hp.2 hc
      refine lv_iconst (v := (-1)) hx hb aYw.2.2.1 aEJ ?_
      refine lv_goto (tgt := 183) hx hb aYw.2.2.2.1 (by decide) ?_
      exact W.iret (v := (-1)) hx hb hr (fun t ht hW => ⟨⟨(-1), aDB, rfl, hp, by rw [ht]; exact hP, va_K.moved hW.alike hK, hD⟩, hS.F ht⟩) hS.2.2 aYw.2.2.2.2.2.2.2.2.2
  · have hp := hp.2 hc
    refine lv_iload_n hx hb aOV.2.2.2.2.2.2.1 rfl (lv_at hl 1 rfl) ?_
    refine lv_bipush (v := 100) hx hb aOV.2.2.2.2.2.2.2.1 bp_100 ?_
    refine lv_imul hx hb aOV.2.2.2.2.2.2.2.2.1 ?_
    exact W.iret (v := x1 * 100) hx hb hr (fun t ht hW => ⟨⟨x1 * 100, aCK, rfl, hp, by rw [ht]; exact hP, va_K.moved hW.alike hK, hD⟩, hS.F ht⟩) hS.2.2 aOV.2.2.2.2.2.2.2.2.2.1
def aUI (post : Int32 -> Int32 -> Prop) (rX : Int32) (qM : Nat -> Int32) (x1 x2 qJ : Int32) : Prop := aUJ post rX qM x1 x2 qJ
set_option maxHeartbeats 4000000 in
set_option maxRecDepth 100000 in
theorem ks_X9_readAct_138 (C0 : gc aFA (some .int) 4 RX9 (dC, dI) (tyl cI cC cZ cB cJ) A p s m args meth c) : ∀ (x1 x2 qJ : Int32) (H : Heap) (locs : List Loc) (ls : Array Slot), (aUI post rX qM) x1 x2 qJ -> va_P (dC, dI) classes (aVO cI cC cZ cB cJ a_x xI xH xB vI wY xX yA xY uD uY qL qJ rX qM) H -> va_D A (aVO cI cC cZ cB cJ a_x xI xH xB vI wY xX yA xY uD uY qL qJ rX qM) -> va_S A s.heap H locs -> lv_has ls 4 [(0, .ref a_x), (1, .int x1), (2, .int x2)] -> W p l e rm_X9_readAct s m args below meth c H locs 0 0 (MQ below (q_X9_readAct dC dI cI cC cZ cB cJ A a_x xI xH xB vI wY xX yA xY uD uY qL rX qM post) args s 0 0 A) (F0 m 138 ls []) := by
  obtain ⟨hx, hb, hr, hml, hown, hts, hlocks, hA, hK, hN, tL, tM, hZL, hTL, hZM, hTM, hZX⟩ := id C0
  intro x1 x2 qJ H locs ls hp hP hD hS hl
  unfold aUI at hp
  refine lv_goto (tgt := 143) hx hb aEV.2.2.2.2.2.2.2.2.2.2.2.2.2.2.1 (by decide) ?_
  exact ks_X9_readAct_143 C0 x1 x2 qJ H locs ls hp hP hD hS (lv_sub hl [0, 1, 2] rfl)
def ws_X9_readAct_133 (post : Int32 -> Int32 -> Prop) (rX : Int32) (qM : Nat -> Int32) (x1 qJ : Int32) : Prop := aUJ post rX qM x1 2 qJ
set_option maxHeartbeats 4000000 in
set_option maxRecDepth 100000 in
theorem ks_X9_readAct_133 (C0 : gc aFA (some .int) 4 RX9 (dC, dI) (tyl cI cC cZ cB cJ) A p s m args meth c) : ∀ (x1 qJ : Int32) (H : Heap) (locs : List Loc) (ls : Array Slot), (ws_X9_readAct_133 post rX qM) x1 qJ -> va_P (dC, dI) classes (aVO cI cC cZ cB cJ a_x xI xH xB vI wY xX yA xY uD uY qL qJ rX qM) H -> va_D A (aVO cI cC cZ cB cJ a_x xI xH xB vI wY xX yA xY uD uY qL qJ rX qM) -> va_S A s.heap H locs -> lv_has ls 4 [(0, .ref a_x), (1, .int x1)] -> W p l e rm_X9_readAct s m args below meth c H locs 0 0 (MQ below (q_X9_readAct dC dI cI cC cZ cB cJ A a_x xI xH xB vI wY xX yA xY uD uY qL rX qM post) args s 0 0 A) (F0 m 133 ls []) := by
  obtain ⟨hx, hb, hr, hml, hown, hts, hlocks, hA, hK, hN, tL, tM, hZL, hTL, hZM, hTM, hZX⟩ := id C0
  intro x1 qJ H locs ls hp hP hD hS hl
  unfold ws_X9_readAct_133 at hp
  refine lv_iconst (v := 2) hx hb aEV.2.2.2.2.2.2.2.2.2.2.2.1 ic_2 ?_
  refine lv_istore_n (lv' := [(2, .int 2), (0, .ref a_x), (1, .int x1)]) hx hb aEV.2.2.2.2.2.2.2.2.2.2.2.2.1 rfl hl (by decide) rfl (fun ls hl => ?_)
  refine lv_goto (tgt := 143) hx hb aEV.2.2.2.2.2.2.2.2.2.2.2.2.2.1 (by decide) ?_
  exact ks_X9_readAct_143 C0 x1 2 qJ H locs ls hp hP hD hS (lv_sub hl [1, 2, 0] rfl)
end S_X9_readAct
def wp_X9_readAct (post : Int32 -> Int32 -> Prop) (qJ rX : Int32) (qM : Nat -> Int32) : Prop := wp_X8_here (fun r_1 => (r_1 = 97 -> aUI post rX qM r_1 0 qJ) /\ (r_1 = 100 -> aUI post rX qM r_1 0 qJ) /\ (r_1 = 104 -> ws_X9_readAct_133 post rX qM r_1 qJ) /\ (r_1 = 107 -> aUI post rX qM r_1 0 qJ) /\ (r_1 = 109 -> aUJ post rX qM r_1 1 qJ) /\ (r_1 = 111 -> aUI post rX qM r_1 0 qJ) /\ (r_1 = 112 -> ws_X9_readAct_133 post rX qM r_1 qJ) /\ (r_1 = 122 -> aUI post rX qM r_1 0 qJ) /\ (¬ r_1 = 97 -> ¬ r_1 = 100 -> ¬ r_1 = 104 -> ¬ r_1 = 107 -> ¬ r_1 = 109 -> ¬ r_1 = 111 -> ¬ r_1 = 112 -> ¬ r_1 = 122 -> post (-1) qJ)) qJ rX qM
set_option maxHeartbeats 4000000 in
set_option maxRecDepth 100000 in
theorem c_X9_readAct (l : Launch) (dC : Nat -> ClassId) (dI : Nat -> Nat -> Nat) (cI cC cZ cB cJ : ClassId) (a_x xI xH xB vI wY xX yA xY uD uY sz : Nat) (qL qJ rX : Int32) (qM : Nat -> Int32) (post : Int32 -> Int32 -> Prop) (hw : wp_X9_readAct post qJ rX qM) : Met l yX9_readAct (gw yX9_readAct aFA 4 (some .int)) rm_X9_readAct (va_Pc [.ref a_x] (gPre (dC, dI) (tyl cI cC cZ cB cJ) (aVO cI cC cZ cB cJ a_x xI xH xB vI wY xX yA xY uD uY qL qJ rX qM) sz)) (q_X9_readAct dC dI cI cC cZ cB cJ (va_A (aVO cI cC cZ cB cJ a_x xI xH xB vI wY xX yA xY uD uY qL qJ rX qM) sz) a_x xI xH xB vI wY xX yA xY uD uY qL rX qM post) 0 0 (va_A (aVO cI cC cZ cB cJ a_x xI xH xB vI wY xX yA xY uD uY qL qJ rX qM) sz) := by
  refine aBJ (own := RX9) (dC, dI) (tyl cI cC cZ cB cJ) (aVO cI cC cZ cB cJ a_x xI xH xB vI wY xX yA xY uD uY qL qJ rX qM) sz [.ref a_x] (fun A => q_X9_readAct dC dI cI cC cZ cB cJ A a_x xI xH xB vI wY xX yA xY uD uY qL rX qM post) pn_RX9 rfl (lbz rfl) ?_
  intro p e s m args below meth c A H locs ls C0 hP hD hS hl
  have hl : lv_has ls 4 [(0, .ref a_x)] := hl
  obtain ⟨hx, hb, hr, hml, hown, hts, hlocks, hA, hK, hN, tL, tM, hZL, hTL, hZM, hTM, hZX⟩ := id C0
  have hp := hw
  unfold wp_X9_readAct at hp
  refine lv_aload_n hx hb aEV.1 rfl (lv_at hl 0 rfl) ?_
  refine va_get (D := (dC, dI)) (ci := 9) (v := .ref xI) (C := RX9) (T := TX9) (N := 9) hx hb hts aC3 hown hK hP 0 rfl rfl 0 (lbz rfl) (hts _ q_3) (fun _ h9 => h9) rfl aEV.2.1 ?_
  have hm := mgk (wc := (wd_X8_here cI cC cZ cB cJ xI uY qL qJ rX qM)) hP mk_0 3 rfl rfl rfl
  refine yW hP hD hS hA (yS mk_0) (aAi mk_0) hm.1 hm.2 (aAk _) (zW _) (zF (As := []) (rest := []) C0 hP hD hS (yS mk_0) hm.1 (aAl _) 1 8 rfl rfl (c_X8_here l dC dI cI cC cZ cB cJ xI uY H.size qL qJ rX qM _ hp) q_33 q_386 q_34 q_35 q_5 h_X8_here rfl rfl ⟨lbz rfl, lbz rfl⟩ rfl rfl hl.1 rfl (lv_room (lbz rfl)) aEV.2.2.1 ⟨Nat.zero_le _, Nat.zero_le _⟩) (fun r_1 u H locs hp hP hD hS => ?_)
  have hPD := PDm (ws' := (aVO cI cC cZ cB cJ a_x xI xH xB vI wY xX yA xY uD uY qL qJ rX qM)) hP hD 3 rfl rfl rfl
  have hP := hPD.1
  have hD := hPD.2
  refine lv_istore_n (lv' := [(1, .int r_1), (0, .ref a_x)]) hx hb aEV.2.2.2.1 rfl hl (by decide) rfl (fun ls hl => ?_)
  refine lv_iconst (v := 0) hx hb aEV.2.2.2.2.1 aCi ?_
  refine lv_istore_n (lv' := [(2, .int 0), (1, .int r_1), (0, .ref a_x)]) hx hb aEV.2.2.2.2.2.1 rfl hl (by decide) rfl (fun ls hl => ?_)
  refine lv_iload_n hx hb aEV.2.2.2.2.2.2.1 rfl (lv_at hl 1 rfl) ?_
  by_cases hc0 : r_1 = 97
  · have hp := hp.1 hc0
    refine lv_tableIn (tgt := 138) hx hb aEV.2.2.2.2.2.2.2.1 (by first | (rw [hc0]; done) | (rw [hc0]; decide)) (by first | (rw [hc0]; done) | (rw [hc0]; decide)) (by first | (rw [hc0]; done) | (rw [hc0]; rfl)) (by decide) ?_
    exact ks_X9_readAct_138 C0 r_1 0 qJ H locs ls hp hP hD hS (lv_sub hl [2, 1, 0] rfl)
  by_cases hc1 : r_1 = 100
  · have hp := hp.2.1 hc1
    refine lv_tableIn (tgt := 138) hx hb aEV.2.2.2.2.2.2.2.1 (by first | (rw [hc1]; done) | (rw [hc1]; decide)) (by first | (rw [hc1]; done) | (rw [hc1]; decide)) (by first | (rw [hc1]; done) | (rw [hc1]; rfl)) (by decide) ?_
    exact ks_X9_readAct_138 C0 r_1 0 qJ H locs ls hp hP hD hS (lv_sub hl [2, 1, 0] rfl)
  by_cases hc2 : r_1 = 104
  · have hp := hp.2.2.1 hc2
    refine lv_tableIn (tgt := 133) hx hb aEV.2.2.2.2.2.2.2.1 (by first | (rw [hc2]; done) | (rw [hc2]; decide)) (by first | (rw [hc2]; done) | (rw [hc2]; decide)) (by first | (rw [hc2]; done) | (rw [hc2]; rfl)) (by decide) ?_
    exact ks_X9_readAct_133 C0 r_1 qJ H locs ls hp hP hD hS (lv_sub hl [2, 1] rfl)
  by_cases hc3 : r_1 = 107
  · have hp := hp.2.2.2.1 hc3
    refine lv_tableIn (tgt := 138) hx hb aEV.2.2.2.2.2.2.2.1 (by first | (rw [hc3]; done) | (rw [hc3]; decide)) (by first | (rw [hc3]; done) | (rw [hc3]; decide)) (by first | (rw [hc3]; done) | (rw [hc3]; rfl)) (by decide) ?_
    exact ks_X9_readAct_138 C0 r_1 0 qJ H locs ls hp hP hD hS (lv_sub hl [2, 1, 0] rfl)
  by_cases hc4 : r_1 = 109
  · have hp := hp.2.2.2.2.1 hc4
    refine lv_tableIn (tgt := 128) hx hb aEV.2.2.2.2.2.2.2.1 (by first | (rw [hc4]; done) | (rw [hc4]; decide)) (by first | (rw [hc4]; done) | (rw [hc4]; decide)) (by first | (rw [hc4]; done) | (rw [hc4]; rfl)) (by decide) ?_
    refine lv_iconst (v := 1) hx hb aEV.2.2.2.2.2.2.2.2.1 aDx ?_
    refine lv_istore_n (lv' := [(2, .int 1), (1, .int r_1), (0, .ref a_x)]) hx hb aEV.2.2.2.2.2.2.2.2.2.1 rfl hl (by decide) rfl (fun ls hl => ?_)
    refine lv_goto (tgt := 143) hx hb aEV.2.2.2.2.2.2.2.2.2.2.1 (by decide) ?_
    exact ks_X9_readAct_143 C0 r_1 1 qJ H locs ls hp hP hD hS (lv_sub hl [2, 1, 0] rfl)
  by_cases hc5 : r_1 = 111
  · have hp := hp.2.2.2.2.2.1 hc5
    refine lv_tableIn (tgt := 138) hx hb aEV.2.2.2.2.2.2.2.1 (by first | (rw [hc5]; done) | (rw [hc5]; decide)) (by first | (rw [hc5]; done) | (rw [hc5]; decide)) (by first | (rw [hc5]; done) | (rw [hc5]; rfl)) (by decide) ?_
    exact ks_X9_readAct_138 C0 r_1 0 qJ H locs ls hp hP hD hS (lv_sub hl [2, 1, 0] rfl)
  by_cases hc6 : r_1 = 112
  · have hp := hp.2.2.2.2.2.2.1 hc6
    refine lv_tableIn (tgt := 133) hx hb aEV.2.2.2.2.2.2.2.1 (by first | (rw [hc6]; done) | (rw [hc6]; decide)) (by first | (rw [hc6]; done) | (rw [hc6]; decide)) (by first | (rw [hc6]; done) | (rw [hc6]; rfl)) (by decide) ?_
    exact ks_X9_readAct_133 C0 r_1 qJ H locs ls hp hP hD hS (lv_sub hl [2, 1] rfl)
  by_cases hc7 : r_1 = 122
  · have hp := hp.2.2.2.2.2.2.2.1 hc7
    refine lv_tableIn (tgt := 138) hx hb aEV.2.2.2.2.2.2.2.1 (by first | (rw [hc7]; done) | (rw [hc7]; decide)) (by first | (rw [hc7]; done) | (rw [hc7]; decide)) (by first | (rw [hc7]; done) | (rw [hc7]; rfl)) (by decide) ?_
    exact ks_X9_readAct_138 C0 r_1 0 qJ H locs ls hp hP hD hS (lv_sub hl [2, 1, 0] rfl)
  have hp := hp.2.2.2.2.2.2.2.2 hc0 hc1 hc2 hc3 hc4 hc5 hc6 hc7
  have key : W p l e rm_X9_readAct s m args below meth c H locs 0 0 (MQ below (q_X9_readAct dC dI cI cC cZ cB cJ A a_x xI xH xB vI wY xX yA xY uD uY qL rX qM post) args s 0 0 A) (F0 m 141 ls []) := by
    refine lv_iconst (v := (-1)) hx hb aEV.2.2.2.2.2.2.2.2.2.2.2.2.2.2.2 aEJ ?_
    exact W.iret (v := (-1)) hx hb hr (fun t ht hW => ⟨⟨(-1), qJ, rfl, hp, by rw [ht]; exact hP, va_K.moved hW.alike hK, hD⟩, hS.F ht⟩) hS.2.2 aOV.1
  by_cases hh0 : r_1 = 98
  · exact lv_tableIn (tgt := 141) hx hb aEV.2.2.2.2.2.2.2.1 (by first | (rw [hh0]; done) | (rw [hh0]; decide)) (by first | (rw [hh0]; done) | (rw [hh0]; decide)) (by first | (rw [hh0]; done) | (rw [hh0]; rfl)) (by decide) key
  by_cases hh1 : r_1 = 99
  · exact lv_tableIn (tgt := 141) hx hb aEV.2.2.2.2.2.2.2.1 (by first | (rw [hh1]; done) | (rw [hh1]; decide)) (by first | (rw [hh1]; done) | (rw [hh1]; decide)) (by first | (rw [hh1]; done) | (rw [hh1]; rfl)) (by decide) key
  by_cases hh2 : r_1 = 101
  · exact lv_tableIn (tgt := 141) hx hb aEV.2.2.2.2.2.2.2.1 (by first | (rw [hh2]; done) | (rw [hh2]; decide)) (by first | (rw [hh2]; done) | (rw [hh2]; decide)) (by first | (rw [hh2]; done) | (rw [hh2]; rfl)) (by decide) key
  by_cases hh3 : r_1 = 102
  · exact lv_tableIn (tgt := 141) hx hb aEV.2.2.2.2.2.2.2.1 (by first | (rw [hh3]; done) | (rw [hh3]; decide)) (by first | (rw [hh3]; done) | (rw [hh3]; decide)) (by first | (rw [hh3]; done) | (rw [hh3]; rfl)) (by decide) key
  by_cases hh4 : r_1 = 103
  · exact lv_tableIn (tgt := 141) hx hb aEV.2.2.2.2.2.2.2.1 (by first | (rw [hh4]; done) | (rw [hh4]; decide)) (by first | (rw [hh4]; done) | (rw [hh4]; decide)) (by first | (rw [hh4]; done) | (rw [hh4]; rfl)) (by decide) key
  by_cases hh5 : r_1 = 105
  · exact lv_tableIn (tgt := 141) hx hb aEV.2.2.2.2.2.2.2.1 (by first | (rw [hh5]; done) | (rw [hh5]; decide)) (by first | (rw [hh5]; done) | (rw [hh5]; decide)) (by first | (rw [hh5]; done) | (rw [hh5]; rfl)) (by decide) key
  by_cases hh6 : r_1 = 106
  · exact lv_tableIn (tgt := 141) hx hb aEV.2.2.2.2.2.2.2.1 (by first | (rw [hh6]; done) | (rw [hh6]; decide)) (by first | (rw [hh6]; done) | (rw [hh6]; decide)) (by first | (rw [hh6]; done) | (rw [hh6]; rfl)) (by decide) key
  by_cases hh7 : r_1 = 108
  · exact lv_tableIn (tgt := 141) hx hb aEV.2.2.2.2.2.2.2.1 (by first | (rw [hh7]; done) | (rw [hh7]; decide)) (by first | (rw [hh7]; done) | (rw [hh7]; decide)) (by first | (rw [hh7]; done) | (rw [hh7]; rfl)) (by decide) key
  by_cases hh8 : r_1 = 110
  · exact lv_tableIn (tgt := 141) hx hb aEV.2.2.2.2.2.2.2.1 (by first | (rw [hh8]; done) | (rw [hh8]; decide)) (by first | (rw [hh8]; done) | (rw [hh8]; decide)) (by first | (rw [hh8]; done) | (rw [hh8]; rfl)) (by decide) key
  by_cases hh9 : r_1 = 113
  · exact lv_tableIn (tgt := 141) hx hb aEV.2.2.2.2.2.2.2.1 (by first | (rw [hh9]; done) | (rw [hh9]; decide)) (by first | (rw [hh9]; done) | (rw [hh9]; decide)) (by first | (rw [hh9]; done) | (rw [hh9]; rfl)) (by decide) key
  by_cases hh10 : r_1 = 114
  · exact lv_tableIn (tgt := 141) hx hb aEV.2.2.2.2.2.2.2.1 (by first | (rw [hh10]; done) | (rw [hh10]; decide)) (by first | (rw [hh10]; done) | (rw [hh10]; decide)) (by first | (rw [hh10]; done) | (rw [hh10]; rfl)) (by decide) key
  by_cases hh11 : r_1 = 115
  · exact lv_tableIn (tgt := 141) hx hb aEV.2.2.2.2.2.2.2.1 (by first | (rw [hh11]; done) | (rw [hh11]; decide)) (by first | (rw [hh11]; done) | (rw [hh11]; decide)) (by first | (rw [hh11]; done) | (rw [hh11]; rfl)) (by decide) key
  by_cases hh12 : r_1 = 116
  · exact lv_tableIn (tgt := 141) hx hb aEV.2.2.2.2.2.2.2.1 (by first | (rw [hh12]; done) | (rw [hh12]; decide)) (by first | (rw [hh12]; done) | (rw [hh12]; decide)) (by first | (rw [hh12]; done) | (rw [hh12]; rfl)) (by decide) key
  by_cases hh13 : r_1 = 117
  · exact lv_tableIn (tgt := 141) hx hb aEV.2.2.2.2.2.2.2.1 (by first | (rw [hh13]; done) | (rw [hh13]; decide)) (by first | (rw [hh13]; done) | (rw [hh13]; decide)) (by first | (rw [hh13]; done) | (rw [hh13]; rfl)) (by decide) key
  by_cases hh14 : r_1 = 118
  · exact lv_tableIn (tgt := 141) hx hb aEV.2.2.2.2.2.2.2.1 (by first | (rw [hh14]; done) | (rw [hh14]; decide)) (by first | (rw [hh14]; done) | (rw [hh14]; decide)) (by first | (rw [hh14]; done) | (rw [hh14]; rfl)) (by decide) key
  by_cases hh15 : r_1 = 119
  · exact lv_tableIn (tgt := 141) hx hb aEV.2.2.2.2.2.2.2.1 (by first | (rw [hh15]; done) | (rw [hh15]; decide)) (by first | (rw [hh15]; done) | (rw [hh15]; decide)) (by first | (rw [hh15]; done) | (rw [hh15]; rfl)) (by decide) key
  by_cases hh16 : r_1 = 120
  · exact lv_tableIn (tgt := 141) hx hb aEV.2.2.2.2.2.2.2.1 (by first | (rw [hh16]; done) | (rw [hh16]; decide)) (by first | (rw [hh16]; done) | (rw [hh16]; decide)) (by first | (rw [hh16]; done) | (rw [hh16]; rfl)) (by decide) key
  by_cases hh17 : r_1 = 121
  · exact lv_tableIn (tgt := 141) hx hb aEV.2.2.2.2.2.2.2.1 (by first | (rw [hh17]; done) | (rw [hh17]; decide)) (by first | (rw [hh17]; done) | (rw [hh17]; decide)) (by first | (rw [hh17]; done) | (rw [hh17]; rfl)) (by decide) key
  exact lv_tableOut (tgt := 141) hx hb aEV.2.2.2.2.2.2.2.1 (by have g0 := lv_neT (a := 97) hc0 rfl; have g1 := lv_neT (a := 100) hc1 rfl; have g2 := lv_neT (a := 104) hc2 rfl; have g3 := lv_neT (a := 107) hc3 rfl; have g4 := lv_neT (a := 109) hc4 rfl; have g5 := lv_neT (a := 111) hc5 rfl; have g6 := lv_neT (a := 112) hc6 rfl; have g7 := lv_neT (a := 122) hc7 rfl; have f0 := lv_neT (a := 98) hh0 rfl; have f1 := lv_neT (a := 99) hh1 rfl; have f2 := lv_neT (a := 101) hh2 rfl; have f3 := lv_neT (a := 102) hh3 rfl; have f4 := lv_neT (a := 103) hh4 rfl; have f5 := lv_neT (a := 105) hh5 rfl; have f6 := lv_neT (a := 106) hh6 rfl; have f7 := lv_neT (a := 108) hh7 rfl; have f8 := lv_neT (a := 110) hh8 rfl; have f9 := lv_neT (a := 113) hh9 rfl; have f10 := lv_neT (a := 114) hh10 rfl; have f11 := lv_neT (a := 115) hh11 rfl; have f12 := lv_neT (a := 116) hh12 rfl; have f13 := lv_neT (a := 117) hh13 rfl; have f14 := lv_neT (a := 118) hh14 rfl; have f15 := lv_neT (a := 119) hh15 rfl; have f16 := lv_neT (a := 120) hh16 rfl; have f17 := lv_neT (a := 121) hh17 rfl; omega) (by decide) key
abbrev aQ9 (cI cC cZ cB cJ : ClassId) (a_x xI xH xB vI wY xX yA xY uD uY : Nat) (wE : Nat -> Int32) (qL qJ rX : Int32) (qM : Nat -> Int32) : va_W := [(a_x, .inr (9, [.ref xI, .ref xH, .ref xB, .ref vI, .ref wY, .ref xX, .ref yA, .ref xY, .ref uD])), (uD, .inl (cI, 30, .inl wE)), (xI, .inr (8, [.ref uY, .int qL, .int qJ, .int rX])), (uY, .inl (cC, 80, .inl qM))]
abbrev q_X9_readActs (dC : Nat -> ClassId) (dI : Nat -> Nat -> Nat) (cI cC cZ cB cJ : ClassId) (A : Nat -> Prop) (a_x xI xH xB vI wY xX yA xY uD uY : Nat) (qL rX : Int32) (qM : Nat -> Int32) (post : Int32 -> (Nat -> Int32) -> Int32 -> Prop) : Array Value -> State -> Outcome -> State -> Prop := va_Qi (fun (r : Int32) (u : (Nat -> Int32) × Int32) => post r u.1 u.2) (fun u t => gB (dC, dI) (tyl cI cC cZ cB cJ) A (aQ9 cI cC cZ cB cJ a_x xI xH xB vI wY xX yA xY uD uY u.1 qL u.2 rX qM) t) A
abbrev rm_X9_readActs : Room := { frames := 3, cells := 0, slots := 0, locals := 68 }
section S_X9_readActs
variable {p : Program} {l : Launch} {e : Env} {s : State} {m : MethodId} {args : Array Value} {below : List Frame} {meth : Method} {c : Code} {dC : Nat -> ClassId} {dI : Nat -> Nat -> Nat} {cI cC cZ cB cJ : ClassId} {A : Nat -> Prop} {a_x xI xH xB vI wY xX yA xY uD uY : Nat} {qL rX : Int32} {qM : Nat -> Int32} {post : Int32 -> (Nat -> Int32) -> Int32 -> Prop}
def ws_X9_readActs_2 (post next : Int32 -> (Nat -> Int32) -> Int32 -> Prop) (rX : Int32) (qM : Nat -> Int32) (x1 : Int32) (wE : Nat -> Int32) (qJ : Int32) : Prop := (30 <= x1 -> post (-1) wE qJ) /\ (¬ 30 <= x1 -> wp_X9_readAct (fun r_1 aCK => (¬ r_1 = (-1) -> vp_in x1 30 /\ (wp_X8_take (fun r_3 aDB => (¬ r_3 = 0 -> ∀ v_5 : Int32, v_5 = x1 + 1 -> next v_5 (upd wE x1.toNatClampNeg r_1) aDB) /\ (r_3 = 0 -> post (x1 + 1) (upd wE x1.toNatClampNeg r_1) aDB)) 59 aCK rX qM)) /\ (r_1 = (-1) -> post (-1) wE aCK)) qJ rX qM)
noncomputable def wb_X9_readActs_2 (post : Int32 -> (Nat -> Int32) -> Int32 -> Prop) (rX : Int32) (qM : Nat -> Int32) : Nat -> Int32 -> (Nat -> Int32) -> Int32 -> Prop := fun n => Nat.rec (motive := fun _ => Int32 -> (Nat -> Int32) -> Int32 -> Prop) (fun _ _ _ => False) (fun _ ih => ws_X9_readActs_2 post ih rX qM) n
set_option maxHeartbeats 4000000 in
set_option maxRecDepth 100000 in
theorem ks_X9_readActs_2 (C0 : gc aGa (some .int) 3 RX9 (dC, dI) (tyl cI cC cZ cB cJ) A p s m args meth c) {next : Int32 -> (Nat -> Int32) -> Int32 -> Prop} (hKn : ∀ (x1 : Int32) (wE : Nat -> Int32) (qJ : Int32) (H : Heap) (locs : List Loc) (ls : Array Slot), next x1 wE qJ -> va_P (dC, dI) classes (aQ9 cI cC cZ cB cJ a_x xI xH xB vI wY xX yA xY uD uY wE qL qJ rX qM) H -> va_D A (aQ9 cI cC cZ cB cJ a_x xI xH xB vI wY xX yA xY uD uY wE qL qJ rX qM) -> va_S A s.heap H locs -> lv_has ls 3 [(0, .ref a_x), (1, .int x1)] -> W p l e rm_X9_readActs s m args below meth c H locs 0 0 (MQ below (q_X9_readActs dC dI cI cC cZ cB cJ A a_x xI xH xB vI wY xX yA xY uD uY qL rX qM post) args s 0 0 A) (F0 m 2 ls [])) : ∀ (x1 : Int32) (wE : Nat -> Int32) (qJ : Int32) (H : Heap) (locs : List Loc) (ls : Array Slot), (ws_X9_readActs_2 post next rX qM) x1 wE qJ -> va_P (dC, dI) classes (aQ9 cI cC cZ cB cJ a_x xI xH xB vI wY xX yA xY uD uY wE qL qJ rX qM) H -> va_D A (aQ9 cI cC cZ cB cJ a_x xI xH xB vI wY xX yA xY uD uY wE qL qJ rX qM) -> va_S A s.heap H locs -> lv_has ls 3 [(0, .ref a_x), (1, .int x1)] -> W p l e rm_X9_readActs s m args below meth c H locs 0 0 (MQ below (q_X9_readActs dC dI cI cC cZ cB cJ A a_x xI xH xB vI wY xX yA xY uD uY qL rX qM post) args s 0 0 A) (F0 m 2 ls []) := by
  obtain ⟨hx, hb, hr, hml, hown, hts, hlocks, hA, hK, hN, tL, tM, hZL, hTL, hZM, hTM, hZX⟩ := id C0
  intro x1 wE qJ H locs ls hp hP hD hS hl
  unfold ws_X9_readActs_2 at hp
  refine lv_iload_n hx hb aQx.2.2.1 rfl (lv_at hl 1 rfl) ?_
  refine lv_bipush (v := 30) hx hb aQx.2.2.2.1 bp_30 ?_
  refine lv_icmp_ge (tgt := 49) hx hb aQx.2.2.2.2.1 (by decide) (fun hc => ?_) (fun hc => ?_)
  · have hp := hp.1 hc
    refine lv_iconst (v := (-1)) hx hb aPP.2.2.2.2.2.2.2.2.2.2.2.2.2.1 aEJ ?_
    exact W.iret (v := (-1)) hx hb hr (fun t ht hW => ⟨⟨(-1), (wE, qJ), rfl, hp, by rw [ht]; exact hP, va_K.moved hW.alike hK, hD⟩, hS.F ht⟩) hS.2.2 aPP.2.2.2.2.2.2.2.2.2.2.2.2.2.2
  · have hp := hp.2 hc
    refine lv_aload_n hx hb aQx.2.2.2.2.2.1 rfl (lv_at hl 0 rfl) ?_
    have hm := mgk (wc := (aVO cI cC cZ cB cJ a_x xI xH xB vI wY xX yA xY uD uY qL qJ rX qM)) hP mk_90 4 rfl rfl rfl
    refine yW hP hD hS hA (yS mk_90) (aAi mk_90) hm.1 hm.2 (aAk _) (zW _) (zF (As := []) (rest := []) C0 hP hD hS (yS mk_90) hm.1 (aAl _) 0 9 rfl rfl (c_X9_readAct l dC dI cI cC cZ cB cJ a_x xI xH xB vI wY xX yA xY uD uY H.size qL qJ rX qM _ hp) q_389 q_392 q_390 q_391 aIl h_X9_readAct rfl rfl ⟨lbz rfl, lbz rfl⟩ rfl rfl hl.1 rfl (lv_room (lbz rfl)) aQx.2.2.2.2.2.2.1 ⟨Nat.zero_le _, Nat.zero_le _⟩) (fun r_1 u H locs hp hP hD hS => ?_)
    obtain ⟨aCK, rfl⟩ : ∃ z, z = u := ⟨_, rfl⟩
    have hPD := PDm (ws' := (aQ9 cI cC cZ cB cJ a_x xI xH xB vI wY xX yA xY uD uY wE qL aCK rX qM)) hP hD 4 rfl rfl rfl
    have hP := hPD.1
    have hD := hPD.2
    refine lv_istore_n (lv' := [(2, .int r_1), (0, .ref a_x), (1, .int x1)]) hx hb aQx.2.2.2.2.2.2.2.1 rfl hl (by decide) rfl (fun ls hl => ?_)
    refine lv_iload_n hx hb aQx.2.2.2.2.2.2.2.2.1 rfl (lv_at hl 0 rfl) ?_
    refine lv_iconst (v := (-1)) hx hb aQx.2.2.2.2.2.2.2.2.2.1 aEJ ?_
    refine lv_icmp_ne (tgt := 20) hx hb aQx.2.2.2.2.2.2.2.2.2.2.1 (by decide) (fun hc => ?_) (fun hc => ?_)
    · have hp := hp.1 hc
      refine lv_aload_n hx hb aQx.2.2.2.2.2.2.2.2.2.2.2.2.2.1 rfl (lv_at hl 1 rfl) ?_
      refine va_get (D := (dC, dI)) (ci := 9) (v := .ref uD) (C := RX9) (T := TX9) (N := 9) hx hb hts aC3 hown hK hP 0 rfl rfl 8 (lbz rfl) (hts _ q_381) (fun _ h9 => h9) rfl aQx.2.2.2.2.2.2.2.2.2.2.2.2.2.2.1 ?_
      refine lv_iload_n hx hb aQx.2.2.2.2.2.2.2.2.2.2.2.2.2.2.2 rfl (lv_at hl 2 rfl) ?_
      refine lv_iload_n hx hb aPP.1 rfl (lv_at hl 0 rfl) ?_
      have hin := hp.1
      have hp := hp.2
      refine va_iast hx hb hK hP hD hS 1 0 rfl rfl hin aPP.2.1 (fun H locs hP hD hS => ?_)
      have hPD := PDw (ws' := (aQ9 cI cC cZ cB cJ a_x xI xH xB vI wY xX yA xY uD uY (upd wE x1.toNatClampNeg r_1) qL aCK rX qM)) hP hD rfl
      have hP := hPD.1
      have hD := hPD.2
      refine lv_aload_n hx hb aPP.2.2.1 rfl (lv_at hl 1 rfl) ?_
      refine va_get (D := (dC, dI)) (ci := 9) (v := .ref xI) (C := RX9) (T := TX9) (N := 9) hx hb hts aC3 hown hK hP 0 rfl rfl 0 (lbz rfl) (hts _ q_3) (fun _ h9 => h9) rfl aPP.2.2.2.1 ?_
      refine lv_bipush (v := 59) hx hb aPP.2.2.2.2.1 bp_59 ?_
      have hm := mgk (wc := (wd_X8_take cI cC cZ cB cJ xI uY qL aCK rX qM)) hP mk_14 4 rfl rfl rfl
      refine yW hP hD hS hA (yS mk_14) (aAi mk_14) hm.1 hm.2 (aAk _) (zW _) (zF (As := [.int 59]) (rest := []) C0 hP hD hS (yS mk_14) hm.1 (aAl _) 2 8 rfl rfl (c_X8_take l dC dI cI cC cZ cB cJ xI uY H.size 59 qL aCK rX qM _ hp) q_41 q_393 q_42 q_43 q_5 h_X8_take rfl rfl ⟨lbz rfl, lbz rfl⟩ rfl rfl hl.1 rfl (lv_room (lbz rfl)) aPP.2.2.2.2.2.1 ⟨Nat.zero_le _, Nat.zero_le _⟩) (fun r_3 u H locs hp hP hD hS => ?_)
      obtain ⟨aDB, rfl⟩ : ∃ z, z = u := ⟨_, rfl⟩
      have hPD := PDm (ws' := (aQ9 cI cC cZ cB cJ a_x xI xH xB vI wY xX yA xY uD uY (upd wE x1.toNatClampNeg r_1) qL aDB rX qM)) hP hD 4 rfl rfl rfl
      have hP := hPD.1
      have hD := hPD.2
      refine lv_if_ne (tgt := 43) hx hb aPP.2.2.2.2.2.2.1 (by decide) (fun hc => ?_) (fun hc => ?_)
      · have hp := hp.1 hc
        obtain ⟨v_5, aJD⟩ : ∃ y : Int32, y = x1 + 1 := ⟨_, rfl⟩
        refine lv_iinc (v := v_5) (lv' := [(1, .int v_5), (2, .int r_1), (0, .ref a_x)]) hx hb aPP.2.2.2.2.2.2.2.2.2.2.2.1 hl (k := 2) rfl (by rw [aJD]; rfl) (by decide) rfl (fun ls hl => ?_)
        have hp := hp v_5 aJD
        refine lv_goto (tgt := 2) hx hb aPP.2.2.2.2.2.2.2.2.2.2.2.2.1 (by decide) ?_
        exact hKn v_5 (upd wE x1.toNatClampNeg r_1) aDB H locs ls hp hP hD hS (lv_sub hl [2, 0] rfl)
      · have hp := hp.2 hc
        refine lv_iload_n hx hb aPP.2.2.2.2.2.2.2.1 rfl (lv_at hl 2 rfl) ?_
        refine lv_iconst (v := 1) hx hb aPP.2.2.2.2.2.2.2.2.1 aDx ?_
        refine lv_iadd hx hb aPP.2.2.2.2.2.2.2.2.2.1 ?_
        exact W.iret (v := x1 + 1) hx hb hr (fun t ht hW => ⟨⟨x1 + 1, ((upd wE x1.toNatClampNeg r_1), aDB), rfl, hp, by rw [ht]; exact hP, va_K.moved hW.alike hK, hD⟩, hS.F ht⟩) hS.2.2 aPP.2.2.2.2.2.2.2.2.2.2.1
    · have hp := hp.2 hc
      refine lv_iconst (v := (-1)) hx hb aQx.2.2.2.2.2.2.2.2.2.2.2.1 aEJ ?_
      exact W.iret (v := (-1)) hx hb hr (fun t ht hW => ⟨⟨(-1), (wE, aCK), rfl, hp, by rw [ht]; exact hP, va_K.moved hW.alike hK, hD⟩, hS.F ht⟩) hS.2.2 aQx.2.2.2.2.2.2.2.2.2.2.2.2.1
set_option maxHeartbeats 4000000 in
set_option maxRecDepth 100000 in
theorem kb_X9_readActs_2 (C0 : gc aGa (some .int) 3 RX9 (dC, dI) (tyl cI cC cZ cB cJ) A p s m args meth c) : ∀ (n : Nat), ∀ (x1 : Int32) (wE : Nat -> Int32) (qJ : Int32) (H : Heap) (locs : List Loc) (ls : Array Slot), (wb_X9_readActs_2 post rX qM n) x1 wE qJ -> va_P (dC, dI) classes (aQ9 cI cC cZ cB cJ a_x xI xH xB vI wY xX yA xY uD uY wE qL qJ rX qM) H -> va_D A (aQ9 cI cC cZ cB cJ a_x xI xH xB vI wY xX yA xY uD uY wE qL qJ rX qM) -> va_S A s.heap H locs -> lv_has ls 3 [(0, .ref a_x), (1, .int x1)] -> W p l e rm_X9_readActs s m args below meth c H locs 0 0 (MQ below (q_X9_readActs dC dI cI cC cZ cB cJ A a_x xI xH xB vI wY xX yA xY uD uY qL rX qM post) args s 0 0 A) (F0 m 2 ls []) := by
  intro n
  induction n with
  | zero =>
    intro x1 wE qJ H locs ls hp
    exact False.elim hp
  | succ n ih =>
    intro x1 wE qJ H locs ls hp
    exact ks_X9_readActs_2 C0 ih x1 wE qJ H locs ls hp
end S_X9_readActs
def wp_X9_readActs (post : Int32 -> (Nat -> Int32) -> Int32 -> Prop) (wE : Nat -> Int32) (qJ rX : Int32) (qM : Nat -> Int32) : Prop := ∃ n : Nat, wb_X9_readActs_2 post rX qM n 0 wE qJ
set_option maxHeartbeats 4000000 in
set_option maxRecDepth 100000 in
theorem c_X9_readActs (l : Launch) (dC : Nat -> ClassId) (dI : Nat -> Nat -> Nat) (cI cC cZ cB cJ : ClassId) (a_x xI xH xB vI wY xX yA xY uD uY sz : Nat) (wE : Nat -> Int32) (qL qJ rX : Int32) (qM : Nat -> Int32) (post : Int32 -> (Nat -> Int32) -> Int32 -> Prop) (hw : wp_X9_readActs post wE qJ rX qM) : Met l yX9_readActs (gw yX9_readActs aGa 3 (some .int)) rm_X9_readActs (va_Pc [.ref a_x] (gPre (dC, dI) (tyl cI cC cZ cB cJ) (aQ9 cI cC cZ cB cJ a_x xI xH xB vI wY xX yA xY uD uY wE qL qJ rX qM) sz)) (q_X9_readActs dC dI cI cC cZ cB cJ (va_A (aQ9 cI cC cZ cB cJ a_x xI xH xB vI wY xX yA xY uD uY wE qL qJ rX qM) sz) a_x xI xH xB vI wY xX yA xY uD uY qL rX qM post) 0 0 (va_A (aQ9 cI cC cZ cB cJ a_x xI xH xB vI wY xX yA xY uD uY wE qL qJ rX qM) sz) := by
  refine aBJ (own := RX9) (dC, dI) (tyl cI cC cZ cB cJ) (aQ9 cI cC cZ cB cJ a_x xI xH xB vI wY xX yA xY uD uY wE qL qJ rX qM) sz [.ref a_x] (fun A => q_X9_readActs dC dI cI cC cZ cB cJ A a_x xI xH xB vI wY xX yA xY uD uY qL rX qM post) pn_RX9 rfl (lbz rfl) ?_
  intro p e s m args below meth c A H locs ls C0 hP hD hS hl
  have hl : lv_has ls 3 [(0, .ref a_x)] := hl
  obtain ⟨hx, hb, hr, hml, hown, hts, hlocks, hA, hK, hN, tL, tM, hZL, hTL, hZM, hTM, hZX⟩ := id C0
  have hp := hw
  unfold wp_X9_readActs at hp
  refine lv_iconst (v := 0) hx hb aQx.1 aCi ?_
  refine lv_istore_n (lv' := [(1, .int 0), (0, .ref a_x)]) hx hb aQx.2.1 rfl hl (by decide) rfl (fun ls hl => ?_)
  obtain ⟨n9, hp⟩ := hp
  exact kb_X9_readActs_2 C0 n9 0 wE qJ H locs ls hp hP hD hS (lv_sub hl [1, 0] rfl)
abbrev wd_X9_day (cI cC cZ cB cJ : ClassId) (a_x xI xH xB vI wY xX yA xY uD uY xO tJ jJ mY pG pD pE eO uS tX uR rY tY wF uT wD rG : Nat) (wE : Nat -> Int32) (qL qJ rX : Int32) (qM : Nat -> Int32) (dN bD bJ aI : Int32) (uU gF pL qF mX oE dY : Nat -> Int32) (jE eW eY dU fY gJ jG nU pQ qI sY uG pY nJ : Int32) (qY qU pN : Nat -> Int32) (pR uM : Int32) (tD : Nat -> Int32) (qB : Int32) (jK : Nat -> Int32) : va_W := [(a_x, .inr (9, [.ref xI, .ref xH, .ref xB, .ref vI, .ref wY, .ref xX, .ref yA, .ref xY, .ref uD])), (uD, .inl (cI, 30, .inl wE)), (xI, .inr (8, [.ref uY, .int qL, .int qJ, .int rX])), (uY, .inl (cC, 80, .inl qM)), (xB, .inr (0, [.ref vI, .ref wY, .ref xO])), (vI, .inr (3, [.ref tJ, .ref jJ, .ref mY, .ref pG, .ref pD, .ref pE, .ref eO, .int dN, .int bD, .int bJ, .int aI])), (tJ, .inl (cI, 16, .inl uU)), (jJ, .inl (cI, 16, .inl gF)), (mY, .inl (cI, 16, .inl pL)), (pG, .inl (cI, 16, .inl qF)), (pD, .inl (cI, 8, .inl mX)), (pE, .inl (cI, 8, .inl oE)), (eO, .inl (cI, 5, .inl dY)), (wY, .inr (2, [.int jE, .int eW, .int eY, .int dU, .int fY, .int gJ, .int jG, .int nU])), (xO, .inr (7, [.ref uS, .ref tX, .ref uR, .ref rY, .ref tY, .int pQ, .int qI, .int sY, .int uG, .int pY, .int nJ])), (uS, .inl (cI, 7, .inl qY)), (uR, .inl (cI, 40, .inl qU)), (rY, .inl (cI, 40, .inl pN)), (xX, .inr (4, [.ref wF, .ref uT, .ref wD, .int pR, .int uM])), (wF, .inl (cI, 104, .inl tD)), (yA, .inr (6, [.ref rG, .int qB])), (rG, .inl (cI, 16, .inl jK))]
abbrev q_X9_day (dC : Nat -> ClassId) (dI : Nat -> Nat -> Nat) (cI cC cZ cB cJ : ClassId) (A : Nat -> Prop) (a_x xI xH xB vI wY xX yA xY uD uY xO tJ jJ mY pG pD pE eO uS tX uR rY tY wF uT wD rG : Nat) (qM : Nat -> Int32) (dN bD bJ aI : Int32) (uU gF pL qF mX oE dY : Nat -> Int32) (pQ qI sY uG pY nJ : Int32) (pN : Nat -> Int32) (post : Int32 -> (Nat -> Int32) -> Int32 -> Int32 -> Int32 -> Int32 -> Int32 -> Int32 -> Int32 -> Int32 -> Int32 -> Int32 -> Int32 -> (Nat -> Int32) -> (Nat -> Int32) -> Int32 -> Int32 -> (Nat -> Int32) -> Int32 -> (Nat -> Int32) -> Prop) : Array Value -> State -> Outcome -> State -> Prop := va_Qi (fun (r : Int32) (u : (Nat -> Int32) × Int32 × Int32 × Int32 × Int32 × Int32 × Int32 × Int32 × Int32 × Int32 × Int32 × Int32 × (Nat -> Int32) × (Nat -> Int32) × Int32 × Int32 × (Nat -> Int32) × Int32 × (Nat -> Int32)) => post r u.1 u.2.1 u.2.2.1 u.2.2.2.1 u.2.2.2.2.1 u.2.2.2.2.2.1 u.2.2.2.2.2.2.1 u.2.2.2.2.2.2.2.1 u.2.2.2.2.2.2.2.2.1 u.2.2.2.2.2.2.2.2.2.1 u.2.2.2.2.2.2.2.2.2.2.1 u.2.2.2.2.2.2.2.2.2.2.2.1 u.2.2.2.2.2.2.2.2.2.2.2.2.1 u.2.2.2.2.2.2.2.2.2.2.2.2.2.1 u.2.2.2.2.2.2.2.2.2.2.2.2.2.2.1 u.2.2.2.2.2.2.2.2.2.2.2.2.2.2.2.1 u.2.2.2.2.2.2.2.2.2.2.2.2.2.2.2.2.1 u.2.2.2.2.2.2.2.2.2.2.2.2.2.2.2.2.2.1 u.2.2.2.2.2.2.2.2.2.2.2.2.2.2.2.2.2.2) (fun u t => gB (dC, dI) (tyl cI cC cZ cB cJ) A (wd_X9_day cI cC cZ cB cJ a_x xI xH xB vI wY xX yA xY uD uY xO tJ jJ mY pG pD pE eO uS tX uR rY tY wF uT wD rG u.1 u.2.1 u.2.2.1 u.2.2.2.1 qM dN bD bJ aI uU gF pL qF mX oE dY u.2.2.2.2.1 u.2.2.2.2.2.1 u.2.2.2.2.2.2.1 u.2.2.2.2.2.2.2.1 u.2.2.2.2.2.2.2.2.1 u.2.2.2.2.2.2.2.2.2.1 u.2.2.2.2.2.2.2.2.2.2.1 u.2.2.2.2.2.2.2.2.2.2.2.1 pQ qI sY uG pY nJ u.2.2.2.2.2.2.2.2.2.2.2.2.1 u.2.2.2.2.2.2.2.2.2.2.2.2.2.1 pN u.2.2.2.2.2.2.2.2.2.2.2.2.2.2.1 u.2.2.2.2.2.2.2.2.2.2.2.2.2.2.2.1 u.2.2.2.2.2.2.2.2.2.2.2.2.2.2.2.2.1 u.2.2.2.2.2.2.2.2.2.2.2.2.2.2.2.2.2.1 u.2.2.2.2.2.2.2.2.2.2.2.2.2.2.2.2.2.2) t) A
abbrev rm_X9_day : Room := { frames := 7, cells := 0, slots := 0, locals := 164 }
section S_X9_day
variable {p : Program} {l : Launch} {e : Env} {s : State} {m : MethodId} {args : Array Value} {below : List Frame} {meth : Method} {c : Code} {dC : Nat -> ClassId} {dI : Nat -> Nat -> Nat} {cI cC cZ cB cJ : ClassId} {A : Nat -> Prop} {a_x xI xH xB vI wY xX yA xY uD uY xO tJ jJ mY pG pD pE eO uS tX uR rY tY wF uT wD rG : Nat} {qM : Nat -> Int32} {dN bD bJ aI : Int32} {uU gF pL qF mX oE dY : Nat -> Int32} {pQ qI sY uG pY nJ : Int32} {pN : Nat -> Int32} {post : Int32 -> (Nat -> Int32) -> Int32 -> Int32 -> Int32 -> Int32 -> Int32 -> Int32 -> Int32 -> Int32 -> Int32 -> Int32 -> Int32 -> (Nat -> Int32) -> (Nat -> Int32) -> Int32 -> Int32 -> (Nat -> Int32) -> Int32 -> (Nat -> Int32) -> Prop}
def ws_X9_day_68 (post : Int32 -> (Nat -> Int32) -> Int32 -> Int32 -> Int32 -> Int32 -> Int32 -> Int32 -> Int32 -> Int32 -> Int32 -> Int32 -> Int32 -> (Nat -> Int32) -> (Nat -> Int32) -> Int32 -> Int32 -> (Nat -> Int32) -> Int32 -> (Nat -> Int32) -> Prop) (qM : Nat -> Int32) (dN bD : Int32) (uU gF pL qF mX oE dY : Nat -> Int32) (pQ : Int32) (pN : Nat -> Int32) (k0 : Int32) (wE : Nat -> Int32) (qL qJ rX jE eW eY dU fY gJ jG nU : Int32) (qY qU : Nat -> Int32) (pR uM : Int32) (tD : Nat -> Int32) (qB : Int32) (jK : Nat -> Int32) : Prop := wp_X8_clear (fun tx_length_7 => post k0 wE tx_length_7 qJ rX jE eW eY dU fY gJ jG nU qY qU pR uM tD qB jK) qL
set_option maxHeartbeats 4000000 in
set_option maxRecDepth 100000 in
theorem ks_X9_day_68 (C0 : gc aM4 (some .int) 4 RX9 (dC, dI) (tyl cI cC cZ cB cJ) A p s m args meth c) : ∀ (k0 : Int32) (wE : Nat -> Int32) (qL qJ rX jE eW eY dU fY gJ jG nU : Int32) (qY qU : Nat -> Int32) (pR uM : Int32) (tD : Nat -> Int32) (qB : Int32) (jK : Nat -> Int32) (H : Heap) (locs : List Loc) (ls : Array Slot), (ws_X9_day_68 post qM dN bD uU gF pL qF mX oE dY pQ pN) k0 wE qL qJ rX jE eW eY dU fY gJ jG nU qY qU pR uM tD qB jK -> va_P (dC, dI) classes (wd_X9_day cI cC cZ cB cJ a_x xI xH xB vI wY xX yA xY uD uY xO tJ jJ mY pG pD pE eO uS tX uR rY tY wF uT wD rG wE qL qJ rX qM dN bD bJ aI uU gF pL qF mX oE dY jE eW eY dU fY gJ jG nU pQ qI sY uG pY nJ qY qU pN pR uM tD qB jK) H -> va_D A (wd_X9_day cI cC cZ cB cJ a_x xI xH xB vI wY xX yA xY uD uY xO tJ jJ mY pG pD pE eO uS tX uR rY tY wF uT wD rG wE qL qJ rX qM dN bD bJ aI uU gF pL qF mX oE dY jE eW eY dU fY gJ jG nU pQ qI sY uG pY nJ qY qU pN pR uM tD qB jK) -> va_S A s.heap H locs -> lv_has ls 4 [(0, .ref a_x)] -> W p l e rm_X9_day s m args below meth c H locs 0 0 (MQ below (q_X9_day dC dI cI cC cZ cB cJ A a_x xI xH xB vI wY xX yA xY uD uY xO tJ jJ mY pG pD pE eO uS tX uR rY tY wF uT wD rG qM dN bD bJ aI uU gF pL qF mX oE dY pQ qI sY uG pY nJ pN post) args s 0 0 A) (F0 m 68 ls [.int k0]) := by
  obtain ⟨hx, hb, hr, hml, hown, hts, hlocks, hA, hK, hN, tL, tM, hZL, hTL, hZM, hTM, hZX⟩ := id C0
  intro k0 wE qL qJ rX jE eW eY dU fY gJ jG nU qY qU pR uM tD qB jK H locs ls hp hP hD hS hl
  unfold ws_X9_day_68 at hp
  refine lv_istore_n (lv' := [(3, .int k0), (0, .ref a_x)]) hx hb eX9_day_37.2.2.2.2.2.2.2.2.2.2.2.2.2.2.2 rfl hl (by decide) rfl (fun ls hl => ?_)
  refine lv_aload_n hx hb eX9_day_69.1 rfl (lv_at hl 1 rfl) ?_
  refine va_get (D := (dC, dI)) (ci := 9) (v := .ref xI) (C := RX9) (T := TX9) (N := 9) hx hb hts aC3 hown hK hP 0 rfl rfl 0 (lbz rfl) (hts _ q_3) (fun _ h9 => h9) rfl eX9_day_69.2.1 ?_
  have hm := mgk (wc := (wd_X8_clear cI cC cZ cB cJ xI uY qL qJ rX)) hP mk_91 22 rfl rfl rfl
  refine aBn hP hD hS hA (yS mk_91) (aAi mk_91) hm.1 hm.2 (aAk _) (zW _) (zF (As := []) (rest := []) C0 hP hD hS (yS mk_91) hm.1 (aAl _) 2 8 rfl rfl (c_X8_clear l dC dI cI cC cZ cB cJ xI uY H.size qL qJ rX _ hp) q_83 q_86 q_84 q_85 q_5 h_X8_clear rfl rfl ⟨lbz rfl, lbz rfl⟩ rfl rfl hl.1 rfl (lv_room (lbz rfl)) eX9_day_69.2.2.1 ⟨Nat.zero_le _, Nat.zero_le _⟩) (fun u H locs hp hP hD hS => ?_)
  obtain ⟨tx_length_7, rfl⟩ : ∃ z, z = u := ⟨_, rfl⟩
  have hPD := PDm (ws' := (wd_X9_day cI cC cZ cB cJ a_x xI xH xB vI wY xX yA xY uD uY xO tJ jJ mY pG pD pE eO uS tX uR rY tY wF uT wD rG wE tx_length_7 qJ rX qM dN bD bJ aI uU gF pL qF mX oE dY jE eW eY dU fY gJ jG nU pQ qI sY uG pY nJ qY qU pN pR uM tD qB jK)) hP hD 22 rfl rfl rfl
  have hP := hPD.1
  have hD := hPD.2
  refine lv_iload_n hx hb eX9_day_69.2.2.2.1 rfl (lv_at hl 0 rfl) ?_
  exact W.iret (v := k0) hx hb hr (fun t ht hW => ⟨⟨k0, (wE, tx_length_7, qJ, rX, jE, eW, eY, dU, fY, gJ, jG, nU, qY, qU, pR, uM, tD, qB, jK), rfl, hp, by rw [ht]; exact hP, va_K.moved hW.alike hK, hD⟩, hS.F ht⟩) hS.2.2 eX9_day_69.2.2.2.2
def ws_X9_day_48 (post : Int32 -> (Nat -> Int32) -> Int32 -> Int32 -> Int32 -> Int32 -> Int32 -> Int32 -> Int32 -> Int32 -> Int32 -> Int32 -> Int32 -> (Nat -> Int32) -> (Nat -> Int32) -> Int32 -> Int32 -> (Nat -> Int32) -> Int32 -> (Nat -> Int32) -> Prop) (qM : Nat -> Int32) (dN bD : Int32) (uU gF pL qF mX oE dY : Nat -> Int32) (pQ : Int32) (pN : Nat -> Int32) (x1 k0 : Int32) (wE : Nat -> Int32) (qL qJ rX jE eW eY dU fY gJ jG nU : Int32) (qY qU : Nat -> Int32) (pR uM : Int32) (tD : Nat -> Int32) (qB : Int32) (jK : Nat -> Int32) : Prop := (k0 = 0 -> wp_X8_wrong (fun r_6 => ws_X9_day_68 post qM dN bD uU gF pL qF mX oE dY pQ pN r_6 wE qL qJ rX jE eW eY dU fY gJ jG nU qY qU pR uM tD qB jK) qJ) /\ (¬ k0 = 0 -> wp_X9_doActs (fun r_8 no_apron_9 no_basket_10 no_ground_11 no_bruised_12 no_ladder_13 no_helper_14 no_today_15 no_clock_16 ru_given_17 ru_stack_18 pa_undoable_19 pa_free_20 pa_cells_21 ro_size_22 ro_numbers_23 => ws_X9_day_68 post qM dN bD uU gF pL qF mX oE dY pQ pN r_8 wE qL qJ rX no_apron_9 no_basket_10 no_ground_11 no_bruised_12 no_ladder_13 no_helper_14 no_today_15 no_clock_16 ru_given_17 ru_stack_18 pa_undoable_19 pa_free_20 pa_cells_21 ro_size_22 ro_numbers_23) x1 wE dN bD uU gF pL qF mX oE dY jE eW eY dU fY gJ jG nU pQ qY qU pN pR uM tD qB jK)
set_option maxHeartbeats 4000000 in
set_option maxRecDepth 100000 in
theorem ks_X9_day_48 (C0 : gc aM4 (some .int) 4 RX9 (dC, dI) (tyl cI cC cZ cB cJ) A p s m args meth c) : ∀ (x1 k0 : Int32) (wE : Nat -> Int32) (qL qJ rX jE eW eY dU fY gJ jG nU : Int32) (qY qU : Nat -> Int32) (pR uM : Int32) (tD : Nat -> Int32) (qB : Int32) (jK : Nat -> Int32) (H : Heap) (locs : List Loc) (ls : Array Slot), (ws_X9_day_48 post qM dN bD uU gF pL qF mX oE dY pQ pN) x1 k0 wE qL qJ rX jE eW eY dU fY gJ jG nU qY qU pR uM tD qB jK -> va_P (dC, dI) classes (wd_X9_day cI cC cZ cB cJ a_x xI xH xB vI wY xX yA xY uD uY xO tJ jJ mY pG pD pE eO uS tX uR rY tY wF uT wD rG wE qL qJ rX qM dN bD bJ aI uU gF pL qF mX oE dY jE eW eY dU fY gJ jG nU pQ qI sY uG pY nJ qY qU pN pR uM tD qB jK) H -> va_D A (wd_X9_day cI cC cZ cB cJ a_x xI xH xB vI wY xX yA xY uD uY xO tJ jJ mY pG pD pE eO uS tX uR rY tY wF uT wD rG wE qL qJ rX qM dN bD bJ aI uU gF pL qF mX oE dY jE eW eY dU fY gJ jG nU pQ qI sY uG pY nJ qY qU pN pR uM tD qB jK) -> va_S A s.heap H locs -> lv_has ls 4 [(0, .ref a_x), (1, .int x1)] -> W p l e rm_X9_day s m args below meth c H locs 0 0 (MQ below (q_X9_day dC dI cI cC cZ cB cJ A a_x xI xH xB vI wY xX yA xY uD uY xO tJ jJ mY pG pD pE eO uS tX uR rY tY wF uT wD rG qM dN bD bJ aI uU gF pL qF mX oE dY pQ qI sY uG pY nJ pN post) args s 0 0 A) (F0 m 48 ls [.int k0]) := by
  obtain ⟨hx, hb, hr, hml, hown, hts, hlocks, hA, hK, hN, tL, tM, hZL, hTL, hZM, hTM, hZX⟩ := id C0
  intro x1 k0 wE qL qJ rX jE eW eY dU fY gJ jG nU qY qU pR uM tD qB jK H locs ls hp hP hD hS hl
  unfold ws_X9_day_48 at hp
  refine lv_istore_n (lv' := [(2, .int k0), (0, .ref a_x), (1, .int x1)]) hx hb eX9_day_37.2.2.2.2.2.1 rfl hl (by decide) rfl (fun ls hl => ?_)
  refine lv_iload_n hx hb eX9_day_37.2.2.2.2.2.2.1 rfl (lv_at hl 0 rfl) ?_
  refine lv_if_eq (tgt := 61) hx hb eX9_day_37.2.2.2.2.2.2.2.1 (by decide) (fun hc => ?_) (fun hc => ?_)
  · have hp := hp.1 hc
    refine lv_aload_n hx hb eX9_day_37.2.2.2.2.2.2.2.2.2.2.2.2.1 rfl (lv_at hl 1 rfl) ?_
    refine va_get (D := (dC, dI)) (ci := 9) (v := .ref xI) (C := RX9) (T := TX9) (N := 9) hx hb hts aC3 hown hK hP 0 rfl rfl 0 (lbz rfl) (hts _ q_3) (fun _ h9 => h9) rfl eX9_day_37.2.2.2.2.2.2.2.2.2.2.2.2.2.1 ?_
    have hm := mgk (wc := (wd_X8_wrong cI cC cZ cB cJ xI uY qL qJ rX)) hP mk_91 22 rfl rfl rfl
    refine yW hP hD hS hA (yS mk_91) (aAi mk_91) hm.1 hm.2 (aAk _) (zW _) (zF (As := []) (rest := []) C0 hP hD hS (yS mk_91) hm.1 (aAl _) 2 8 rfl rfl (c_X8_wrong l dC dI cI cC cZ cB cJ xI uY H.size qL qJ rX _ hp) q_79 q_82 q_80 q_81 q_5 h_X8_wrong rfl rfl ⟨lbz rfl, lbz rfl⟩ rfl rfl hl.1 rfl (lv_room (lbz rfl)) eX9_day_37.2.2.2.2.2.2.2.2.2.2.2.2.2.2.1 ⟨Nat.zero_le _, Nat.zero_le _⟩) (fun r_6 u H locs hp hP hD hS => ?_)
    have hPD := PDm (ws' := (wd_X9_day cI cC cZ cB cJ a_x xI xH xB vI wY xX yA xY uD uY xO tJ jJ mY pG pD pE eO uS tX uR rY tY wF uT wD rG wE qL qJ rX qM dN bD bJ aI uU gF pL qF mX oE dY jE eW eY dU fY gJ jG nU pQ qI sY uG pY nJ qY qU pN pR uM tD qB jK)) hP hD 22 rfl rfl rfl
    have hP := hPD.1
    have hD := hPD.2
    exact ks_X9_day_68 C0 r_6 wE qL qJ rX jE eW eY dU fY gJ jG nU qY qU pR uM tD qB jK H locs ls hp hP hD hS (lv_sub hl [1] rfl)
  · have hp := hp.2 hc
    refine lv_aload_n hx hb eX9_day_37.2.2.2.2.2.2.2.2.1 rfl (lv_at hl 1 rfl) ?_
    refine lv_iload_n hx hb eX9_day_37.2.2.2.2.2.2.2.2.2.1 rfl (lv_at hl 2 rfl) ?_
    have hm := mgk (wc := (aHc cI cC cZ cB cJ a_x xI xH xB vI wY xX yA xY uD xO tJ jJ mY pG pD pE eO uS tX uR rY tY wF uT wD rG wE dN bD bJ aI uU gF pL qF mX oE dY jE eW eY dU fY gJ jG nU pQ qI sY uG pY nJ qY qU pN pR uM tD qB jK)) hP mk_92 22 rfl rfl rfl
    refine yW hP hD hS hA (yS mk_92) (aAi mk_92) hm.1 hm.2 (aAk _) (zW _) (zF (As := [.int x1]) (rest := []) C0 hP hD hS (yS mk_92) hm.1 (aAl _) 0 9 rfl rfl (c_X9_doActs l dC dI cI cC cZ cB cJ a_x xI xH xB vI wY xX yA xY uD xO tJ jJ mY pG pD pE eO uS tX uR rY tY wF uT wD rG H.size x1 wE dN bD bJ aI uU gF pL qF mX oE dY jE eW eY dU fY gJ jG nU pQ qI sY uG pY nJ qY qU pN pR uM tD qB jK _ hp) q_398 q_401 q_399 q_400 aIl h_X9_doActs rfl rfl ⟨lbz rfl, lbz rfl⟩ rfl rfl hl.1 rfl (lv_room (lbz rfl)) eX9_day_37.2.2.2.2.2.2.2.2.2.2.1 ⟨Nat.zero_le _, Nat.zero_le _⟩) (fun r_8 u H locs hp hP hD hS => ?_)
    obtain ⟨no_apron_9, no_basket_10, no_ground_11, no_bruised_12, no_ladder_13, no_helper_14, no_today_15, no_clock_16, ru_given_17, ru_stack_18, pa_undoable_19, pa_free_20, pa_cells_21, ro_size_22, ro_numbers_23⟩ := u
    have hPD := PDm (ws' := (wd_X9_day cI cC cZ cB cJ a_x xI xH xB vI wY xX yA xY uD uY xO tJ jJ mY pG pD pE eO uS tX uR rY tY wF uT wD rG wE qL qJ rX qM dN bD bJ aI uU gF pL qF mX oE dY no_apron_9 no_basket_10 no_ground_11 no_bruised_12 no_ladder_13 no_helper_14 no_today_15 no_clock_16 pQ qI sY uG pY nJ ru_given_17 ru_stack_18 pN pa_undoable_19 pa_free_20 pa_cells_21 ro_size_22 ro_numbers_23)) hP hD 22 rfl rfl rfl
    have hP := hPD.1
    have hD := hPD.2
    refine lv_goto (tgt := 68) hx hb eX9_day_37.2.2.2.2.2.2.2.2.2.2.2.1 (by decide) ?_
    exact ks_X9_day_68 C0 r_8 wE qL qJ rX no_apron_9 no_basket_10 no_ground_11 no_bruised_12 no_ladder_13 no_helper_14 no_today_15 no_clock_16 ru_given_17 ru_stack_18 pa_undoable_19 pa_free_20 pa_cells_21 ro_size_22 ro_numbers_23 H locs ls hp hP hD hS (lv_sub hl [1] rfl)
def ws_X9_day_47 (post : Int32 -> (Nat -> Int32) -> Int32 -> Int32 -> Int32 -> Int32 -> Int32 -> Int32 -> Int32 -> Int32 -> Int32 -> Int32 -> Int32 -> (Nat -> Int32) -> (Nat -> Int32) -> Int32 -> Int32 -> (Nat -> Int32) -> Int32 -> (Nat -> Int32) -> Prop) (qM : Nat -> Int32) (dN bD : Int32) (uU gF pL qF mX oE dY : Nat -> Int32) (pQ : Int32) (pN : Nat -> Int32) (x1 : Int32) (wE : Nat -> Int32) (qL qJ rX jE eW eY dU fY gJ jG nU : Int32) (qY qU : Nat -> Int32) (pR uM : Int32) (tD : Nat -> Int32) (qB : Int32) (jK : Nat -> Int32) : Prop := ws_X9_day_48 post qM dN bD uU gF pL qF mX oE dY pQ pN x1 0 wE qL qJ rX jE eW eY dU fY gJ jG nU qY qU pR uM tD qB jK
set_option maxHeartbeats 4000000 in
set_option maxRecDepth 100000 in
theorem ks_X9_day_47 (C0 : gc aM4 (some .int) 4 RX9 (dC, dI) (tyl cI cC cZ cB cJ) A p s m args meth c) : ∀ (x1 : Int32) (wE : Nat -> Int32) (qL qJ rX jE eW eY dU fY gJ jG nU : Int32) (qY qU : Nat -> Int32) (pR uM : Int32) (tD : Nat -> Int32) (qB : Int32) (jK : Nat -> Int32) (H : Heap) (locs : List Loc) (ls : Array Slot), (ws_X9_day_47 post qM dN bD uU gF pL qF mX oE dY pQ pN) x1 wE qL qJ rX jE eW eY dU fY gJ jG nU qY qU pR uM tD qB jK -> va_P (dC, dI) classes (wd_X9_day cI cC cZ cB cJ a_x xI xH xB vI wY xX yA xY uD uY xO tJ jJ mY pG pD pE eO uS tX uR rY tY wF uT wD rG wE qL qJ rX qM dN bD bJ aI uU gF pL qF mX oE dY jE eW eY dU fY gJ jG nU pQ qI sY uG pY nJ qY qU pN pR uM tD qB jK) H -> va_D A (wd_X9_day cI cC cZ cB cJ a_x xI xH xB vI wY xX yA xY uD uY xO tJ jJ mY pG pD pE eO uS tX uR rY tY wF uT wD rG wE qL qJ rX qM dN bD bJ aI uU gF pL qF mX oE dY jE eW eY dU fY gJ jG nU pQ qI sY uG pY nJ qY qU pN pR uM tD qB jK) -> va_S A s.heap H locs -> lv_has ls 4 [(0, .ref a_x), (1, .int x1)] -> W p l e rm_X9_day s m args below meth c H locs 0 0 (MQ below (q_X9_day dC dI cI cC cZ cB cJ A a_x xI xH xB vI wY xX yA xY uD uY xO tJ jJ mY pG pD pE eO uS tX uR rY tY wF uT wD rG qM dN bD bJ aI uU gF pL qF mX oE dY pQ qI sY uG pY nJ pN post) args s 0 0 A) (F0 m 47 ls []) := by
  obtain ⟨hx, hb, hr, hml, hown, hts, hlocks, hA, hK, hN, tL, tM, hZL, hTL, hZM, hTM, hZX⟩ := id C0
  intro x1 wE qL qJ rX jE eW eY dU fY gJ jG nU qY qU pR uM tD qB jK H locs ls hp hP hD hS hl
  unfold ws_X9_day_47 at hp
  refine lv_iconst (v := 0) hx hb eX9_day_37.2.2.2.2.1 aCi ?_
  exact ks_X9_day_48 C0 x1 0 wE qL qJ rX jE eW eY dU fY gJ jG nU qY qU pR uM tD qB jK H locs ls hp hP hD hS (lv_sub hl [0, 1] rfl)
def ws_X9_day_27 (post : Int32 -> (Nat -> Int32) -> Int32 -> Int32 -> Int32 -> Int32 -> Int32 -> Int32 -> Int32 -> Int32 -> Int32 -> Int32 -> Int32 -> (Nat -> Int32) -> (Nat -> Int32) -> Int32 -> Int32 -> (Nat -> Int32) -> Int32 -> (Nat -> Int32) -> Prop) (qM : Nat -> Int32) (dN bD : Int32) (uU gF pL qF mX oE dY : Nat -> Int32) (pQ : Int32) (pN : Nat -> Int32) (k0 : Int32) (wE : Nat -> Int32) (qL qJ rX jE eW eY dU fY gJ jG nU : Int32) (qY qU : Nat -> Int32) (pR uM : Int32) (tD : Nat -> Int32) (qB : Int32) (jK : Nat -> Int32) : Prop := (k0 = (-1) -> ws_X9_day_47 post qM dN bD uU gF pL qF mX oE dY pQ pN k0 wE qL qJ rX jE eW eY dU fY gJ jG nU qY qU pR uM tD qB jK) /\ (¬ k0 = (-1) -> bCL (fun r_24 => (r_24 = 0 -> ws_X9_day_47 post qM dN bD uU gF pL qF mX oE dY pQ pN k0 wE qL qJ rX jE eW eY dU fY gJ jG nU qY qU pR uM tD qB jK) /\ (¬ r_24 = 0 -> ws_X9_day_48 post qM dN bD uU gF pL qF mX oE dY pQ pN k0 1 wE qL qJ rX jE eW eY dU fY gJ jG nU qY qU pR uM tD qB jK)) qL qJ)
set_option maxHeartbeats 4000000 in
set_option maxRecDepth 100000 in
theorem ks_X9_day_27 (C0 : gc aM4 (some .int) 4 RX9 (dC, dI) (tyl cI cC cZ cB cJ) A p s m args meth c) : ∀ (k0 : Int32) (wE : Nat -> Int32) (qL qJ rX jE eW eY dU fY gJ jG nU : Int32) (qY qU : Nat -> Int32) (pR uM : Int32) (tD : Nat -> Int32) (qB : Int32) (jK : Nat -> Int32) (H : Heap) (locs : List Loc) (ls : Array Slot), (ws_X9_day_27 post qM dN bD uU gF pL qF mX oE dY pQ pN) k0 wE qL qJ rX jE eW eY dU fY gJ jG nU qY qU pR uM tD qB jK -> va_P (dC, dI) classes (wd_X9_day cI cC cZ cB cJ a_x xI xH xB vI wY xX yA xY uD uY xO tJ jJ mY pG pD pE eO uS tX uR rY tY wF uT wD rG wE qL qJ rX qM dN bD bJ aI uU gF pL qF mX oE dY jE eW eY dU fY gJ jG nU pQ qI sY uG pY nJ qY qU pN pR uM tD qB jK) H -> va_D A (wd_X9_day cI cC cZ cB cJ a_x xI xH xB vI wY xX yA xY uD uY xO tJ jJ mY pG pD pE eO uS tX uR rY tY wF uT wD rG wE qL qJ rX qM dN bD bJ aI uU gF pL qF mX oE dY jE eW eY dU fY gJ jG nU pQ qI sY uG pY nJ qY qU pN pR uM tD qB jK) -> va_S A s.heap H locs -> lv_has ls 4 [(0, .ref a_x)] -> W p l e rm_X9_day s m args below meth c H locs 0 0 (MQ below (q_X9_day dC dI cI cC cZ cB cJ A a_x xI xH xB vI wY xX yA xY uD uY xO tJ jJ mY pG pD pE eO uS tX uR rY tY wF uT wD rG qM dN bD bJ aI uU gF pL qF mX oE dY pQ qI sY uG pY nJ pN post) args s 0 0 A) (F0 m 27 ls [.int k0]) := by
  obtain ⟨hx, hb, hr, hml, hown, hts, hlocks, hA, hK, hN, tL, tM, hZL, hTL, hZM, hTM, hZX⟩ := id C0
  intro k0 wE qL qJ rX jE eW eY dU fY gJ jG nU qY qU pR uM tD qB jK H locs ls hp hP hD hS hl
  unfold ws_X9_day_27 at hp
  refine lv_istore_n (lv' := [(1, .int k0), (0, .ref a_x)]) hx hb eX9_day_4.2.2.2.2.2.2.2.2.2.2.1 rfl hl (by decide) rfl (fun ls hl => ?_)
  refine lv_iload_n hx hb eX9_day_4.2.2.2.2.2.2.2.2.2.2.2.1 rfl (lv_at hl 0 rfl) ?_
  refine lv_iconst (v := (-1)) hx hb eX9_day_4.2.2.2.2.2.2.2.2.2.2.2.2.1 aEJ ?_
  refine lv_icmp_eq (tgt := 47) hx hb eX9_day_4.2.2.2.2.2.2.2.2.2.2.2.2.2.1 (by decide) (fun hc => ?_) (fun hc => ?_)
  · have hp := hp.1 hc
    exact ks_X9_day_47 C0 k0 wE qL qJ rX jE eW eY dU fY gJ jG nU qY qU pR uM tD qB jK H locs ls hp hP hD hS (lv_sub hl [1, 0] rfl)
  · have hp := hp.2 hc
    refine lv_aload_n hx hb eX9_day_4.2.2.2.2.2.2.2.2.2.2.2.2.2.2.1 rfl (lv_at hl 1 rfl) ?_
    refine va_get (D := (dC, dI)) (ci := 9) (v := .ref xI) (C := RX9) (T := TX9) (N := 9) hx hb hts aC3 hown hK hP 0 rfl rfl 0 (lbz rfl) (hts _ q_3) (fun _ h9 => h9) rfl eX9_day_4.2.2.2.2.2.2.2.2.2.2.2.2.2.2.2 ?_
    have hm := mgk (wc := (wd_X8_isThrough cI cC cZ cB cJ xI uY qL qJ rX)) hP mk_91 22 rfl rfl rfl
    refine yW hP hD hS hA (yS mk_91) (aAi mk_91) hm.1 hm.2 (aAk _) (zW _) (zF (As := []) (rest := []) C0 hP hD hS (yS mk_91) hm.1 (aAl _) 2 8 rfl rfl (c_X8_isThrough l dC dI cI cC cZ cB cJ xI uY H.size qL qJ rX _ hp) q_97 q_100 q_98 q_99 q_5 h_X8_isThrough rfl rfl ⟨lbz rfl, lbz rfl⟩ rfl rfl hl.1 rfl (lv_room (lbz rfl)) eX9_day_37.1 ⟨Nat.zero_le _, Nat.zero_le _⟩) (fun r_24 u H locs hp hP hD hS => ?_)
    have hPD := PDm (ws' := (wd_X9_day cI cC cZ cB cJ a_x xI xH xB vI wY xX yA xY uD uY xO tJ jJ mY pG pD pE eO uS tX uR rY tY wF uT wD rG wE qL qJ rX qM dN bD bJ aI uU gF pL qF mX oE dY jE eW eY dU fY gJ jG nU pQ qI sY uG pY nJ qY qU pN pR uM tD qB jK)) hP hD 22 rfl rfl rfl
    have hP := hPD.1
    have hD := hPD.2
    refine lv_if_eq (tgt := 47) hx hb eX9_day_37.2.1 (by decide) (fun hc => ?_) (fun hc => ?_)
    · have hp := hp.1 hc
      exact ks_X9_day_47 C0 k0 wE qL qJ rX jE eW eY dU fY gJ jG nU qY qU pR uM tD qB jK H locs ls hp hP hD hS (lv_sub hl [1, 0] rfl)
    · have hp := hp.2 hc
      refine lv_iconst (v := 1) hx hb eX9_day_37.2.2.1 aDx ?_
      refine lv_goto (tgt := 48) hx hb eX9_day_37.2.2.2.1 (by decide) ?_
      exact ks_X9_day_48 C0 k0 1 wE qL qJ rX jE eW eY dU fY gJ jG nU qY qU pR uM tD qB jK H locs ls hp hP hD hS (lv_sub hl [1, 0] rfl)
end S_X9_day
def wp_X9_day (post : Int32 -> (Nat -> Int32) -> Int32 -> Int32 -> Int32 -> Int32 -> Int32 -> Int32 -> Int32 -> Int32 -> Int32 -> Int32 -> Int32 -> (Nat -> Int32) -> (Nat -> Int32) -> Int32 -> Int32 -> (Nat -> Int32) -> Int32 -> (Nat -> Int32) -> Prop) (wE : Nat -> Int32) (qL qJ rX : Int32) (qM : Nat -> Int32) (dN bD : Int32) (uU gF pL qF mX oE dY : Nat -> Int32) (jE eW eY dU fY gJ jG nU pQ : Int32) (qY qU pN : Nat -> Int32) (pR uM : Int32) (tD : Nat -> Int32) (qB : Int32) (jK : Nat -> Int32) : Prop := wp_X8_open (fun aRK aJl => (¬ qL = 0 -> wp_X9_readActs (fun r_3 x_acts_4 aR5 => ws_X9_day_27 post qM dN bD uU gF pL qF mX oE dY pQ pN r_3 x_acts_4 qL aR5 aJl jE eW eY dU fY gJ jG nU qY qU pR uM tD qB jK) wE aRK aJl qM) /\ (qL = 0 -> ws_X9_day_27 post qM dN bD uU gF pL qF mX oE dY pQ pN 0 wE qL aRK aJl jE eW eY dU fY gJ jG nU qY qU pR uM tD qB jK)) 60 qL qJ rX
set_option maxHeartbeats 4000000 in
set_option maxRecDepth 100000 in
theorem c_X9_day (l : Launch) (dC : Nat -> ClassId) (dI : Nat -> Nat -> Nat) (cI cC cZ cB cJ : ClassId) (a_x xI xH xB vI wY xX yA xY uD uY xO tJ jJ mY pG pD pE eO uS tX uR rY tY wF uT wD rG sz : Nat) (wE : Nat -> Int32) (qL qJ rX : Int32) (qM : Nat -> Int32) (dN bD bJ aI : Int32) (uU gF pL qF mX oE dY : Nat -> Int32) (jE eW eY dU fY gJ jG nU pQ qI sY uG pY nJ : Int32) (qY qU pN : Nat -> Int32) (pR uM : Int32) (tD : Nat -> Int32) (qB : Int32) (jK : Nat -> Int32) (post : Int32 -> (Nat -> Int32) -> Int32 -> Int32 -> Int32 -> Int32 -> Int32 -> Int32 -> Int32 -> Int32 -> Int32 -> Int32 -> Int32 -> (Nat -> Int32) -> (Nat -> Int32) -> Int32 -> Int32 -> (Nat -> Int32) -> Int32 -> (Nat -> Int32) -> Prop) (hw : wp_X9_day post wE qL qJ rX qM dN bD uU gF pL qF mX oE dY jE eW eY dU fY gJ jG nU pQ qY qU pN pR uM tD qB jK) : Met l yX9_day (gw yX9_day aM4 4 (some .int)) rm_X9_day (va_Pc [.ref a_x] (gPre (dC, dI) (tyl cI cC cZ cB cJ) (wd_X9_day cI cC cZ cB cJ a_x xI xH xB vI wY xX yA xY uD uY xO tJ jJ mY pG pD pE eO uS tX uR rY tY wF uT wD rG wE qL qJ rX qM dN bD bJ aI uU gF pL qF mX oE dY jE eW eY dU fY gJ jG nU pQ qI sY uG pY nJ qY qU pN pR uM tD qB jK) sz)) (q_X9_day dC dI cI cC cZ cB cJ (va_A (wd_X9_day cI cC cZ cB cJ a_x xI xH xB vI wY xX yA xY uD uY xO tJ jJ mY pG pD pE eO uS tX uR rY tY wF uT wD rG wE qL qJ rX qM dN bD bJ aI uU gF pL qF mX oE dY jE eW eY dU fY gJ jG nU pQ qI sY uG pY nJ qY qU pN pR uM tD qB jK) sz) a_x xI xH xB vI wY xX yA xY uD uY xO tJ jJ mY pG pD pE eO uS tX uR rY tY wF uT wD rG qM dN bD bJ aI uU gF pL qF mX oE dY pQ qI sY uG pY nJ pN post) 0 0 (va_A (wd_X9_day cI cC cZ cB cJ a_x xI xH xB vI wY xX yA xY uD uY xO tJ jJ mY pG pD pE eO uS tX uR rY tY wF uT wD rG wE qL qJ rX qM dN bD bJ aI uU gF pL qF mX oE dY jE eW eY dU fY gJ jG nU pQ qI sY uG pY nJ qY qU pN pR uM tD qB jK) sz) := by
  refine aBJ (own := RX9) (dC, dI) (tyl cI cC cZ cB cJ) (wd_X9_day cI cC cZ cB cJ a_x xI xH xB vI wY xX yA xY uD uY xO tJ jJ mY pG pD pE eO uS tX uR rY tY wF uT wD rG wE qL qJ rX qM dN bD bJ aI uU gF pL qF mX oE dY jE eW eY dU fY gJ jG nU pQ qI sY uG pY nJ qY qU pN pR uM tD qB jK) sz [.ref a_x] (fun A => q_X9_day dC dI cI cC cZ cB cJ A a_x xI xH xB vI wY xX yA xY uD uY xO tJ jJ mY pG pD pE eO uS tX uR rY tY wF uT wD rG qM dN bD bJ aI uU gF pL qF mX oE dY pQ qI sY uG pY nJ pN post) pn_RX9 rfl (lbz rfl) ?_
  intro p e s m args below meth c A H locs ls C0 hP hD hS hl
  have hl : lv_has ls 4 [(0, .ref a_x)] := hl
  obtain ⟨hx, hb, hr, hml, hown, hts, hlocks, hA, hK, hN, tL, tM, hZL, hTL, hZM, hTM, hZX⟩ := id C0
  have hp := hw
  unfold wp_X9_day at hp
  refine lv_aload_n hx hb eX9_day_0.1 rfl (lv_at hl 0 rfl) ?_
  refine va_get (D := (dC, dI)) (ci := 9) (v := .ref xI) (C := RX9) (T := TX9) (N := 9) hx hb hts aC3 hown hK hP 0 rfl rfl 0 (lbz rfl) (hts _ q_3) (fun _ h9 => h9) rfl eX9_day_0.2 ?_
  refine lv_bipush (v := 60) hx hb eX9_day_4.1 bp_60 ?_
  have hm := mgk (wc := (wd_X8_open cI cC cZ cB cJ xI uY qL qJ rX)) hP mk_91 22 rfl rfl rfl
  refine aBn hP hD hS hA (yS mk_91) (aAi mk_91) hm.1 hm.2 (aAk _) (zW _) (zF (As := [.int 60]) (rest := []) C0 hP hD hS (yS mk_91) hm.1 (aAl _) 2 8 rfl rfl (c_X8_open l dC dI cI cC cZ cB cJ xI uY H.size 60 qL qJ rX _ hp) q_69 q_72 q_70 q_71 q_5 h_X8_open rfl rfl ⟨lbz rfl, lbz rfl⟩ rfl rfl hl.1 rfl (lv_room (lbz rfl)) eX9_day_4.2.1 ⟨Nat.zero_le _, Nat.zero_le _⟩) (fun u H locs hp hP hD hS => ?_)
  obtain ⟨aRK, aJl⟩ := u
  have hPD := PDm (ws' := (wd_X9_day cI cC cZ cB cJ a_x xI xH xB vI wY xX yA xY uD uY xO tJ jJ mY pG pD pE eO uS tX uR rY tY wF uT wD rG wE qL aRK aJl qM dN bD bJ aI uU gF pL qF mX oE dY jE eW eY dU fY gJ jG nU pQ qI sY uG pY nJ qY qU pN pR uM tD qB jK)) hP hD 22 rfl rfl rfl
  have hP := hPD.1
  have hD := hPD.2
  refine lv_aload_n hx hb eX9_day_4.2.2.1 rfl (lv_at hl 0 rfl) ?_
  refine va_get (D := (dC, dI)) (ci := 9) (v := .ref xI) (C := RX9) (T := TX9) (N := 9) hx hb hts aC3 hown hK hP 0 rfl rfl 0 (lbz rfl) (hts _ q_3) (fun _ h9 => h9) rfl eX9_day_4.2.2.2.1 ?_
  refine va_get (D := (dC, dI)) (ci := 8) (v := .int qL) (C := RX8) (T := TX8) (N := 4) hx hb hts i_X8 hown hK hP 2 rfl rfl 1 (lbz rfl) (hts _ q_73) (fun _ h9 => h9) rfl eX9_day_4.2.2.2.2.1 ?_
  refine lv_if_ne (tgt := 23) hx hb eX9_day_4.2.2.2.2.2.1 (by decide) (fun hc => ?_) (fun hc => ?_)
  · have hp := hp.1 hc
    refine lv_aload_n hx hb eX9_day_4.2.2.2.2.2.2.2.2.1 rfl (lv_at hl 0 rfl) ?_
    have hm := mgk (wc := (aQ9 cI cC cZ cB cJ a_x xI xH xB vI wY xX yA xY uD uY wE qL aRK aJl qM)) hP mk_93 22 rfl rfl rfl
    refine yW hP hD hS hA (yS mk_93) (aAi mk_93) hm.1 hm.2 (aAk _) (zW _) (zF (As := []) (rest := []) C0 hP hD hS (yS mk_93) hm.1 (aAl _) 0 9 rfl rfl (c_X9_readActs l dC dI cI cC cZ cB cJ a_x xI xH xB vI wY xX yA xY uD uY H.size wE qL aRK aJl qM _ hp) q_394 q_397 q_395 q_396 aIl h_X9_readActs rfl rfl ⟨lbz rfl, lbz rfl⟩ rfl rfl hl.1 rfl (lv_room (lbz rfl)) eX9_day_4.2.2.2.2.2.2.2.2.2.1 ⟨Nat.zero_le _, Nat.zero_le _⟩) (fun r_3 u H locs hp hP hD hS => ?_)
    obtain ⟨x_acts_4, aR5⟩ := u
    have hPD := PDm (ws' := (wd_X9_day cI cC cZ cB cJ a_x xI xH xB vI wY xX yA xY uD uY xO tJ jJ mY pG pD pE eO uS tX uR rY tY wF uT wD rG x_acts_4 qL aR5 aJl qM dN bD bJ aI uU gF pL qF mX oE dY jE eW eY dU fY gJ jG nU pQ qI sY uG pY nJ qY qU pN pR uM tD qB jK)) hP hD 22 rfl rfl rfl
    have hP := hPD.1
    have hD := hPD.2
    exact ks_X9_day_27 C0 r_3 x_acts_4 qL aR5 aJl jE eW eY dU fY gJ jG nU qY qU pR uM tD qB jK H locs ls hp hP hD hS (lv_sub hl [0] rfl)
  · have hp := hp.2 hc
    refine lv_iconst (v := 0) hx hb eX9_day_4.2.2.2.2.2.2.1 aCi ?_
    refine lv_goto (tgt := 27) hx hb eX9_day_4.2.2.2.2.2.2.2.1 (by decide) ?_
    exact ks_X9_day_27 C0 0 wE qL aRK aJl jE eW eY dU fY gJ jG nU qY qU pR uM tD qB jK H locs ls hp hP hD hS (lv_sub hl [0] rfl)
abbrev aUL (cI cC cZ cB cJ : ClassId) (wY wF : Nat) (jE eW eY dU fY gJ jG nU : Int32) (tD : Nat -> Int32) : va_W := [(wY, .inr (2, [.int jE, .int eW, .int eY, .int dU, .int fY, .int gJ, .int jG, .int nU])), (wF, .inl (cI, 104, .inl tD))]
abbrev q_X2_read (dC : Nat -> ClassId) (dI : Nat -> Nat -> Nat) (cI cC cZ cB cJ : ClassId) (A : Nat -> Prop) (wY wF : Nat) (tD : Nat -> Int32) (post : Int32 -> Int32 -> Int32 -> Int32 -> Int32 -> Int32 -> Int32 -> Int32 -> Prop) : Array Value -> State -> Outcome -> State -> Prop := va_Qv (fun (u : Int32 × Int32 × Int32 × Int32 × Int32 × Int32 × Int32 × Int32) => post u.1 u.2.1 u.2.2.1 u.2.2.2.1 u.2.2.2.2.1 u.2.2.2.2.2.1 u.2.2.2.2.2.2.1 u.2.2.2.2.2.2.2) (fun u t => gB (dC, dI) (tyl cI cC cZ cB cJ) A (aUL cI cC cZ cB cJ wY wF u.1 u.2.1 u.2.2.1 u.2.2.2.1 u.2.2.2.2.1 u.2.2.2.2.2.1 u.2.2.2.2.2.2.1 u.2.2.2.2.2.2.2 tD) t) A
abbrev rm_X2_read : Room := { frames := 0, cells := 0, slots := 0, locals := 0 }
def wp_X2_read (post : Int32 -> Int32 -> Int32 -> Int32 -> Int32 -> Int32 -> Int32 -> Int32 -> Prop) (p1 jE eW eY dU fY gJ jG nU : Int32) (tD : Nat -> Int32) : Prop := (p1 < 0 -> post jE eW eY dU fY gJ jG nU) /\ (¬ p1 < 0 -> (p1 <= (104 - 8) -> vp_in p1 104 /\ (∀ v_1 : Int32, v_1 = tD p1.toNatClampNeg -> ∀ v_2 : Int32, v_2 = p1 + 1 -> vp_in v_2 104 /\ (∀ v_3 : Int32, v_3 = tD v_2.toNatClampNeg -> ∀ v_4 : Int32, v_4 = p1 + 2 -> vp_in v_4 104 /\ (∀ v_5 : Int32, v_5 = tD v_4.toNatClampNeg -> ∀ v_6 : Int32, v_6 = p1 + 3 -> vp_in v_6 104 /\ (∀ v_7 : Int32, v_7 = tD v_6.toNatClampNeg -> ∀ v_8 : Int32, v_8 = p1 + 4 -> vp_in v_8 104 /\ (∀ v_9 : Int32, v_9 = tD v_8.toNatClampNeg -> ∀ aEr : Int32, aEr = p1 + 5 -> vp_in aEr 104 /\ (∀ aGH : Int32, aGH = tD aEr.toNatClampNeg -> ∀ aEp : Int32, aEp = p1 + 6 -> vp_in aEp 104 /\ (∀ aIQ : Int32, aIQ = tD aEp.toNatClampNeg -> ∀ aGC : Int32, aGC = p1 + 7 -> vp_in aGC 104 /\ (∀ aHe : Int32, aHe = tD aGC.toNatClampNeg -> post v_1 v_3 v_5 v_7 v_9 aGH aIQ aHe))))))))) /\ (¬ p1 <= (104 - 8) -> post jE eW eY dU fY gJ jG nU))
set_option maxHeartbeats 4000000 in
set_option maxRecDepth 100000 in
theorem c_X2_read (l : Launch) (dC : Nat -> ClassId) (dI : Nat -> Nat -> Nat) (cI cC cZ cB cJ : ClassId) (wY wF sz : Nat) (p1 jE eW eY dU fY gJ jG nU : Int32) (tD : Nat -> Int32) (post : Int32 -> Int32 -> Int32 -> Int32 -> Int32 -> Int32 -> Int32 -> Int32 -> Prop) (hw : wp_X2_read post p1 jE eW eY dU fY gJ jG nU tD) : Met l yX2_read (gw yX2_read aFe 3 none) rm_X2_read (va_Pc [.ref wY, .ref wF, .int p1] (gPre (dC, dI) (tyl cI cC cZ cB cJ) (aUL cI cC cZ cB cJ wY wF jE eW eY dU fY gJ jG nU tD) sz)) (q_X2_read dC dI cI cC cZ cB cJ (va_A (aUL cI cC cZ cB cJ wY wF jE eW eY dU fY gJ jG nU tD) sz) wY wF tD post) 0 0 (va_A (aUL cI cC cZ cB cJ wY wF jE eW eY dU fY gJ jG nU tD) sz) := by
  refine aBJ (own := RX2) (dC, dI) (tyl cI cC cZ cB cJ) (aUL cI cC cZ cB cJ wY wF jE eW eY dU fY gJ jG nU tD) sz [.ref wY, .ref wF, .int p1] (fun A => q_X2_read dC dI cI cC cZ cB cJ A wY wF tD post) pn_RX2 rfl (lbz rfl) ?_
  intro p e s m args below meth c A H locs ls C0 hP hD hS hl
  have hl : lv_has ls 3 [(0, .ref wY), (1, .ref wF), (2, .int p1)] := hl
  obtain ⟨hx, hb, hr, hml, hown, hts, hlocks, hA, hK, hN, tL, tM, hZL, hTL, hZM, hTM, hZX⟩ := id C0
  have hp := hw
  unfold wp_X2_read at hp
  refine lv_iload_n hx hb aJR.1 rfl (lv_at hl 2 rfl) ?_
  refine lv_if_lt (tgt := 13) hx hb aJR.2.1 (by decide) (fun hc => ?_) (fun hc => ?_)
  · have hp := hp.1 hc
    exact W.vret hx hb hr (fun t ht hW => ⟨⟨(jE, eW, eY, dU, fY, gJ, jG, nU), rfl, hp, by rw [ht]; exact hP, va_K.moved hW.alike hK, hD⟩, hS.F ht⟩) hS.2.2 aJR.2.2.2.2.2.2.2.2.1
  · have hp := hp.2 hc
    refine lv_iload_n hx hb aJR.2.2.1 rfl (lv_at hl 2 rfl) ?_
    refine lv_aload_n hx hb aJR.2.2.2.1 rfl (lv_at hl 1 rfl) ?_
    refine va_alen (v := 104) hx hb hK hP 1 0 rfl rfl rfl aJR.2.2.2.2.1 ?_
    refine lv_bipush (v := 8) hx hb aJR.2.2.2.2.2.1 bp_8 ?_
    refine lv_isub hx hb aJR.2.2.2.2.2.2.1 ?_
    refine lv_icmp_le (tgt := 14) hx hb aJR.2.2.2.2.2.2.2.1 (by decide) (fun hc => ?_) (fun hc => ?_)
    · have hp := hp.1 hc
      refine lv_aload_n hx hb aJR.2.2.2.2.2.2.2.2.2.1 rfl (lv_at hl 0 rfl) ?_
      refine lv_aload_n hx hb aJR.2.2.2.2.2.2.2.2.2.2.1 rfl (lv_at hl 1 rfl) ?_
      refine lv_iload_n hx hb aJR.2.2.2.2.2.2.2.2.2.2.2.1 rfl (lv_at hl 2 rfl) ?_
      have hin := hp.1
      have hp := hp.2
      refine va_iald hx hb hK hP 1 0 rfl rfl hin aJR.2.2.2.2.2.2.2.2.2.2.2.2.1 ?_
      refine lv_topi (fun v_1 aFJ => ?_)
      have hp := hp v_1 aFJ
      refine va_put (D := (dC, dI)) (ci := 2) (v := .int v_1) (ty := .int) (C := RX2) (T := TX2) (N := 8) hx hb hts i_X2 tyX2 aIa nmX2 hown hK hP hD hS 0 rfl rfl 0 (lbz rfl) (hts _ q_168) (fun _ h9 => h9) rfl (aIa 0 (lbz rfl)) rfl rfl (lbz rfl) aJR.2.2.2.2.2.2.2.2.2.2.2.2.2.1 (fun H locs hP hD hS => ?_)
      have hPD := PDw (ws' := (aUL cI cC cZ cB cJ wY wF v_1 eW eY dU fY gJ jG nU tD)) hP hD rfl
      have hP := hPD.1
      have hD := hPD.2
      refine lv_aload_n hx hb aJR.2.2.2.2.2.2.2.2.2.2.2.2.2.2.1 rfl (lv_at hl 0 rfl) ?_
      refine lv_aload_n hx hb aJR.2.2.2.2.2.2.2.2.2.2.2.2.2.2.2 rfl (lv_at hl 1 rfl) ?_
      refine lv_iload_n hx hb aIf.1 rfl (lv_at hl 2 rfl) ?_
      refine lv_iconst (v := 1) hx hb aIf.2.1 aDx ?_
      refine lv_iadd hx hb aIf.2.2.1 ?_
      refine lv_topi (fun v_2 aGO => ?_)
      have hp := hp v_2 aGO
      have hin := hp.1
      have hp := hp.2
      refine va_iald hx hb hK hP 1 0 rfl rfl hin aIf.2.2.2.1 ?_
      refine lv_topi (fun v_3 aGW => ?_)
      have hp := hp v_3 aGW
      refine va_put (D := (dC, dI)) (ci := 2) (v := .int v_3) (ty := .int) (C := RX2) (T := TX2) (N := 8) hx hb hts i_X2 tyX2 aIa nmX2 hown hK hP hD hS 0 rfl rfl 1 (lbz rfl) (hts _ q_169) (fun _ h9 => h9) rfl (aIa 1 (lbz rfl)) rfl rfl (lbz rfl) aIf.2.2.2.2.1 (fun H locs hP hD hS => ?_)
      have hPD := PDw (ws' := (aUL cI cC cZ cB cJ wY wF v_1 v_3 eY dU fY gJ jG nU tD)) hP hD rfl
      have hP := hPD.1
      have hD := hPD.2
      refine lv_aload_n hx hb aIf.2.2.2.2.2.1 rfl (lv_at hl 0 rfl) ?_
      refine lv_aload_n hx hb aIf.2.2.2.2.2.2.1 rfl (lv_at hl 1 rfl) ?_
      refine lv_iload_n hx hb aIf.2.2.2.2.2.2.2.1 rfl (lv_at hl 2 rfl) ?_
      refine lv_iconst (v := 2) hx hb aIf.2.2.2.2.2.2.2.2.1 ic_2 ?_
      refine lv_iadd hx hb aIf.2.2.2.2.2.2.2.2.2.1 ?_
      refine lv_topi (fun v_4 aHM => ?_)
      have hp := hp v_4 aHM
      have hin := hp.1
      have hp := hp.2
      refine va_iald hx hb hK hP 1 0 rfl rfl hin aIf.2.2.2.2.2.2.2.2.2.2.1 ?_
      refine lv_topi (fun v_5 aJD => ?_)
      have hp := hp v_5 aJD
      refine va_put (D := (dC, dI)) (ci := 2) (v := .int v_5) (ty := .int) (C := RX2) (T := TX2) (N := 8) hx hb hts i_X2 tyX2 aIa nmX2 hown hK hP hD hS 0 rfl rfl 2 (lbz rfl) (hts _ q_170) (fun _ h9 => h9) rfl (aIa 2 (lbz rfl)) rfl rfl (lbz rfl) aIf.2.2.2.2.2.2.2.2.2.2.2.1 (fun H locs hP hD hS => ?_)
      have hPD := PDw (ws' := (aUL cI cC cZ cB cJ wY wF v_1 v_3 v_5 dU fY gJ jG nU tD)) hP hD rfl
      have hP := hPD.1
      have hD := hPD.2
      refine lv_aload_n hx hb aIf.2.2.2.2.2.2.2.2.2.2.2.2.1 rfl (lv_at hl 0 rfl) ?_
      refine lv_aload_n hx hb aIf.2.2.2.2.2.2.2.2.2.2.2.2.2.1 rfl (lv_at hl 1 rfl) ?_
      refine lv_iload_n hx hb aIf.2.2.2.2.2.2.2.2.2.2.2.2.2.2.1 rfl (lv_at hl 2 rfl) ?_
      refine lv_iconst (v := 3) hx hb aIf.2.2.2.2.2.2.2.2.2.2.2.2.2.2.2 ic_3 ?_
      refine lv_iadd hx hb aIg.1 ?_
      refine lv_topi (fun v_6 ev_6 => ?_)
      have hp := hp v_6 ev_6
      have hin := hp.1
      have hp := hp.2
      refine va_iald hx hb hK hP 1 0 rfl rfl hin aIg.2.1 ?_
      refine lv_topi (fun v_7 ev_7 => ?_)
      have hp := hp v_7 ev_7
      refine va_put (D := (dC, dI)) (ci := 2) (v := .int v_7) (ty := .int) (C := RX2) (T := TX2) (N := 8) hx hb hts i_X2 tyX2 aIa nmX2 hown hK hP hD hS 0 rfl rfl 3 (lbz rfl) (hts _ q_214) (fun _ h9 => h9) rfl (aIa 3 (lbz rfl)) rfl rfl (lbz rfl) aIg.2.2.1 (fun H locs hP hD hS => ?_)
      have hPD := PDw (ws' := (aUL cI cC cZ cB cJ wY wF v_1 v_3 v_5 v_7 fY gJ jG nU tD)) hP hD rfl
      have hP := hPD.1
      have hD := hPD.2
      refine lv_aload_n hx hb aIg.2.2.2.1 rfl (lv_at hl 0 rfl) ?_
      refine lv_aload_n hx hb aIg.2.2.2.2.1 rfl (lv_at hl 1 rfl) ?_
      refine lv_iload_n hx hb aIg.2.2.2.2.2.1 rfl (lv_at hl 2 rfl) ?_
      refine lv_iconst (v := 4) hx hb aIg.2.2.2.2.2.2.1 ic_4 ?_
      refine lv_iadd hx hb aIg.2.2.2.2.2.2.2.1 ?_
      refine lv_topi (fun v_8 ev_8 => ?_)
      have hp := hp v_8 ev_8
      have hin := hp.1
      have hp := hp.2
      refine va_iald hx hb hK hP 1 0 rfl rfl hin aIg.2.2.2.2.2.2.2.2.1 ?_
      refine lv_topi (fun v_9 ev_9 => ?_)
      have hp := hp v_9 ev_9
      refine va_put (D := (dC, dI)) (ci := 2) (v := .int v_9) (ty := .int) (C := RX2) (T := TX2) (N := 8) hx hb hts i_X2 tyX2 aIa nmX2 hown hK hP hD hS 0 rfl rfl 4 (lbz rfl) (hts _ q_215) (fun _ h9 => h9) rfl (aIa 4 (lbz rfl)) rfl rfl (lbz rfl) aIg.2.2.2.2.2.2.2.2.2.1 (fun H locs hP hD hS => ?_)
      have hPD := PDw (ws' := (aUL cI cC cZ cB cJ wY wF v_1 v_3 v_5 v_7 v_9 gJ jG nU tD)) hP hD rfl
      have hP := hPD.1
      have hD := hPD.2
      refine lv_aload_n hx hb aIg.2.2.2.2.2.2.2.2.2.2.1 rfl (lv_at hl 0 rfl) ?_
      refine lv_aload_n hx hb aIg.2.2.2.2.2.2.2.2.2.2.2.1 rfl (lv_at hl 1 rfl) ?_
      refine lv_iload_n hx hb aIg.2.2.2.2.2.2.2.2.2.2.2.2.1 rfl (lv_at hl 2 rfl) ?_
      refine lv_iconst (v := 5) hx hb aIg.2.2.2.2.2.2.2.2.2.2.2.2.2.1 ic_5 ?_
      refine lv_iadd hx hb aIg.2.2.2.2.2.2.2.2.2.2.2.2.2.2.1 ?_
      refine lv_topi (fun aEr aNB => ?_)
      have hp := hp aEr aNB
      have hin := hp.1
      have hp := hp.2
      refine va_iald hx hb hK hP 1 0 rfl rfl hin aIg.2.2.2.2.2.2.2.2.2.2.2.2.2.2.2 ?_
      refine lv_topi (fun aGH ev_11 => ?_)
      have hp := hp aGH ev_11
      refine va_put (D := (dC, dI)) (ci := 2) (v := .int aGH) (ty := .int) (C := RX2) (T := TX2) (N := 8) hx hb hts i_X2 tyX2 aIa nmX2 hown hK hP hD hS 0 rfl rfl 5 (lbz rfl) (hts _ q_216) (fun _ h9 => h9) rfl (aIa 5 (lbz rfl)) rfl rfl (lbz rfl) aIh.1 (fun H locs hP hD hS => ?_)
      have hPD := PDw (ws' := (aUL cI cC cZ cB cJ wY wF v_1 v_3 v_5 v_7 v_9 aGH jG nU tD)) hP hD rfl
      have hP := hPD.1
      have hD := hPD.2
      refine lv_aload_n hx hb aIh.2.1 rfl (lv_at hl 0 rfl) ?_
      refine lv_aload_n hx hb aIh.2.2.1 rfl (lv_at hl 1 rfl) ?_
      refine lv_iload_n hx hb aIh.2.2.2.1 rfl (lv_at hl 2 rfl) ?_
      refine lv_bipush (v := 6) hx hb aIh.2.2.2.2.1 bp_6 ?_
      refine lv_iadd hx hb aIh.2.2.2.2.2.1 ?_
      refine lv_topi (fun aEp ev_12 => ?_)
      have hp := hp aEp ev_12
      have hin := hp.1
      have hp := hp.2
      refine va_iald hx hb hK hP 1 0 rfl rfl hin aIh.2.2.2.2.2.2.1 ?_
      refine lv_topi (fun aIQ ev_13 => ?_)
      have hp := hp aIQ ev_13
      refine va_put (D := (dC, dI)) (ci := 2) (v := .int aIQ) (ty := .int) (C := RX2) (T := TX2) (N := 8) hx hb hts i_X2 tyX2 aIa nmX2 hown hK hP hD hS 0 rfl rfl 6 (lbz rfl) (hts _ q_217) (fun _ h9 => h9) rfl (aIa 6 (lbz rfl)) rfl rfl (lbz rfl) aIh.2.2.2.2.2.2.2.1 (fun H locs hP hD hS => ?_)
      have hPD := PDw (ws' := (aUL cI cC cZ cB cJ wY wF v_1 v_3 v_5 v_7 v_9 aGH aIQ nU tD)) hP hD rfl
      have hP := hPD.1
      have hD := hPD.2
      refine lv_aload_n hx hb aIh.2.2.2.2.2.2.2.2.1 rfl (lv_at hl 0 rfl) ?_
      refine lv_aload_n hx hb aIh.2.2.2.2.2.2.2.2.2.1 rfl (lv_at hl 1 rfl) ?_
      refine lv_iload_n hx hb aIh.2.2.2.2.2.2.2.2.2.2.1 rfl (lv_at hl 2 rfl) ?_
      refine lv_bipush (v := 7) hx hb aIh.2.2.2.2.2.2.2.2.2.2.2.1 bp_7 ?_
      refine lv_iadd hx hb aIh.2.2.2.2.2.2.2.2.2.2.2.2.1 ?_
      refine lv_topi (fun aGC ev_14 => ?_)
      have hp := hp aGC ev_14
      have hin := hp.1
      have hp := hp.2
      refine va_iald hx hb hK hP 1 0 rfl rfl hin aIh.2.2.2.2.2.2.2.2.2.2.2.2.2.1 ?_
      refine lv_topi (fun aHe ev_15 => ?_)
      have hp := hp aHe ev_15
      refine va_put (D := (dC, dI)) (ci := 2) (v := .int aHe) (ty := .int) (C := RX2) (T := TX2) (N := 8) hx hb hts i_X2 tyX2 aIa nmX2 hown hK hP hD hS 0 rfl rfl 7 (lbz rfl) (hts _ q_218) (fun _ h9 => h9) rfl (aIa 7 (lbz rfl)) rfl rfl (lbz rfl) aIh.2.2.2.2.2.2.2.2.2.2.2.2.2.2.1 (fun H locs hP hD hS => ?_)
      have hPD := PDw (ws' := (aUL cI cC cZ cB cJ wY wF v_1 v_3 v_5 v_7 v_9 aGH aIQ aHe tD)) hP hD rfl
      have hP := hPD.1
      have hD := hPD.2
      exact W.vret hx hb hr (fun t ht hW => ⟨⟨(v_1, v_3, v_5, v_7, v_9, aGH, aIQ, aHe), rfl, hp, by rw [ht]; exact hP, va_K.moved hW.alike hK, hD⟩, hS.F ht⟩) hS.2.2 aIh.2.2.2.2.2.2.2.2.2.2.2.2.2.2.2
    · have hp := hp.2 hc
      exact W.vret hx hb hr (fun t ht hW => ⟨⟨(jE, eW, eY, dU, fY, gJ, jG, nU), rfl, hp, by rw [ht]; exact hP, va_K.moved hW.alike hK, hD⟩, hS.F ht⟩) hS.2.2 aJR.2.2.2.2.2.2.2.2.1
abbrev wd_X4_goBack (cI cC cZ cB cJ : ClassId) (wY xX wF uT wD : Nat) (jE eW eY dU fY gJ jG nU pR uM : Int32) (tD : Nat -> Int32) : va_W := [(wY, .inr (2, [.int jE, .int eW, .int eY, .int dU, .int fY, .int gJ, .int jG, .int nU])), (xX, .inr (4, [.ref wF, .ref uT, .ref wD, .int pR, .int uM])), (wF, .inl (cI, 104, .inl tD))]
abbrev q_X4_goBack (dC : Nat -> ClassId) (dI : Nat -> Nat -> Nat) (cI cC cZ cB cJ : ClassId) (A : Nat -> Prop) (wY xX wF uT wD : Nat) (tD : Nat -> Int32) (post : Int32 -> Int32 -> Int32 -> Int32 -> Int32 -> Int32 -> Int32 -> Int32 -> Int32 -> Int32 -> Prop) : Array Value -> State -> Outcome -> State -> Prop := va_Qv (fun (u : Int32 × Int32 × Int32 × Int32 × Int32 × Int32 × Int32 × Int32 × Int32 × Int32) => post u.1 u.2.1 u.2.2.1 u.2.2.2.1 u.2.2.2.2.1 u.2.2.2.2.2.1 u.2.2.2.2.2.2.1 u.2.2.2.2.2.2.2.1 u.2.2.2.2.2.2.2.2.1 u.2.2.2.2.2.2.2.2.2) (fun u t => gB (dC, dI) (tyl cI cC cZ cB cJ) A (wd_X4_goBack cI cC cZ cB cJ wY xX wF uT wD u.1 u.2.1 u.2.2.1 u.2.2.2.1 u.2.2.2.2.1 u.2.2.2.2.2.1 u.2.2.2.2.2.2.1 u.2.2.2.2.2.2.2.1 u.2.2.2.2.2.2.2.2.1 u.2.2.2.2.2.2.2.2.2 tD) t) A
abbrev rm_X4_goBack : Room := { frames := 1, cells := 0, slots := 0, locals := 22 }
def wp_X4_goBack (post : Int32 -> Int32 -> Int32 -> Int32 -> Int32 -> Int32 -> Int32 -> Int32 -> Int32 -> Int32 -> Prop) (jE eW eY dU fY gJ jG nU pR uM : Int32) (tD : Nat -> Int32) : Prop := ∀ v_1 : Int32, v_1 = uM + 13 -> ∀ v_2 : Int32, v_2 = v_1 - 1 -> ∀ v_3 : Int32, v_3 = v_2 - v_2 / 13 * 13 -> ∀ v_4 : Int32, v_4 = pR - 1 -> ∀ v_5 : Int32, v_5 = v_3 * 8 -> wp_X2_read (fun no_apron_6 no_basket_7 no_ground_8 no_bruised_9 no_ladder_10 no_helper_11 no_today_12 no_clock_13 => post no_apron_6 no_basket_7 no_ground_8 no_bruised_9 no_ladder_10 no_helper_11 no_today_12 no_clock_13 v_4 v_3) v_5 jE eW eY dU fY gJ jG nU tD
set_option maxHeartbeats 4000000 in
set_option maxRecDepth 100000 in
theorem c_X4_goBack (l : Launch) (dC : Nat -> ClassId) (dI : Nat -> Nat -> Nat) (cI cC cZ cB cJ : ClassId) (wY xX wF uT wD sz : Nat) (jE eW eY dU fY gJ jG nU pR uM : Int32) (tD : Nat -> Int32) (post : Int32 -> Int32 -> Int32 -> Int32 -> Int32 -> Int32 -> Int32 -> Int32 -> Int32 -> Int32 -> Prop) (hw : wp_X4_goBack post jE eW eY dU fY gJ jG nU pR uM tD) : Met l yX4_goBack (gw yX4_goBack aNP 2 none) rm_X4_goBack (va_Pc [.ref xX, .ref wY] (gPre (dC, dI) (tyl cI cC cZ cB cJ) (wd_X4_goBack cI cC cZ cB cJ wY xX wF uT wD jE eW eY dU fY gJ jG nU pR uM tD) sz)) (q_X4_goBack dC dI cI cC cZ cB cJ (va_A (wd_X4_goBack cI cC cZ cB cJ wY xX wF uT wD jE eW eY dU fY gJ jG nU pR uM tD) sz) wY xX wF uT wD tD post) 0 0 (va_A (wd_X4_goBack cI cC cZ cB cJ wY xX wF uT wD jE eW eY dU fY gJ jG nU pR uM tD) sz) := by
  refine aBJ (own := RX4) (dC, dI) (tyl cI cC cZ cB cJ) (wd_X4_goBack cI cC cZ cB cJ wY xX wF uT wD jE eW eY dU fY gJ jG nU pR uM tD) sz [.ref xX, .ref wY] (fun A => q_X4_goBack dC dI cI cC cZ cB cJ A wY xX wF uT wD tD post) pn_RX4 rfl (lbz rfl) ?_
  intro p e s m args below meth c A H locs ls C0 hP hD hS hl
  have hl : lv_has ls 2 [(0, .ref xX), (1, .ref wY)] := hl
  obtain ⟨hx, hb, hr, hml, hown, hts, hlocks, hA, hK, hN, tL, tM, hZL, hTL, hZM, hTM, hZX⟩ := id C0
  have hp := hw
  unfold wp_X4_goBack at hp
  refine lv_aload_n hx hb aWd.1 rfl (lv_at hl 0 rfl) ?_
  refine lv_aload_n hx hb aWd.2.1 rfl (lv_at hl 0 rfl) ?_
  refine va_get (D := (dC, dI)) (ci := 4) (v := .int uM) (C := RX4) (T := TX4) (N := 5) hx hb hts i_X4 hown hK hP 1 rfl rfl 4 (lbz rfl) (hts _ q_220) (fun _ h9 => h9) rfl aWd.2.2.1 ?_
  refine lv_bipush (v := 13) hx hb aWd.2.2.2.1 bp_13 ?_
  refine lv_iadd hx hb aWd.2.2.2.2.1 ?_
  refine lv_topi (fun v_1 aFJ => ?_)
  have hp := hp v_1 aFJ
  refine lv_iconst (v := 1) hx hb aWd.2.2.2.2.2.1 aDx ?_
  refine lv_isub hx hb aWd.2.2.2.2.2.2.1 ?_
  refine lv_topi (fun v_2 aGO => ?_)
  have hp := hp v_2 aGO
  refine lv_bipush (v := 13) hx hb aWd.2.2.2.2.2.2.2.1 bp_13 ?_
  refine lv_irem hx hb aWd.2.2.2.2.2.2.2.2.1 (by decide) ?_
  refine lv_topi (fun v_3 aGW => ?_)
  have hp := hp v_3 aGW
  refine va_put (D := (dC, dI)) (ci := 4) (v := .int v_3) (ty := .int) (C := RX4) (T := TX4) (N := 5) hx hb hts i_X4 tyX4 tyX4_ok nmX4 hown hK hP hD hS 1 rfl rfl 4 (lbz rfl) (hts _ q_220) (fun _ h9 => h9) rfl (tyX4_ok 4 (lbz rfl)) rfl rfl (lbz rfl) aWd.2.2.2.2.2.2.2.2.2.1 (fun H locs hP hD hS => ?_)
  have hPD := PDw (ws' := (wd_X4_goBack cI cC cZ cB cJ wY xX wF uT wD jE eW eY dU fY gJ jG nU pR v_3 tD)) hP hD rfl
  have hP := hPD.1
  have hD := hPD.2
  refine lv_aload_n hx hb aWd.2.2.2.2.2.2.2.2.2.2.1 rfl (lv_at hl 0 rfl) ?_
  refine lv_dup hx hb aWd.2.2.2.2.2.2.2.2.2.2.2.1 rfl ?_
  refine va_get (D := (dC, dI)) (ci := 4) (v := .int pR) (C := RX4) (T := TX4) (N := 5) hx hb hts i_X4 hown hK hP 1 rfl rfl 3 (lbz rfl) (hts _ q_23) (fun _ h9 => h9) rfl aWd.2.2.2.2.2.2.2.2.2.2.2.2.1 ?_
  refine lv_iconst (v := 1) hx hb aWd.2.2.2.2.2.2.2.2.2.2.2.2.2.1 aDx ?_
  refine lv_isub hx hb aWd.2.2.2.2.2.2.2.2.2.2.2.2.2.2.1 ?_
  refine lv_topi (fun v_4 aHM => ?_)
  have hp := hp v_4 aHM
  refine va_put (D := (dC, dI)) (ci := 4) (v := .int v_4) (ty := .int) (C := RX4) (T := TX4) (N := 5) hx hb hts i_X4 tyX4 tyX4_ok nmX4 hown hK hP hD hS 1 rfl rfl 3 (lbz rfl) (hts _ q_23) (fun _ h9 => h9) rfl (tyX4_ok 3 (lbz rfl)) rfl rfl (lbz rfl) aWd.2.2.2.2.2.2.2.2.2.2.2.2.2.2.2 (fun H locs hP hD hS => ?_)
  have hPD := PDw (ws' := (wd_X4_goBack cI cC cZ cB cJ wY xX wF uT wD jE eW eY dU fY gJ jG nU v_4 v_3 tD)) hP hD rfl
  have hP := hPD.1
  have hD := hPD.2
  refine lv_aload_n hx hb eX4_goBack_26.1 rfl (lv_at hl 1 rfl) ?_
  refine lv_aload_n hx hb eX4_goBack_26.2.1 rfl (lv_at hl 0 rfl) ?_
  refine va_get (D := (dC, dI)) (ci := 4) (v := .ref wF) (C := RX4) (T := TX4) (N := 5) hx hb hts i_X4 hown hK hP 1 rfl rfl 0 (lbz rfl) (hts _ q_219) (fun _ h9 => h9) rfl eX4_goBack_26.2.2.1 ?_
  refine lv_aload_n hx hb eX4_goBack_26.2.2.2.1 rfl (lv_at hl 0 rfl) ?_
  refine va_get (D := (dC, dI)) (ci := 4) (v := .int v_3) (C := RX4) (T := TX4) (N := 5) hx hb hts i_X4 hown hK hP 1 rfl rfl 4 (lbz rfl) (hts _ q_220) (fun _ h9 => h9) rfl eX4_goBack_26.2.2.2.2.1 ?_
  refine lv_bipush (v := 8) hx hb eX4_goBack_26.2.2.2.2.2.1 bp_8 ?_
  refine lv_imul hx hb eX4_goBack_26.2.2.2.2.2.2.1 ?_
  refine lv_topi (fun v_5 aJD => ?_)
  have hp := hp v_5 aJD
  have hm := mgk (wc := (aUL cI cC cZ cB cJ wY wF jE eW eY dU fY gJ jG nU tD)) hP mk_21 3 rfl rfl rfl
  refine aBn hP hD hS hA (yS mk_21) (aAi mk_21) hm.1 hm.2 (aAk _) (zW _) (zF (As := [.ref wF, .int v_5]) (rest := []) C0 hP hD hS (yS mk_21) hm.1 (aAl _) 0 2 rfl rfl (c_X2_read l dC dI cI cC cZ cB cJ wY wF H.size v_5 jE eW eY dU fY gJ jG nU tD _ hp) q_402 q_405 q_403 q_404 q_181 h_X2_read rfl rfl ⟨lbz rfl, lbz rfl⟩ rfl rfl hl.1 rfl (lv_room (lbz rfl)) eX4_goBack_26.2.2.2.2.2.2.2.1 ⟨Nat.zero_le _, Nat.zero_le _⟩) (fun u H locs hp hP hD hS => ?_)
  obtain ⟨no_apron_6, no_basket_7, no_ground_8, no_bruised_9, no_ladder_10, no_helper_11, no_today_12, no_clock_13⟩ := u
  have hPD := PDm (ws' := (wd_X4_goBack cI cC cZ cB cJ wY xX wF uT wD no_apron_6 no_basket_7 no_ground_8 no_bruised_9 no_ladder_10 no_helper_11 no_today_12 no_clock_13 v_4 v_3 tD)) hP hD 3 rfl rfl rfl
  have hP := hPD.1
  have hD := hPD.2
  exact W.vret hx hb hr (fun t ht hW => ⟨⟨(no_apron_6, no_basket_7, no_ground_8, no_bruised_9, no_ladder_10, no_helper_11, no_today_12, no_clock_13, v_4, v_3), rfl, hp, by rw [ht]; exact hP, va_K.moved hW.alike hK, hD⟩, hS.F ht⟩) hS.2.2 eX4_goBack_26.2.2.2.2.2.2.2.2
abbrev wd_X9_undo (cI cC cZ cB cJ : ClassId) (a_x xI xH xB vI wY xX yA xY uD wF uT wD : Nat) (jE eW eY dU fY gJ jG nU pR uM : Int32) (tD : Nat -> Int32) : va_W := [(a_x, .inr (9, [.ref xI, .ref xH, .ref xB, .ref vI, .ref wY, .ref xX, .ref yA, .ref xY, .ref uD])), (wY, .inr (2, [.int jE, .int eW, .int eY, .int dU, .int fY, .int gJ, .int jG, .int nU])), (xX, .inr (4, [.ref wF, .ref uT, .ref wD, .int pR, .int uM])), (wF, .inl (cI, 104, .inl tD))]
abbrev q_X9_undo (dC : Nat -> ClassId) (dI : Nat -> Nat -> Nat) (cI cC cZ cB cJ : ClassId) (A : Nat -> Prop) (a_x xI xH xB vI wY xX yA xY uD wF uT wD : Nat) (tD : Nat -> Int32) (post : Int32 -> Int32 -> Int32 -> Int32 -> Int32 -> Int32 -> Int32 -> Int32 -> Int32 -> Int32 -> Int32 -> Prop) : Array Value -> State -> Outcome -> State -> Prop := va_Qi (fun (r : Int32) (u : Int32 × Int32 × Int32 × Int32 × Int32 × Int32 × Int32 × Int32 × Int32 × Int32) => post r u.1 u.2.1 u.2.2.1 u.2.2.2.1 u.2.2.2.2.1 u.2.2.2.2.2.1 u.2.2.2.2.2.2.1 u.2.2.2.2.2.2.2.1 u.2.2.2.2.2.2.2.2.1 u.2.2.2.2.2.2.2.2.2) (fun u t => gB (dC, dI) (tyl cI cC cZ cB cJ) A (wd_X9_undo cI cC cZ cB cJ a_x xI xH xB vI wY xX yA xY uD wF uT wD u.1 u.2.1 u.2.2.1 u.2.2.2.1 u.2.2.2.2.1 u.2.2.2.2.2.1 u.2.2.2.2.2.2.1 u.2.2.2.2.2.2.2.1 u.2.2.2.2.2.2.2.2.1 u.2.2.2.2.2.2.2.2.2 tD) t) A
abbrev rm_X9_undo : Room := { frames := 2, cells := 0, slots := 0, locals := 43 }
def wp_X9_undo (post : Int32 -> Int32 -> Int32 -> Int32 -> Int32 -> Int32 -> Int32 -> Int32 -> Int32 -> Int32 -> Int32 -> Prop) (jE eW eY dU fY gJ jG nU pR uM : Int32) (tD : Nat -> Int32) : Prop := (¬ pR = 0 -> wp_X4_goBack (fun no_apron_1 no_basket_2 no_ground_3 aW8 bAu no_helper_6 no_today_7 no_clock_8 aPK pa_free_10 => post aPK no_apron_1 no_basket_2 no_ground_3 aW8 bAu no_helper_6 no_today_7 no_clock_8 aPK pa_free_10) jE eW eY dU fY gJ jG nU pR uM tD) /\ (pR = 0 -> post (-1) jE eW eY dU fY gJ jG nU pR uM)
set_option maxHeartbeats 4000000 in
set_option maxRecDepth 100000 in
theorem c_X9_undo (l : Launch) (dC : Nat -> ClassId) (dI : Nat -> Nat -> Nat) (cI cC cZ cB cJ : ClassId) (a_x xI xH xB vI wY xX yA xY uD wF uT wD sz : Nat) (jE eW eY dU fY gJ jG nU pR uM : Int32) (tD : Nat -> Int32) (post : Int32 -> Int32 -> Int32 -> Int32 -> Int32 -> Int32 -> Int32 -> Int32 -> Int32 -> Int32 -> Int32 -> Prop) (hw : wp_X9_undo post jE eW eY dU fY gJ jG nU pR uM tD) : Met l yX9_undo (gw yX9_undo cX9_undo 1 (some .int)) rm_X9_undo (va_Pc [.ref a_x] (gPre (dC, dI) (tyl cI cC cZ cB cJ) (wd_X9_undo cI cC cZ cB cJ a_x xI xH xB vI wY xX yA xY uD wF uT wD jE eW eY dU fY gJ jG nU pR uM tD) sz)) (q_X9_undo dC dI cI cC cZ cB cJ (va_A (wd_X9_undo cI cC cZ cB cJ a_x xI xH xB vI wY xX yA xY uD wF uT wD jE eW eY dU fY gJ jG nU pR uM tD) sz) a_x xI xH xB vI wY xX yA xY uD wF uT wD tD post) 0 0 (va_A (wd_X9_undo cI cC cZ cB cJ a_x xI xH xB vI wY xX yA xY uD wF uT wD jE eW eY dU fY gJ jG nU pR uM tD) sz) := by
  refine aBJ (own := RX9) (dC, dI) (tyl cI cC cZ cB cJ) (wd_X9_undo cI cC cZ cB cJ a_x xI xH xB vI wY xX yA xY uD wF uT wD jE eW eY dU fY gJ jG nU pR uM tD) sz [.ref a_x] (fun A => q_X9_undo dC dI cI cC cZ cB cJ A a_x xI xH xB vI wY xX yA xY uD wF uT wD tD post) pn_RX9 rfl (lbz rfl) ?_
  intro p e s m args below meth c A H locs ls C0 hP hD hS hl
  have hl : lv_has ls 1 [(0, .ref a_x)] := hl
  obtain ⟨hx, hb, hr, hml, hown, hts, hlocks, hA, hK, hN, tL, tM, hZL, hTL, hZM, hTM, hZX⟩ := id C0
  have hp := hw
  unfold wp_X9_undo at hp
  refine lv_aload_n hx hb eX9_undo_0.1 rfl (lv_at hl 0 rfl) ?_
  refine va_get (D := (dC, dI)) (ci := 9) (v := .ref xX) (C := RX9) (T := TX9) (N := 9) hx hb hts aC3 hown hK hP 0 rfl rfl 5 (lbz rfl) (hts _ q_91) (fun _ h9 => h9) rfl eX9_undo_0.2.1 ?_
  refine va_get (D := (dC, dI)) (ci := 4) (v := .int pR) (C := RX4) (T := TX4) (N := 5) hx hb hts i_X4 hown hK hP 2 rfl rfl 3 (lbz rfl) (hts _ q_406) (fun _ h9 => h9) rfl eX9_undo_0.2.2.1 ?_
  refine lv_if_ne (tgt := 12) hx hb eX9_undo_0.2.2.2.1 (by decide) (fun hc => ?_) (fun hc => ?_)
  · have hp := hp.1 hc
    refine lv_aload_n hx hb eX9_undo_0.2.2.2.2.2.2.1 rfl (lv_at hl 0 rfl) ?_
    refine va_get (D := (dC, dI)) (ci := 9) (v := .ref xX) (C := RX9) (T := TX9) (N := 9) hx hb hts aC3 hown hK hP 0 rfl rfl 5 (lbz rfl) (hts _ q_91) (fun _ h9 => h9) rfl eX9_undo_0.2.2.2.2.2.2.2.1 ?_
    refine lv_aload_n hx hb eX9_undo_0.2.2.2.2.2.2.2.2.1 rfl (lv_at hl 0 rfl) ?_
    refine va_get (D := (dC, dI)) (ci := 9) (v := .ref wY) (C := RX9) (T := TX9) (N := 9) hx hb hts aC3 hown hK hP 0 rfl rfl 4 (lbz rfl) (hts _ q_179) (fun _ h9 => h9) rfl eX9_undo_0.2.2.2.2.2.2.2.2.2.1 ?_
    have hm := mgk (wc := (wd_X4_goBack cI cC cZ cB cJ wY xX wF uT wD jE eW eY dU fY gJ jG nU pR uM tD)) hP mk_94 4 rfl rfl rfl
    refine aBn hP hD hS hA (yS mk_94) (aAi mk_94) hm.1 hm.2 (aAk _) (zW _) (zF (As := [.ref wY]) (rest := []) C0 hP hD hS (yS mk_94) hm.1 (aAl _) 2 4 rfl rfl (c_X4_goBack l dC dI cI cC cZ cB cJ wY xX wF uT wD H.size jE eW eY dU fY gJ jG nU pR uM tD _ hp) q_407 q_410 q_408 q_409 q_93 h_X4_goBack rfl rfl ⟨lbz rfl, lbz rfl⟩ rfl rfl hl.1 rfl (lv_room (lbz rfl)) eX9_undo_0.2.2.2.2.2.2.2.2.2.2.1 ⟨Nat.zero_le _, Nat.zero_le _⟩) (fun u H locs hp hP hD hS => ?_)
    obtain ⟨no_apron_1, no_basket_2, no_ground_3, aW8, bAu, no_helper_6, no_today_7, no_clock_8, aPK, pa_free_10⟩ := u
    have hPD := PDm (ws' := (wd_X9_undo cI cC cZ cB cJ a_x xI xH xB vI wY xX yA xY uD wF uT wD no_apron_1 no_basket_2 no_ground_3 aW8 bAu no_helper_6 no_today_7 no_clock_8 aPK pa_free_10 tD)) hP hD 4 rfl rfl rfl
    have hP := hPD.1
    have hD := hPD.2
    refine lv_aload_n hx hb eX9_undo_0.2.2.2.2.2.2.2.2.2.2.2.1 rfl (lv_at hl 0 rfl) ?_
    refine va_get (D := (dC, dI)) (ci := 9) (v := .ref xX) (C := RX9) (T := TX9) (N := 9) hx hb hts aC3 hown hK hP 0 rfl rfl 5 (lbz rfl) (hts _ q_91) (fun _ h9 => h9) rfl eX9_undo_0.2.2.2.2.2.2.2.2.2.2.2.2.1 ?_
    refine va_get (D := (dC, dI)) (ci := 4) (v := .int aPK) (C := RX4) (T := TX4) (N := 5) hx hb hts i_X4 hown hK hP 2 rfl rfl 3 (lbz rfl) (hts _ q_406) (fun _ h9 => h9) rfl eX9_undo_0.2.2.2.2.2.2.2.2.2.2.2.2.2.1 ?_
    exact W.iret (v := aPK) hx hb hr (fun t ht hW => ⟨⟨aPK, (no_apron_1, no_basket_2, no_ground_3, aW8, bAu, no_helper_6, no_today_7, no_clock_8, aPK, pa_free_10), rfl, hp, by rw [ht]; exact hP, va_K.moved hW.alike hK, hD⟩, hS.F ht⟩) hS.2.2 eX9_undo_0.2.2.2.2.2.2.2.2.2.2.2.2.2.2
  · have hp := hp.2 hc
    refine lv_iconst (v := (-1)) hx hb eX9_undo_0.2.2.2.2.1 aEJ ?_
    exact W.iret (v := (-1)) hx hb hr (fun t ht hW => ⟨⟨(-1), (jE, eW, eY, dU, fY, gJ, jG, nU, pR, uM), rfl, hp, by rw [ht]; exact hP, va_K.moved hW.alike hK, hD⟩, hS.F ht⟩) hS.2.2 eX9_undo_0.2.2.2.2.2.1
abbrev aYF (cI cC cZ cB cJ : ClassId) (a_x xI xH xB vI wY xX yA xY uD tJ jJ mY pG pD pE eO rG : Nat) (dN bD bJ aI : Int32) (uU gF mX oE dY : Nat -> Int32) (qB : Int32) (jK : Nat -> Int32) : va_W := [(a_x, .inr (9, [.ref xI, .ref xH, .ref xB, .ref vI, .ref wY, .ref xX, .ref yA, .ref xY, .ref uD])), (vI, .inr (3, [.ref tJ, .ref jJ, .ref mY, .ref pG, .ref pD, .ref pE, .ref eO, .int dN, .int bD, .int bJ, .int aI])), (tJ, .inl (cI, 16, .inl uU)), (jJ, .inl (cI, 16, .inl gF)), (pD, .inl (cI, 8, .inl mX)), (pE, .inl (cI, 8, .inl oE)), (eO, .inl (cI, 5, .inl dY)), (yA, .inr (6, [.ref rG, .int qB])), (rG, .inl (cI, 16, .inl jK))]
abbrev q_X9_reached (dC : Nat -> ClassId) (dI : Nat -> Nat -> Nat) (cI cC cZ cB cJ : ClassId) (A : Nat -> Prop) (a_x xI xH xB vI wY xX yA xY uD tJ jJ mY pG pD pE eO rG : Nat) (dN bD bJ aI : Int32) (uU gF mX oE dY : Nat -> Int32) (post : Int32 -> Int32 -> (Nat -> Int32) -> Prop) : Array Value -> State -> Outcome -> State -> Prop := va_Qi (fun (r : Int32) (u : Int32 × (Nat -> Int32)) => post r u.1 u.2) (fun u t => gB (dC, dI) (tyl cI cC cZ cB cJ) A (aYF cI cC cZ cB cJ a_x xI xH xB vI wY xX yA xY uD tJ jJ mY pG pD pE eO rG dN bD bJ aI uU gF mX oE dY u.1 u.2) t) A
abbrev rm_X9_reached : Room := { frames := 3, cells := 0, slots := 0, locals := 71 }
def wp_X9_reached (post : Int32 -> Int32 -> (Nat -> Int32) -> Prop) (p0 dN bD : Int32) (uU gF mX oE dY : Nat -> Int32) (qB : Int32) (jK : Nat -> Int32) : Prop := aK6 (fun r_1 => (¬ r_1 = 0 -> bAw (fun r_2 => bBS (fun r_3 => bAw (fun r_4 => bBS (fun r_5 => aPf (fun aKD aF9 => bAw (fun r_8 => bBS (fun r_9 => post r_9 aKD aF9) p0 r_8 dN uU gF mX oE) 0 0 dY) r_3 r_5 qB jK) p0 r_4 dN uU gF mX oE) 1 1 dY) p0 r_2 dN uU gF mX oE) 1 0 dY) /\ (r_1 = 0 -> post (-1) qB jK)) p0 bD
set_option maxHeartbeats 4000000 in
set_option maxRecDepth 100000 in
theorem c_X9_reached (l : Launch) (dC : Nat -> ClassId) (dI : Nat -> Nat -> Nat) (cI cC cZ cB cJ : ClassId) (a_x xI xH xB vI wY xX yA xY uD tJ jJ mY pG pD pE eO rG sz : Nat) (p0 dN bD bJ aI : Int32) (uU gF mX oE dY : Nat -> Int32) (qB : Int32) (jK : Nat -> Int32) (post : Int32 -> Int32 -> (Nat -> Int32) -> Prop) (hw : wp_X9_reached post p0 dN bD uU gF mX oE dY qB jK) : Met l yX9_reached (gw yX9_reached aGZ 2 (some .int)) rm_X9_reached (va_Pc [.ref a_x, .int p0] (gPre (dC, dI) (tyl cI cC cZ cB cJ) (aYF cI cC cZ cB cJ a_x xI xH xB vI wY xX yA xY uD tJ jJ mY pG pD pE eO rG dN bD bJ aI uU gF mX oE dY qB jK) sz)) (q_X9_reached dC dI cI cC cZ cB cJ (va_A (aYF cI cC cZ cB cJ a_x xI xH xB vI wY xX yA xY uD tJ jJ mY pG pD pE eO rG dN bD bJ aI uU gF mX oE dY qB jK) sz) a_x xI xH xB vI wY xX yA xY uD tJ jJ mY pG pD pE eO rG dN bD bJ aI uU gF mX oE dY post) 0 0 (va_A (aYF cI cC cZ cB cJ a_x xI xH xB vI wY xX yA xY uD tJ jJ mY pG pD pE eO rG dN bD bJ aI uU gF mX oE dY qB jK) sz) := by
  refine aBJ (own := RX9) (dC, dI) (tyl cI cC cZ cB cJ) (aYF cI cC cZ cB cJ a_x xI xH xB vI wY xX yA xY uD tJ jJ mY pG pD pE eO rG dN bD bJ aI uU gF mX oE dY qB jK) sz [.ref a_x, .int p0] (fun A => q_X9_reached dC dI cI cC cZ cB cJ A a_x xI xH xB vI wY xX yA xY uD tJ jJ mY pG pD pE eO rG dN bD bJ aI uU gF mX oE dY post) pn_RX9 rfl (lbz rfl) ?_
  intro p e s m args below meth c A H locs ls C0 hP hD hS hl
  have hl : lv_has ls 2 [(0, .ref a_x), (1, .int p0)] := hl
  obtain ⟨hx, hb, hr, hml, hown, hts, hlocks, hA, hK, hN, tL, tM, hZL, hTL, hZM, hTM, hZX⟩ := id C0
  have hp := hw
  unfold wp_X9_reached at hp
  refine lv_aload_n hx hb aT4.1 rfl (lv_at hl 0 rfl) ?_
  refine va_get (D := (dC, dI)) (ci := 9) (v := .ref vI) (C := RX9) (T := TX9) (N := 9) hx hb hts aC3 hown hK hP 0 rfl rfl 3 (lbz rfl) (hts _ q_74) (fun _ h9 => h9) rfl aT4.2.1 ?_
  refine lv_iload_n hx hb aT4.2.2.1 rfl (lv_at hl 1 rfl) ?_
  have hm := mgk (wc := (aLv cI cC cZ cB cJ vI tJ jJ mY pG pD pE eO dN bD bJ aI)) hP mk_95 9 rfl rfl rfl
  refine yW hP hD hS hA (yS mk_95) (aAi mk_95) hm.1 hm.2 (aAk _) (zW _) (zF (As := [.int p0]) (rest := []) C0 hP hD hS (yS mk_95) hm.1 (aAl _) 1 3 rfl rfl (aZS l dC dI cI cC cZ cB cJ vI tJ jJ mY pG pD pE eO H.size p0 dN bD bJ aI _ hp) q_195 q_198 q_196 q_197 q_48 aZZ rfl rfl ⟨lbz rfl, lbz rfl⟩ rfl rfl hl.1 rfl (lv_room (lbz rfl)) aT4.2.2.2.1 ⟨Nat.zero_le _, Nat.zero_le _⟩) (fun r_1 u H locs hp hP hD hS => ?_)
  have hPD := PDm (ws' := (aYF cI cC cZ cB cJ a_x xI xH xB vI wY xX yA xY uD tJ jJ mY pG pD pE eO rG dN bD bJ aI uU gF mX oE dY qB jK)) hP hD 9 rfl rfl rfl
  have hP := hPD.1
  have hD := hPD.2
  refine lv_if_ne (tgt := 13) hx hb aT4.2.2.2.2.1 (by decide) (fun hc => ?_) (fun hc => ?_)
  · have hp := hp.1 hc
    refine lv_aload_n hx hb aT4.2.2.2.2.2.2.2.1 rfl (lv_at hl 0 rfl) ?_
    refine lv_aload_n hx hb aT4.2.2.2.2.2.2.2.2.1 rfl (lv_at hl 0 rfl) ?_
    refine va_get (D := (dC, dI)) (ci := 9) (v := .ref vI) (C := RX9) (T := TX9) (N := 9) hx hb hts aC3 hown hK hP 0 rfl rfl 3 (lbz rfl) (hts _ q_74) (fun _ h9 => h9) rfl aT4.2.2.2.2.2.2.2.2.2.1 ?_
    refine lv_iload_n hx hb aT4.2.2.2.2.2.2.2.2.2.2.1 rfl (lv_at hl 1 rfl) ?_
    refine lv_aload_n hx hb aT4.2.2.2.2.2.2.2.2.2.2.2.1 rfl (lv_at hl 0 rfl) ?_
    refine va_get (D := (dC, dI)) (ci := 9) (v := .ref vI) (C := RX9) (T := TX9) (N := 9) hx hb hts aC3 hown hK hP 0 rfl rfl 3 (lbz rfl) (hts _ q_74) (fun _ h9 => h9) rfl aT4.2.2.2.2.2.2.2.2.2.2.2.2.1 ?_
    refine lv_iconst (v := 1) hx hb aT4.2.2.2.2.2.2.2.2.2.2.2.2.2.1 aDx ?_
    refine lv_iconst (v := 0) hx hb aT4.2.2.2.2.2.2.2.2.2.2.2.2.2.2.1 aCi ?_
    have hm := mgk (wc := (wd_X3_reach cI cC cZ cB cJ vI tJ jJ mY pG pD pE eO dN bD bJ aI dY)) hP mk_96 9 rfl rfl rfl
    refine yW hP hD hS hA (yS mk_96) (aAi mk_96) hm.1 hm.2 (aAk _) (zW _) (zF (As := [.int 1, .int 0]) (rest := [.int p0, .ref vI, .ref a_x]) C0 hP hD hS (yS mk_96) hm.1 (aAl _) 1 3 rfl rfl (c_X3_reach l dC dI cI cC cZ cB cJ vI tJ jJ mY pG pD pE eO H.size 1 0 dN bD bJ aI dY _ hp) q_312 q_411 q_313 q_314 q_48 h_X3_reach rfl rfl ⟨lbz rfl, lbz rfl⟩ rfl rfl hl.1 rfl (lv_room (lbz rfl)) aT4.2.2.2.2.2.2.2.2.2.2.2.2.2.2.2 ⟨Nat.zero_le _, Nat.zero_le _⟩) (fun r_2 u H locs hp hP hD hS => ?_)
    have hPD := PDm (ws' := (aYF cI cC cZ cB cJ a_x xI xH xB vI wY xX yA xY uD tJ jJ mY pG pD pE eO rG dN bD bJ aI uU gF mX oE dY qB jK)) hP hD 9 rfl rfl rfl
    have hP := hPD.1
    have hD := hPD.2
    have hm := mgk (wc := (aLx cI cC cZ cB cJ vI tJ jJ mY pG pD pE eO dN bD bJ aI uU gF mX oE)) hP mk_97 9 rfl rfl rfl
    refine yW hP hD hS hA (yS mk_97) (aAi mk_97) hm.1 hm.2 (aAk _) (zW _) (zF (As := [.int p0, .int r_2]) (rest := [.ref a_x]) C0 hP hD hS (yS mk_97) hm.1 (aAl _) 1 3 rfl rfl (c_X3_within l dC dI cI cC cZ cB cJ vI tJ jJ mY pG pD pE eO H.size p0 r_2 dN bD bJ aI uU gF mX oE _ hp) q_339 q_412 q_340 q_341 q_48 h_X3_within rfl rfl ⟨lbz rfl, lbz rfl⟩ rfl rfl hl.1 rfl (lv_room (lbz rfl)) aQw.1 ⟨Nat.zero_le _, Nat.zero_le _⟩) (fun r_3 u H locs hp hP hD hS => ?_)
    have hPD := PDm (ws' := (aYF cI cC cZ cB cJ a_x xI xH xB vI wY xX yA xY uD tJ jJ mY pG pD pE eO rG dN bD bJ aI uU gF mX oE dY qB jK)) hP hD 9 rfl rfl rfl
    have hP := hPD.1
    have hD := hPD.2
    refine lv_aload_n hx hb aQw.2.1 rfl (lv_at hl 0 rfl) ?_
    refine va_get (D := (dC, dI)) (ci := 9) (v := .ref vI) (C := RX9) (T := TX9) (N := 9) hx hb hts aC3 hown hK hP 0 rfl rfl 3 (lbz rfl) (hts _ q_74) (fun _ h9 => h9) rfl aQw.2.2.1 ?_
    refine lv_iload_n hx hb aQw.2.2.2.1 rfl (lv_at hl 1 rfl) ?_
    refine lv_aload_n hx hb aQw.2.2.2.2.1 rfl (lv_at hl 0 rfl) ?_
    refine va_get (D := (dC, dI)) (ci := 9) (v := .ref vI) (C := RX9) (T := TX9) (N := 9) hx hb hts aC3 hown hK hP 0 rfl rfl 3 (lbz rfl) (hts _ q_74) (fun _ h9 => h9) rfl aQw.2.2.2.2.2.1 ?_
    refine lv_iconst (v := 1) hx hb aQw.2.2.2.2.2.2.1 aDx ?_
    refine lv_iconst (v := 1) hx hb aQw.2.2.2.2.2.2.2.1 aDx ?_
    have hm := mgk (wc := (wd_X3_reach cI cC cZ cB cJ vI tJ jJ mY pG pD pE eO dN bD bJ aI dY)) hP mk_96 9 rfl rfl rfl
    refine yW hP hD hS hA (yS mk_96) (aAi mk_96) hm.1 hm.2 (aAk _) (zW _) (zF (As := [.int 1, .int 1]) (rest := [.int p0, .ref vI, .int r_3, .ref a_x]) C0 hP hD hS (yS mk_96) hm.1 (aAl _) 1 3 rfl rfl (c_X3_reach l dC dI cI cC cZ cB cJ vI tJ jJ mY pG pD pE eO H.size 1 1 dN bD bJ aI dY _ hp) q_312 q_411 q_313 q_314 q_48 h_X3_reach rfl rfl ⟨lbz rfl, lbz rfl⟩ rfl rfl hl.1 rfl (lv_room (lbz rfl)) aQw.2.2.2.2.2.2.2.2.1 ⟨Nat.zero_le _, Nat.zero_le _⟩) (fun r_4 u H locs hp hP hD hS => ?_)
    have hPD := PDm (ws' := (aYF cI cC cZ cB cJ a_x xI xH xB vI wY xX yA xY uD tJ jJ mY pG pD pE eO rG dN bD bJ aI uU gF mX oE dY qB jK)) hP hD 9 rfl rfl rfl
    have hP := hPD.1
    have hD := hPD.2
    have hm := mgk (wc := (aLx cI cC cZ cB cJ vI tJ jJ mY pG pD pE eO dN bD bJ aI uU gF mX oE)) hP mk_97 9 rfl rfl rfl
    refine yW hP hD hS hA (yS mk_97) (aAi mk_97) hm.1 hm.2 (aAk _) (zW _) (zF (As := [.int p0, .int r_4]) (rest := [.int r_3, .ref a_x]) C0 hP hD hS (yS mk_97) hm.1 (aAl _) 1 3 rfl rfl (c_X3_within l dC dI cI cC cZ cB cJ vI tJ jJ mY pG pD pE eO H.size p0 r_4 dN bD bJ aI uU gF mX oE _ hp) q_339 q_412 q_340 q_341 q_48 h_X3_within rfl rfl ⟨lbz rfl, lbz rfl⟩ rfl rfl hl.1 rfl (lv_room (lbz rfl)) aQw.2.2.2.2.2.2.2.2.2.1 ⟨Nat.zero_le _, Nat.zero_le _⟩) (fun r_5 u H locs hp hP hD hS => ?_)
    have hPD := PDm (ws' := (aYF cI cC cZ cB cJ a_x xI xH xB vI wY xX yA xY uD tJ jJ mY pG pD pE eO rG dN bD bJ aI uU gF mX oE dY qB jK)) hP hD 9 rfl rfl rfl
    have hP := hPD.1
    have hD := hPD.2
    have hm := mgk (wc := (aRW cI cC cZ cB cJ a_x xI xH xB vI wY xX yA xY uD rG qB jK)) hP mk_98 9 rfl rfl rfl
    refine aBn hP hD hS hA (yS mk_98) (aAi mk_98) hm.1 hm.2 (aAk _) (zW _) (zF (As := [.int r_3, .int r_5]) (rest := []) C0 hP hD hS (yS mk_98) hm.1 (aAl _) 0 9 rfl rfl (c_X9_tell_ l dC dI cI cC cZ cB cJ a_x xI xH xB vI wY xX yA xY uD rG H.size r_3 r_5 qB jK _ hp) q_377 q_380 q_378 q_379 aIl h_X9_tell_ rfl rfl ⟨lbz rfl, lbz rfl⟩ rfl rfl hl.1 rfl (lv_room (lbz rfl)) aQw.2.2.2.2.2.2.2.2.2.2.1 ⟨Nat.zero_le _, Nat.zero_le _⟩) (fun u H locs hp hP hD hS => ?_)
    obtain ⟨aKD, aF9⟩ := u
    have hPD := PDm (ws' := (aYF cI cC cZ cB cJ a_x xI xH xB vI wY xX yA xY uD tJ jJ mY pG pD pE eO rG dN bD bJ aI uU gF mX oE dY aKD aF9)) hP hD 9 rfl rfl rfl
    have hP := hPD.1
    have hD := hPD.2
    refine lv_aload_n hx hb aQw.2.2.2.2.2.2.2.2.2.2.2.1 rfl (lv_at hl 0 rfl) ?_
    refine va_get (D := (dC, dI)) (ci := 9) (v := .ref vI) (C := RX9) (T := TX9) (N := 9) hx hb hts aC3 hown hK hP 0 rfl rfl 3 (lbz rfl) (hts _ q_74) (fun _ h9 => h9) rfl aQw.2.2.2.2.2.2.2.2.2.2.2.2.1 ?_
    refine lv_iload_n hx hb aQw.2.2.2.2.2.2.2.2.2.2.2.2.2.1 rfl (lv_at hl 1 rfl) ?_
    refine lv_aload_n hx hb aQw.2.2.2.2.2.2.2.2.2.2.2.2.2.2.1 rfl (lv_at hl 0 rfl) ?_
    refine va_get (D := (dC, dI)) (ci := 9) (v := .ref vI) (C := RX9) (T := TX9) (N := 9) hx hb hts aC3 hown hK hP 0 rfl rfl 3 (lbz rfl) (hts _ q_74) (fun _ h9 => h9) rfl aQw.2.2.2.2.2.2.2.2.2.2.2.2.2.2.2 ?_
    refine lv_iconst (v := 0) hx hb eX9_reached_60.1 aCi ?_
    refine lv_iconst (v := 0) hx hb eX9_reached_60.2.1 aCi ?_
    have hm := mgk (wc := (wd_X3_reach cI cC cZ cB cJ vI tJ jJ mY pG pD pE eO dN bD bJ aI dY)) hP mk_96 9 rfl rfl rfl
    refine yW hP hD hS hA (yS mk_96) (aAi mk_96) hm.1 hm.2 (aAk _) (zW _) (zF (As := [.int 0, .int 0]) (rest := [.int p0, .ref vI]) C0 hP hD hS (yS mk_96) hm.1 (aAl _) 1 3 rfl rfl (c_X3_reach l dC dI cI cC cZ cB cJ vI tJ jJ mY pG pD pE eO H.size 0 0 dN bD bJ aI dY _ hp) q_312 q_411 q_313 q_314 q_48 h_X3_reach rfl rfl ⟨lbz rfl, lbz rfl⟩ rfl rfl hl.1 rfl (lv_room (lbz rfl)) eX9_reached_60.2.2.1 ⟨Nat.zero_le _, Nat.zero_le _⟩) (fun r_8 u H locs hp hP hD hS => ?_)
    have hPD := PDm (ws' := (aYF cI cC cZ cB cJ a_x xI xH xB vI wY xX yA xY uD tJ jJ mY pG pD pE eO rG dN bD bJ aI uU gF mX oE dY aKD aF9)) hP hD 9 rfl rfl rfl
    have hP := hPD.1
    have hD := hPD.2
    have hm := mgk (wc := (aLx cI cC cZ cB cJ vI tJ jJ mY pG pD pE eO dN bD bJ aI uU gF mX oE)) hP mk_97 9 rfl rfl rfl
    refine yW hP hD hS hA (yS mk_97) (aAi mk_97) hm.1 hm.2 (aAk _) (zW _) (zF (As := [.int p0, .int r_8]) (rest := []) C0 hP hD hS (yS mk_97) hm.1 (aAl _) 1 3 rfl rfl (c_X3_within l dC dI cI cC cZ cB cJ vI tJ jJ mY pG pD pE eO H.size p0 r_8 dN bD bJ aI uU gF mX oE _ hp) q_339 q_412 q_340 q_341 q_48 h_X3_within rfl rfl ⟨lbz rfl, lbz rfl⟩ rfl rfl hl.1 rfl (lv_room (lbz rfl)) eX9_reached_60.2.2.2.1 ⟨Nat.zero_le _, Nat.zero_le _⟩) (fun r_9 u H locs hp hP hD hS => ?_)
    have hPD := PDm (ws' := (aYF cI cC cZ cB cJ a_x xI xH xB vI wY xX yA xY uD tJ jJ mY pG pD pE eO rG dN bD bJ aI uU gF mX oE dY aKD aF9)) hP hD 9 rfl rfl rfl
    have hP := hPD.1
    have hD := hPD.2
    exact W.iret (v := r_9) hx hb hr (fun t ht hW => ⟨⟨r_9, (aKD, aF9), rfl, hp, by rw [ht]; exact hP, va_K.moved hW.alike hK, hD⟩, hS.F ht⟩) hS.2.2 eX9_reached_60.2.2.2.2
  · have hp := hp.2 hc
    refine lv_iconst (v := (-1)) hx hb aT4.2.2.2.2.2.1 aEJ ?_
    exact W.iret (v := (-1)) hx hb hr (fun t ht hW => ⟨⟨(-1), (qB, jK), rfl, hp, by rw [ht]; exact hP, va_K.moved hW.alike hK, hD⟩, hS.F ht⟩) hS.2.2 aT4.2.2.2.2.2.2.1
abbrev aXl (cI cC cZ cB cJ : ClassId) (a_x xI xH xB vI wY xX yA xY uD tJ jJ mY pG pD pE eO : Nat) (dN bD bJ aI : Int32) (uU gF mX oE dY : Nat -> Int32) (jE eW eY dU fY gJ jG nU : Int32) : va_W := [(a_x, .inr (9, [.ref xI, .ref xH, .ref xB, .ref vI, .ref wY, .ref xX, .ref yA, .ref xY, .ref uD])), (vI, .inr (3, [.ref tJ, .ref jJ, .ref mY, .ref pG, .ref pD, .ref pE, .ref eO, .int dN, .int bD, .int bJ, .int aI])), (tJ, .inl (cI, 16, .inl uU)), (jJ, .inl (cI, 16, .inl gF)), (pD, .inl (cI, 8, .inl mX)), (pE, .inl (cI, 8, .inl oE)), (eO, .inl (cI, 5, .inl dY)), (wY, .inr (2, [.int jE, .int eW, .int eY, .int dU, .int fY, .int gJ, .int jG, .int nU]))]
abbrev q_X9_from (dC : Nat -> ClassId) (dI : Nat -> Nat -> Nat) (cI cC cZ cB cJ : ClassId) (A : Nat -> Prop) (a_x xI xH xB vI wY xX yA xY uD tJ jJ mY pG pD pE eO : Nat) (dN bD bJ aI : Int32) (uU gF mX oE dY : Nat -> Int32) (jE eW eY dU fY gJ jG nU : Int32) (post : Int32 -> Prop) : Array Value -> State -> Outcome -> State -> Prop := va_Qi (fun (r : Int32) (u : Unit) => post r) (fun u t => gB (dC, dI) (tyl cI cC cZ cB cJ) A (aXl cI cC cZ cB cJ a_x xI xH xB vI wY xX yA xY uD tJ jJ mY pG pD pE eO dN bD bJ aI uU gF mX oE dY jE eW eY dU fY gJ jG nU) t) A
abbrev rm_X9_from : Room := { frames := 2, cells := 0, slots := 0, locals := 47 }
section S_X9_from
variable {p : Program} {l : Launch} {e : Env} {s : State} {m : MethodId} {args : Array Value} {below : List Frame} {meth : Method} {c : Code} {dC : Nat -> ClassId} {dI : Nat -> Nat -> Nat} {cI cC cZ cB cJ : ClassId} {A : Nat -> Prop} {a_x xI xH xB vI wY xX yA xY uD tJ jJ mY pG pD pE eO : Nat} {dN bD bJ aI : Int32} {uU gF mX oE dY : Nat -> Int32} {jE eW eY dU fY gJ jG nU : Int32} {post : Int32 -> Prop}
def ws_X9_from_77 (post : Int32 -> Prop) (K42 : Int32 -> Int32 -> Int32 -> Int32 -> Prop) (dN bD : Int32) (uU gF mX oE dY : Nat -> Int32) (gJ x1 x3 x4 x5 : Int32) : Prop := ∀ v_5 : Int32, v_5 = x5 + 1 -> K42 x1 x3 x4 v_5
set_option maxHeartbeats 4000000 in
set_option maxRecDepth 100000 in
theorem ks_X9_from_77 (C0 : gc aIX (some .int) 6 RX9 (dC, dI) (tyl cI cC cZ cB cJ) A p s m args meth c) {K42 : Int32 -> Int32 -> Int32 -> Int32 -> Prop} (hK42 : ∀ (x1 : Int32) (x3 : Int32) (x4 : Int32) (x5 : Int32) (H : Heap) (locs : List Loc) (ls : Array Slot), K42 x1 x3 x4 x5 -> va_P (dC, dI) classes (aXl cI cC cZ cB cJ a_x xI xH xB vI wY xX yA xY uD tJ jJ mY pG pD pE eO dN bD bJ aI uU gF mX oE dY jE eW eY dU fY gJ jG nU) H -> va_D A (aXl cI cC cZ cB cJ a_x xI xH xB vI wY xX yA xY uD tJ jJ mY pG pD pE eO dN bD bJ aI uU gF mX oE dY jE eW eY dU fY gJ jG nU) -> va_S A s.heap H locs -> lv_has ls 6 [(0, .ref a_x), (1, .int x1), (3, .int x3), (4, .int x4), (5, .int x5)] -> W p l e rm_X9_from s m args below meth c H locs 0 0 (MQ below (q_X9_from dC dI cI cC cZ cB cJ A a_x xI xH xB vI wY xX yA xY uD tJ jJ mY pG pD pE eO dN bD bJ aI uU gF mX oE dY jE eW eY dU fY gJ jG nU post) args s 0 0 A) (F0 m 42 ls [])) : ∀ (x1 x3 x4 x5 : Int32) (H : Heap) (locs : List Loc) (ls : Array Slot), (ws_X9_from_77 post K42 dN bD uU gF mX oE dY gJ) x1 x3 x4 x5 -> va_P (dC, dI) classes (aXl cI cC cZ cB cJ a_x xI xH xB vI wY xX yA xY uD tJ jJ mY pG pD pE eO dN bD bJ aI uU gF mX oE dY jE eW eY dU fY gJ jG nU) H -> va_D A (aXl cI cC cZ cB cJ a_x xI xH xB vI wY xX yA xY uD tJ jJ mY pG pD pE eO dN bD bJ aI uU gF mX oE dY jE eW eY dU fY gJ jG nU) -> va_S A s.heap H locs -> lv_has ls 6 [(0, .ref a_x), (1, .int x1), (3, .int x3), (4, .int x4), (5, .int x5)] -> W p l e rm_X9_from s m args below meth c H locs 0 0 (MQ below (q_X9_from dC dI cI cC cZ cB cJ A a_x xI xH xB vI wY xX yA xY uD tJ jJ mY pG pD pE eO dN bD bJ aI uU gF mX oE dY jE eW eY dU fY gJ jG nU post) args s 0 0 A) (F0 m 77 ls []) := by
  obtain ⟨hx, hb, hr, hml, hown, hts, hlocks, hA, hK, hN, tL, tM, hZL, hTL, hZM, hTM, hZX⟩ := id C0
  intro x1 x3 x4 x5 H locs ls hp hP hD hS hl
  unfold ws_X9_from_77 at hp
  obtain ⟨v_5, aJD⟩ : ∃ y : Int32, y = x5 + 1 := ⟨_, rfl⟩
  refine lv_iinc (v := v_5) (lv' := [(5, .int v_5), (0, .ref a_x), (1, .int x1), (3, .int x3), (4, .int x4)]) hx hb eX9_from_62.2.2.2.2.2.2.2.2.1 hl (k := 4) rfl (by rw [aJD]; rfl) (by decide) rfl (fun ls hl => ?_)
  have hp := hp v_5 aJD
  refine lv_goto (tgt := 42) hx hb eX9_from_62.2.2.2.2.2.2.2.2.2.1 (by decide) ?_
  exact hK42 x1 x3 x4 v_5 H locs ls hp hP hD hS (lv_sub hl [1, 2, 3, 4, 0] rfl)
def ws_X9_from_42 (post : Int32 -> Prop) (next : Int32 -> Int32 -> Int32 -> Int32 -> Prop) (dN bD : Int32) (uU gF mX oE dY : Nat -> Int32) (gJ x1 x3 x4 x5 : Int32) : Prop := (bD <= x5 -> post x4) /\ (¬ bD <= x5 -> bBv (fun r_4 => (r_4 = 0 -> ws_X9_from_77 post next dN bD uU gF mX oE dY gJ x1 x3 x4 x5) /\ (¬ r_4 = 0 -> ∀ v_6 : Int32, v_6 = x4 ||| (1 <<< (x5 &&& 31)) -> ws_X9_from_77 post next dN bD uU gF mX oE dY gJ x1 x3 v_6 x5)) x1 x5 x3 uU gF mX oE)
noncomputable def wb_X9_from_42 (post : Int32 -> Prop) (dN bD : Int32) (uU gF mX oE dY : Nat -> Int32) (gJ : Int32) : Nat -> Int32 -> Int32 -> Int32 -> Int32 -> Prop := fun n => Nat.rec (motive := fun _ => Int32 -> Int32 -> Int32 -> Int32 -> Prop) (fun _ _ _ _ => False) (fun _ ih => ws_X9_from_42 post ih dN bD uU gF mX oE dY gJ) n
set_option maxHeartbeats 4000000 in
set_option maxRecDepth 100000 in
theorem ks_X9_from_42 (C0 : gc aIX (some .int) 6 RX9 (dC, dI) (tyl cI cC cZ cB cJ) A p s m args meth c) {next : Int32 -> Int32 -> Int32 -> Int32 -> Prop} (hKn : ∀ (x1 : Int32) (x3 : Int32) (x4 : Int32) (x5 : Int32) (H : Heap) (locs : List Loc) (ls : Array Slot), next x1 x3 x4 x5 -> va_P (dC, dI) classes (aXl cI cC cZ cB cJ a_x xI xH xB vI wY xX yA xY uD tJ jJ mY pG pD pE eO dN bD bJ aI uU gF mX oE dY jE eW eY dU fY gJ jG nU) H -> va_D A (aXl cI cC cZ cB cJ a_x xI xH xB vI wY xX yA xY uD tJ jJ mY pG pD pE eO dN bD bJ aI uU gF mX oE dY jE eW eY dU fY gJ jG nU) -> va_S A s.heap H locs -> lv_has ls 6 [(0, .ref a_x), (1, .int x1), (3, .int x3), (4, .int x4), (5, .int x5)] -> W p l e rm_X9_from s m args below meth c H locs 0 0 (MQ below (q_X9_from dC dI cI cC cZ cB cJ A a_x xI xH xB vI wY xX yA xY uD tJ jJ mY pG pD pE eO dN bD bJ aI uU gF mX oE dY jE eW eY dU fY gJ jG nU post) args s 0 0 A) (F0 m 42 ls [])) : ∀ (x1 x3 x4 x5 : Int32) (H : Heap) (locs : List Loc) (ls : Array Slot), (ws_X9_from_42 post next dN bD uU gF mX oE dY gJ) x1 x3 x4 x5 -> va_P (dC, dI) classes (aXl cI cC cZ cB cJ a_x xI xH xB vI wY xX yA xY uD tJ jJ mY pG pD pE eO dN bD bJ aI uU gF mX oE dY jE eW eY dU fY gJ jG nU) H -> va_D A (aXl cI cC cZ cB cJ a_x xI xH xB vI wY xX yA xY uD tJ jJ mY pG pD pE eO dN bD bJ aI uU gF mX oE dY jE eW eY dU fY gJ jG nU) -> va_S A s.heap H locs -> lv_has ls 6 [(0, .ref a_x), (1, .int x1), (3, .int x3), (4, .int x4), (5, .int x5)] -> W p l e rm_X9_from s m args below meth c H locs 0 0 (MQ below (q_X9_from dC dI cI cC cZ cB cJ A a_x xI xH xB vI wY xX yA xY uD tJ jJ mY pG pD pE eO dN bD bJ aI uU gF mX oE dY jE eW eY dU fY gJ jG nU post) args s 0 0 A) (F0 m 42 ls []) := by
  obtain ⟨hx, hb, hr, hml, hown, hts, hlocks, hA, hK, hN, tL, tM, hZL, hTL, hZM, hTM, hZX⟩ := id C0
  intro x1 x3 x4 x5 H locs ls hp hP hD hS hl
  unfold ws_X9_from_42 at hp
  refine lv_iload hx hb bAe.2.2.2.2.2.2.1 (lv_at hl 4 rfl) ?_
  refine lv_aload_n hx hb bAe.2.2.2.2.2.2.2.1 rfl (lv_at hl 0 rfl) ?_
  refine va_get (D := (dC, dI)) (ci := 9) (v := .ref vI) (C := RX9) (T := TX9) (N := 9) hx hb hts aC3 hown hK hP 0 rfl rfl 3 (lbz rfl) (hts _ q_74) (fun _ h9 => h9) rfl bAe.2.2.2.2.2.2.2.2.1 ?_
  refine va_get (D := (dC, dI)) (ci := 3) (v := .int bD) (C := RX3) (T := TX3) (N := 11) hx hb hts i_X3 hown hK hP 1 rfl rfl 8 (lbz rfl) (hts _ q_415) (fun _ h9 => h9) rfl bAe.2.2.2.2.2.2.2.2.2.1 ?_
  refine lv_icmp_ge (tgt := 83) hx hb bAe.2.2.2.2.2.2.2.2.2.2.1 (by decide) (fun hc => ?_) (fun hc => ?_)
  · have hp := hp.1 hc
    refine lv_iload hx hb eX9_from_62.2.2.2.2.2.2.2.2.2.2.1 (lv_at hl 3 rfl) ?_
    exact W.iret (v := x4) hx hb hr (fun t ht hW => ⟨⟨x4, (), rfl, hp, by rw [ht]; exact hP, va_K.moved hW.alike hK, hD⟩, hS.F ht⟩) hS.2.2 eX9_from_62.2.2.2.2.2.2.2.2.2.2.2
  · have hp := hp.2 hc
    refine lv_aload_n hx hb bAe.2.2.2.2.2.2.2.2.2.2.2.1 rfl (lv_at hl 0 rfl) ?_
    refine va_get (D := (dC, dI)) (ci := 9) (v := .ref vI) (C := RX9) (T := TX9) (N := 9) hx hb hts aC3 hown hK hP 0 rfl rfl 3 (lbz rfl) (hts _ q_74) (fun _ h9 => h9) rfl bAe.2.2.2.2.2.2.2.2.2.2.2.2.1 ?_
    refine lv_iload_n hx hb bAe.2.2.2.2.2.2.2.2.2.2.2.2.2.1 rfl (lv_at hl 1 rfl) ?_
    refine lv_iload hx hb bAe.2.2.2.2.2.2.2.2.2.2.2.2.2.2.1 (lv_at hl 4 rfl) ?_
    refine lv_iload_n hx hb bAe.2.2.2.2.2.2.2.2.2.2.2.2.2.2.2 rfl (lv_at hl 2 rfl) ?_
    have hm := mgk (wc := (aY3 cI cC cZ cB cJ vI tJ jJ mY pG pD pE eO dN bD bJ aI uU gF mX oE)) hP mk_99 8 rfl rfl rfl
    refine yW hP hD hS hA (yS mk_99) (aAi mk_99) hm.1 hm.2 (aAk _) (zW _) (zF (As := [.int x1, .int x5, .int x3]) (rest := []) C0 hP hD hS (yS mk_99) hm.1 (aAl _) 1 3 rfl rfl (c_X3_isWithin l dC dI cI cC cZ cB cJ vI tJ jJ mY pG pD pE eO H.size x1 x5 x3 dN bD bJ aI uU gF mX oE _ hp) q_316 q_416 q_317 q_318 q_48 h_X3_isWithin rfl rfl ⟨lbz rfl, lbz rfl⟩ rfl rfl hl.1 rfl (lv_room (lbz rfl)) eX9_from_62.1 ⟨Nat.zero_le _, Nat.zero_le _⟩) (fun r_4 u H locs hp hP hD hS => ?_)
    have hPD := PDm (ws' := (aXl cI cC cZ cB cJ a_x xI xH xB vI wY xX yA xY uD tJ jJ mY pG pD pE eO dN bD bJ aI uU gF mX oE dY jE eW eY dU fY gJ jG nU)) hP hD 8 rfl rfl rfl
    have hP := hPD.1
    have hD := hPD.2
    refine lv_if_eq (tgt := 77) hx hb eX9_from_62.2.1 (by decide) (fun hc => ?_) (fun hc => ?_)
    · have hp := hp.1 hc
      exact ks_X9_from_77 C0 hKn x1 x3 x4 x5 H locs ls hp hP hD hS (lv_sub hl [0, 1, 2, 3, 4] rfl)
    · have hp := hp.2 hc
      refine lv_iload hx hb eX9_from_62.2.2.1 (lv_at hl 3 rfl) ?_
      refine lv_iconst (v := 1) hx hb eX9_from_62.2.2.2.1 aDx ?_
      refine lv_iload hx hb eX9_from_62.2.2.2.2.1 (lv_at hl 4 rfl) ?_
      refine lv_ishl hx hb eX9_from_62.2.2.2.2.2.1 ?_
      refine lv_ior hx hb eX9_from_62.2.2.2.2.2.2.1 ?_
      refine lv_topi (fun v_6 ev_6 => ?_)
      have hp := hp v_6 ev_6
      refine lv_istore (lv' := [(4, .int v_6), (0, .ref a_x), (1, .int x1), (3, .int x3), (5, .int x5)]) hx hb eX9_from_62.2.2.2.2.2.2.2.1 hl (by decide) rfl (fun ls hl => ?_)
      exact ks_X9_from_77 C0 hKn x1 x3 v_6 x5 H locs ls hp hP hD hS (lv_sub hl [1, 2, 3, 0, 4] rfl)
set_option maxHeartbeats 4000000 in
set_option maxRecDepth 100000 in
theorem kb_X9_from_42 (C0 : gc aIX (some .int) 6 RX9 (dC, dI) (tyl cI cC cZ cB cJ) A p s m args meth c) : ∀ (n : Nat), ∀ (x1 x3 x4 x5 : Int32) (H : Heap) (locs : List Loc) (ls : Array Slot), (wb_X9_from_42 post dN bD uU gF mX oE dY gJ n) x1 x3 x4 x5 -> va_P (dC, dI) classes (aXl cI cC cZ cB cJ a_x xI xH xB vI wY xX yA xY uD tJ jJ mY pG pD pE eO dN bD bJ aI uU gF mX oE dY jE eW eY dU fY gJ jG nU) H -> va_D A (aXl cI cC cZ cB cJ a_x xI xH xB vI wY xX yA xY uD tJ jJ mY pG pD pE eO dN bD bJ aI uU gF mX oE dY jE eW eY dU fY gJ jG nU) -> va_S A s.heap H locs -> lv_has ls 6 [(0, .ref a_x), (1, .int x1), (3, .int x3), (4, .int x4), (5, .int x5)] -> W p l e rm_X9_from s m args below meth c H locs 0 0 (MQ below (q_X9_from dC dI cI cC cZ cB cJ A a_x xI xH xB vI wY xX yA xY uD tJ jJ mY pG pD pE eO dN bD bJ aI uU gF mX oE dY jE eW eY dU fY gJ jG nU post) args s 0 0 A) (F0 m 42 ls []) := by
  intro n
  induction n with
  | zero =>
    intro x1 x3 x4 x5 H locs ls hp
    exact False.elim hp
  | succ n ih =>
    intro x1 x3 x4 x5 H locs ls hp
    exact ks_X9_from_42 C0 ih x1 x3 x4 x5 H locs ls hp
end S_X9_from
def wp_X9_from (post : Int32 -> Prop) (p0 p1 dN bD : Int32) (uU gF mX oE dY : Nat -> Int32) (gJ : Int32) : Prop := aY8 (fun r_1 => (r_1 = 0 -> post (-1)) /\ (¬ r_1 = 0 -> aY9 (fun r_2 => (¬ r_2 = 0 -> bAw (fun r_3 => ∃ n : Nat, wb_X9_from_42 post dN bD uU gF mX oE dY gJ n p0 r_3 0 0) gJ p1 dY) /\ (r_2 = 0 -> post (-1))) p1)) p0 dN
set_option maxHeartbeats 4000000 in
set_option maxRecDepth 100000 in
theorem c_X9_from (l : Launch) (dC : Nat -> ClassId) (dI : Nat -> Nat -> Nat) (cI cC cZ cB cJ : ClassId) (a_x xI xH xB vI wY xX yA xY uD tJ jJ mY pG pD pE eO sz : Nat) (p0 p1 dN bD bJ aI : Int32) (uU gF mX oE dY : Nat -> Int32) (jE eW eY dU fY gJ jG nU : Int32) (post : Int32 -> Prop) (hw : wp_X9_from post p0 p1 dN bD uU gF mX oE dY gJ) : Met l yX9_from (gw yX9_from aIX 6 (some .int)) rm_X9_from (va_Pc [.ref a_x, .int p0, .int p1] (gPre (dC, dI) (tyl cI cC cZ cB cJ) (aXl cI cC cZ cB cJ a_x xI xH xB vI wY xX yA xY uD tJ jJ mY pG pD pE eO dN bD bJ aI uU gF mX oE dY jE eW eY dU fY gJ jG nU) sz)) (q_X9_from dC dI cI cC cZ cB cJ (va_A (aXl cI cC cZ cB cJ a_x xI xH xB vI wY xX yA xY uD tJ jJ mY pG pD pE eO dN bD bJ aI uU gF mX oE dY jE eW eY dU fY gJ jG nU) sz) a_x xI xH xB vI wY xX yA xY uD tJ jJ mY pG pD pE eO dN bD bJ aI uU gF mX oE dY jE eW eY dU fY gJ jG nU post) 0 0 (va_A (aXl cI cC cZ cB cJ a_x xI xH xB vI wY xX yA xY uD tJ jJ mY pG pD pE eO dN bD bJ aI uU gF mX oE dY jE eW eY dU fY gJ jG nU) sz) := by
  refine aBJ (own := RX9) (dC, dI) (tyl cI cC cZ cB cJ) (aXl cI cC cZ cB cJ a_x xI xH xB vI wY xX yA xY uD tJ jJ mY pG pD pE eO dN bD bJ aI uU gF mX oE dY jE eW eY dU fY gJ jG nU) sz [.ref a_x, .int p0, .int p1] (fun A => q_X9_from dC dI cI cC cZ cB cJ A a_x xI xH xB vI wY xX yA xY uD tJ jJ mY pG pD pE eO dN bD bJ aI uU gF mX oE dY jE eW eY dU fY gJ jG nU post) pn_RX9 rfl (lbz rfl) ?_
  intro p e s m args below meth c A H locs ls C0 hP hD hS hl
  have hl : lv_has ls 6 [(0, .ref a_x), (1, .int p0), (2, .int p1)] := hl
  obtain ⟨hx, hb, hr, hml, hown, hts, hlocks, hA, hK, hN, tL, tM, hZL, hTL, hZM, hTM, hZX⟩ := id C0
  have hp := hw
  unfold wp_X9_from at hp
  refine lv_aload_n hx hb bAz.1 rfl (lv_at hl 0 rfl) ?_
  refine va_get (D := (dC, dI)) (ci := 9) (v := .ref vI) (C := RX9) (T := TX9) (N := 9) hx hb hts aC3 hown hK hP 0 rfl rfl 3 (lbz rfl) (hts _ q_74) (fun _ h9 => h9) rfl bAz.2.1 ?_
  refine lv_iload_n hx hb bAz.2.2.1 rfl (lv_at hl 1 rfl) ?_
  have hm := mgk (wc := (bBr cI cC cZ cB cJ vI tJ jJ mY pG pD pE eO dN bD bJ aI)) hP mk_28 8 rfl rfl rfl
  refine yW hP hD hS hA (yS mk_28) (aAi mk_28) hm.1 hm.2 (aAk _) (zW _) (zF (As := [.int p0]) (rest := []) C0 hP hD hS (yS mk_28) hm.1 (aAl _) 1 3 rfl rfl (c_X3_hasFruit l dC dI cI cC cZ cB cJ vI tJ jJ mY pG pD pE eO H.size p0 dN bD bJ aI _ hp) q_171 q_174 q_172 q_173 q_48 h_X3_hasFruit rfl rfl ⟨lbz rfl, lbz rfl⟩ rfl rfl hl.1 rfl (lv_room (lbz rfl)) bAz.2.2.2.1 ⟨Nat.zero_le _, Nat.zero_le _⟩) (fun r_1 u H locs hp hP hD hS => ?_)
  have hPD := PDm (ws' := (aXl cI cC cZ cB cJ a_x xI xH xB vI wY xX yA xY uD tJ jJ mY pG pD pE eO dN bD bJ aI uU gF mX oE dY jE eW eY dU fY gJ jG nU)) hP hD 8 rfl rfl rfl
  have hP := hPD.1
  have hD := hPD.2
  refine lv_if_eq (tgt := 18) hx hb bAz.2.2.2.2.1 (by decide) (fun hc => ?_) (fun hc => ?_)
  · have hp := hp.1 hc
    refine lv_iconst (v := (-1)) hx hb bAz.2.2.2.2.2.2.2.2.1 aEJ ?_
    exact W.iret (v := (-1)) hx hb hr (fun t ht hW => ⟨⟨(-1), (), rfl, hp, by rw [ht]; exact hP, va_K.moved hW.alike hK, hD⟩, hS.F ht⟩) hS.2.2 bAz.2.2.2.2.2.2.2.2.2.1
  · have hp := hp.2 hc
    refine lv_iload_n hx hb bAz.2.2.2.2.2.1 rfl (lv_at hl 2 rfl) ?_
    have hm := mgk (wc := (aY5 cI cC cZ cB cJ)) hP aRc 8 rfl rfl rfl
    refine yW hP hD hS hA (yS aRc) (aAi aRc) hm.1 hm.2 (aAk _) (zW _) (aDn (As := [.int p1]) (rest := []) C0 hP hD hS (yS aRc) hm.1 (aAl _) (c_X9_isYesOrNo l dC dI cI cC cZ cB cJ H.size p1 _ hp) q_260 q_413 q_261 aIl h_X9_isYesOrNo rfl rfl ⟨lbz rfl, lbz rfl⟩ rfl rfl hl.1 rfl (lv_room (lbz rfl)) bAz.2.2.2.2.2.2.1 ⟨Nat.zero_le _, Nat.zero_le _⟩) (fun r_2 u H locs hp hP hD hS => ?_)
    have hPD := PDm (ws' := (aXl cI cC cZ cB cJ a_x xI xH xB vI wY xX yA xY uD tJ jJ mY pG pD pE eO dN bD bJ aI uU gF mX oE dY jE eW eY dU fY gJ jG nU)) hP hD 8 rfl rfl rfl
    have hP := hPD.1
    have hD := hPD.2
    refine lv_if_ne (tgt := 20) hx hb bAz.2.2.2.2.2.2.2.1 (by decide) (fun hc => ?_) (fun hc => ?_)
    · have hp := hp.1 hc
      refine lv_aload_n hx hb bAz.2.2.2.2.2.2.2.2.2.2.1 rfl (lv_at hl 0 rfl) ?_
      refine va_get (D := (dC, dI)) (ci := 9) (v := .ref vI) (C := RX9) (T := TX9) (N := 9) hx hb hts aC3 hown hK hP 0 rfl rfl 3 (lbz rfl) (hts _ q_74) (fun _ h9 => h9) rfl bAz.2.2.2.2.2.2.2.2.2.2.2.1 ?_
      refine lv_aload_n hx hb bAz.2.2.2.2.2.2.2.2.2.2.2.2.1 rfl (lv_at hl 0 rfl) ?_
      refine va_get (D := (dC, dI)) (ci := 9) (v := .ref wY) (C := RX9) (T := TX9) (N := 9) hx hb hts aC3 hown hK hP 0 rfl rfl 4 (lbz rfl) (hts _ q_179) (fun _ h9 => h9) rfl bAz.2.2.2.2.2.2.2.2.2.2.2.2.2.1 ?_
      refine va_get (D := (dC, dI)) (ci := 2) (v := .int gJ) (C := RX2) (T := TX2) (N := 8) hx hb hts i_X2 hown hK hP 7 rfl rfl 5 (lbz rfl) (hts _ q_414) (fun _ h9 => h9) rfl bAz.2.2.2.2.2.2.2.2.2.2.2.2.2.2.1 ?_
      refine lv_iload_n hx hb bAz.2.2.2.2.2.2.2.2.2.2.2.2.2.2.2 rfl (lv_at hl 2 rfl) ?_
      have hm := mgk (wc := (wd_X3_reach cI cC cZ cB cJ vI tJ jJ mY pG pD pE eO dN bD bJ aI dY)) hP mk_101 8 rfl rfl rfl
      refine yW hP hD hS hA (yS mk_101) (aAi mk_101) hm.1 hm.2 (aAk _) (zW _) (zF (As := [.int gJ, .int p1]) (rest := []) C0 hP hD hS (yS mk_101) hm.1 (aAl _) 1 3 rfl rfl (c_X3_reach l dC dI cI cC cZ cB cJ vI tJ jJ mY pG pD pE eO H.size gJ p1 dN bD bJ aI dY _ hp) q_312 q_411 q_313 q_314 q_48 h_X3_reach rfl rfl ⟨lbz rfl, lbz rfl⟩ rfl rfl hl.1 rfl (lv_room (lbz rfl)) bAe.1 ⟨Nat.zero_le _, Nat.zero_le _⟩) (fun r_3 u H locs hp hP hD hS => ?_)
      have hPD := PDm (ws' := (aXl cI cC cZ cB cJ a_x xI xH xB vI wY xX yA xY uD tJ jJ mY pG pD pE eO dN bD bJ aI uU gF mX oE dY jE eW eY dU fY gJ jG nU)) hP hD 8 rfl rfl rfl
      have hP := hPD.1
      have hD := hPD.2
      refine lv_istore_n (lv' := [(3, .int r_3), (0, .ref a_x), (1, .int p0), (2, .int p1)]) hx hb bAe.2.1 rfl hl (by decide) rfl (fun ls hl => ?_)
      refine lv_iconst (v := 0) hx hb bAe.2.2.1 aCi ?_
      refine lv_istore (lv' := [(4, .int 0), (3, .int r_3), (0, .ref a_x), (1, .int p0), (2, .int p1)]) hx hb bAe.2.2.2.1 hl (by decide) rfl (fun ls hl => ?_)
      refine lv_iconst (v := 0) hx hb bAe.2.2.2.2.1 aCi ?_
      refine lv_istore (lv' := [(5, .int 0), (4, .int 0), (3, .int r_3), (0, .ref a_x), (1, .int p0), (2, .int p1)]) hx hb bAe.2.2.2.2.2.1 hl (by decide) rfl (fun ls hl => ?_)
      obtain ⟨n9, hp⟩ := hp
      exact kb_X9_from_42 C0 n9 p0 r_3 0 0 H locs ls hp hP hD hS (lv_sub hl [3, 4, 2, 1, 0] rfl)
    · have hp := hp.2 hc
      refine lv_iconst (v := (-1)) hx hb bAz.2.2.2.2.2.2.2.2.1 aEJ ?_
      exact W.iret (v := (-1)) hx hb hr (fun t ht hW => ⟨⟨(-1), (), rfl, hp, by rw [ht]; exact hP, va_K.moved hW.alike hK, hD⟩, hS.F ht⟩) hS.2.2 bAz.2.2.2.2.2.2.2.2.2.1
abbrev aYQ (cI cC cZ cB cJ : ClassId) (a_x xI xH xB vI wY xX yA xY uD xO tJ jJ mY pG pD pE eO rG : Nat) (dN bD bJ aI : Int32) (uU gF pL mX oE dY : Nat -> Int32) (jE eW eY dU fY gJ jG nU qB : Int32) (jK : Nat -> Int32) : va_W := [(a_x, .inr (9, [.ref xI, .ref xH, .ref xB, .ref vI, .ref wY, .ref xX, .ref yA, .ref xY, .ref uD])), (xB, .inr (0, [.ref vI, .ref wY, .ref xO])), (vI, .inr (3, [.ref tJ, .ref jJ, .ref mY, .ref pG, .ref pD, .ref pE, .ref eO, .int dN, .int bD, .int bJ, .int aI])), (tJ, .inl (cI, 16, .inl uU)), (jJ, .inl (cI, 16, .inl gF)), (mY, .inl (cI, 16, .inl pL)), (pD, .inl (cI, 8, .inl mX)), (pE, .inl (cI, 8, .inl oE)), (eO, .inl (cI, 5, .inl dY)), (wY, .inr (2, [.int jE, .int eW, .int eY, .int dU, .int fY, .int gJ, .int jG, .int nU])), (yA, .inr (6, [.ref rG, .int qB])), (rG, .inl (cI, 16, .inl jK))]
abbrev q_X9_never (dC : Nat -> ClassId) (dI : Nat -> Nat -> Nat) (cI cC cZ cB cJ : ClassId) (A : Nat -> Prop) (a_x xI xH xB vI wY xX yA xY uD xO tJ jJ mY pG pD pE eO rG : Nat) (dN bD bJ aI : Int32) (uU gF pL mX oE dY : Nat -> Int32) (jE eW eY dU fY gJ jG nU : Int32) (post : Int32 -> Int32 -> (Nat -> Int32) -> Prop) : Array Value -> State -> Outcome -> State -> Prop := va_Qi (fun (r : Int32) (u : Int32 × (Nat -> Int32)) => post r u.1 u.2) (fun u t => gB (dC, dI) (tyl cI cC cZ cB cJ) A (aYQ cI cC cZ cB cJ a_x xI xH xB vI wY xX yA xY uD xO tJ jJ mY pG pD pE eO rG dN bD bJ aI uU gF pL mX oE dY jE eW eY dU fY gJ jG nU u.1 u.2) t) A
abbrev rm_X9_never : Room := { frames := 3, cells := 0, slots := 0, locals := 71 }
section S_X9_never
variable {p : Program} {l : Launch} {e : Env} {s : State} {m : MethodId} {args : Array Value} {below : List Frame} {meth : Method} {c : Code} {dC : Nat -> ClassId} {dI : Nat -> Nat -> Nat} {cI cC cZ cB cJ : ClassId} {A : Nat -> Prop} {a_x xI xH xB vI wY xX yA xY uD xO tJ jJ mY pG pD pE eO rG : Nat} {dN bD bJ aI : Int32} {uU gF pL mX oE dY : Nat -> Int32} {jE eW eY dU fY gJ jG nU : Int32} {post : Int32 -> Int32 -> (Nat -> Int32) -> Prop}
def ws_X9_never_10 (post : Int32 -> Int32 -> (Nat -> Int32) -> Prop) (next : Int32 -> Int32 -> Int32 -> (Nat -> Int32) -> Prop) (dN bD : Int32) (uU gF pL mX oE dY : Nat -> Int32) (jE eW eY dU x1 x2 qB : Int32) (jK : Nat -> Int32) : Prop := (bD <= x2 -> aVC (fun r_2 => aYk (fun aNH aHk => post x1 aNH aHk) r_2 qB jK) x1 dN pL dU) /\ (¬ bD <= x2 -> bAw (fun r_5 => bBS (fun r_6 => ∀ v_7 : Int32, v_7 = x1 &&& (r_6 ^^^ (-1)) -> ∀ v_8 : Int32, v_8 = x2 + 1 -> next v_7 v_8 qB jK) x2 r_5 dN uU gF mX oE) 1 1 dY)
noncomputable def wb_X9_never_10 (post : Int32 -> Int32 -> (Nat -> Int32) -> Prop) (dN bD : Int32) (uU gF pL mX oE dY : Nat -> Int32) (jE eW eY dU : Int32) : Nat -> Int32 -> Int32 -> Int32 -> (Nat -> Int32) -> Prop := fun n => Nat.rec (motive := fun _ => Int32 -> Int32 -> Int32 -> (Nat -> Int32) -> Prop) (fun _ _ _ _ => False) (fun _ ih => ws_X9_never_10 post ih dN bD uU gF pL mX oE dY jE eW eY dU) n
set_option maxHeartbeats 4000000 in
set_option maxRecDepth 100000 in
theorem ks_X9_never_10 (C0 : gc aJQ (some .int) 3 RX9 (dC, dI) (tyl cI cC cZ cB cJ) A p s m args meth c) {next : Int32 -> Int32 -> Int32 -> (Nat -> Int32) -> Prop} (hKn : ∀ (x1 : Int32) (x2 : Int32) (qB : Int32) (jK : Nat -> Int32) (H : Heap) (locs : List Loc) (ls : Array Slot), next x1 x2 qB jK -> va_P (dC, dI) classes (aYQ cI cC cZ cB cJ a_x xI xH xB vI wY xX yA xY uD xO tJ jJ mY pG pD pE eO rG dN bD bJ aI uU gF pL mX oE dY jE eW eY dU fY gJ jG nU qB jK) H -> va_D A (aYQ cI cC cZ cB cJ a_x xI xH xB vI wY xX yA xY uD xO tJ jJ mY pG pD pE eO rG dN bD bJ aI uU gF pL mX oE dY jE eW eY dU fY gJ jG nU qB jK) -> va_S A s.heap H locs -> lv_has ls 3 [(0, .ref a_x), (1, .int x1), (2, .int x2)] -> W p l e rm_X9_never s m args below meth c H locs 0 0 (MQ below (q_X9_never dC dI cI cC cZ cB cJ A a_x xI xH xB vI wY xX yA xY uD xO tJ jJ mY pG pD pE eO rG dN bD bJ aI uU gF pL mX oE dY jE eW eY dU fY gJ jG nU post) args s 0 0 A) (F0 m 10 ls [])) : ∀ (x1 x2 qB : Int32) (jK : Nat -> Int32) (H : Heap) (locs : List Loc) (ls : Array Slot), (ws_X9_never_10 post next dN bD uU gF pL mX oE dY jE eW eY dU) x1 x2 qB jK -> va_P (dC, dI) classes (aYQ cI cC cZ cB cJ a_x xI xH xB vI wY xX yA xY uD xO tJ jJ mY pG pD pE eO rG dN bD bJ aI uU gF pL mX oE dY jE eW eY dU fY gJ jG nU qB jK) H -> va_D A (aYQ cI cC cZ cB cJ a_x xI xH xB vI wY xX yA xY uD xO tJ jJ mY pG pD pE eO rG dN bD bJ aI uU gF pL mX oE dY jE eW eY dU fY gJ jG nU qB jK) -> va_S A s.heap H locs -> lv_has ls 3 [(0, .ref a_x), (1, .int x1), (2, .int x2)] -> W p l e rm_X9_never s m args below meth c H locs 0 0 (MQ below (q_X9_never dC dI cI cC cZ cB cJ A a_x xI xH xB vI wY xX yA xY uD xO tJ jJ mY pG pD pE eO rG dN bD bJ aI uU gF pL mX oE dY jE eW eY dU fY gJ jG nU post) args s 0 0 A) (F0 m 10 ls []) := by
  obtain ⟨hx, hb, hr, hml, hown, hts, hlocks, hA, hK, hN, tL, tM, hZL, hTL, hZM, hTM, hZX⟩ := id C0
  intro x1 x2 qB jK H locs ls hp hP hD hS hl
  unfold ws_X9_never_10 at hp
  refine lv_iload_n hx hb bAl.2.2.2.2.2.2.1 rfl (lv_at hl 2 rfl) ?_
  refine lv_aload_n hx hb bAl.2.2.2.2.2.2.2.1 rfl (lv_at hl 0 rfl) ?_
  refine va_get (D := (dC, dI)) (ci := 9) (v := .ref vI) (C := RX9) (T := TX9) (N := 9) hx hb hts aC3 hown hK hP 0 rfl rfl 3 (lbz rfl) (hts _ q_74) (fun _ h9 => h9) rfl bAl.2.2.2.2.2.2.2.2.1 ?_
  refine va_get (D := (dC, dI)) (ci := 3) (v := .int bD) (C := RX3) (T := TX3) (N := 11) hx hb hts i_X3 hown hK hP 2 rfl rfl 8 (lbz rfl) (hts _ q_415) (fun _ h9 => h9) rfl bAl.2.2.2.2.2.2.2.2.2.1 ?_
  refine lv_icmp_ge (tgt := 49) hx hb bAl.2.2.2.2.2.2.2.2.2.2.1 (by decide) (fun hc => ?_) (fun hc => ?_)
  · have hp := hp.1 hc
    refine lv_aload_n hx hb aWt.2.2.2.2.2.2.2.2.2.2.2.1 rfl (lv_at hl 0 rfl) ?_
    refine lv_aload_n hx hb aWt.2.2.2.2.2.2.2.2.2.2.2.2.1 rfl (lv_at hl 0 rfl) ?_
    refine va_get (D := (dC, dI)) (ci := 9) (v := .ref xB) (C := RX9) (T := TX9) (N := 9) hx hb hts aC3 hown hK hP 0 rfl rfl 2 (lbz rfl) (hts _ q_146) (fun _ h9 => h9) rfl aWt.2.2.2.2.2.2.2.2.2.2.2.2.2.1 ?_
    refine lv_iload_n hx hb aWt.2.2.2.2.2.2.2.2.2.2.2.2.2.2.1 rfl (lv_at hl 1 rfl) ?_
    have hm := mgk (wc := (aT8 cI cC cZ cB cJ xB vI wY xO tJ jJ mY pG pD pE eO dN bD bJ aI pL jE eW eY dU fY gJ jG nU)) hP mk_102 12 rfl rfl rfl
    refine yW hP hD hS hA (yS mk_102) (aAi mk_102) hm.1 hm.2 (aAk _) (zW _) (zF (As := [.int x1]) (rest := [.ref a_x]) C0 hP hD hS (yS mk_102) hm.1 (aAl _) 1 0 rfl rfl (c_X0_worthOf l dC dI cI cC cZ cB cJ xB vI wY xO tJ jJ mY pG pD pE eO H.size x1 dN bD bJ aI pL jE eW eY dU fY gJ jG nU _ hp) q_297 q_417 q_298 q_299 q_187 h_X0_worthOf rfl rfl ⟨lbz rfl, lbz rfl⟩ rfl rfl hl.1 rfl (lv_room (lbz rfl)) aWt.2.2.2.2.2.2.2.2.2.2.2.2.2.2.2 ⟨Nat.zero_le _, Nat.zero_le _⟩) (fun r_2 u H locs hp hP hD hS => ?_)
    have hPD := PDm (ws' := (aYQ cI cC cZ cB cJ a_x xI xH xB vI wY xX yA xY uD xO tJ jJ mY pG pD pE eO rG dN bD bJ aI uU gF pL mX oE dY jE eW eY dU fY gJ jG nU qB jK)) hP hD 12 rfl rfl rfl
    have hP := hPD.1
    have hD := hPD.2
    have hm := mgk (wc := (wd_X9_tell cI cC cZ cB cJ a_x xI xH xB vI wY xX yA xY uD rG qB jK)) hP mk_103 12 rfl rfl rfl
    refine aBn hP hD hS hA (yS mk_103) (aAi mk_103) hm.1 hm.2 (aAk _) (zW _) (zF (As := [.int r_2]) (rest := []) C0 hP hD hS (yS mk_103) hm.1 (aAl _) 0 9 rfl rfl (c_X9_tell l dC dI cI cC cZ cB cJ a_x xI xH xB vI wY xX yA xY uD rG H.size r_2 qB jK _ hp) q_373 q_376 q_374 q_375 aIl h_X9_tell rfl rfl ⟨lbz rfl, lbz rfl⟩ rfl rfl hl.1 rfl (lv_room (lbz rfl)) eX9_never_58.1 ⟨Nat.zero_le _, Nat.zero_le _⟩) (fun u H locs hp hP hD hS => ?_)
    obtain ⟨aNH, aHk⟩ := u
    have hPD := PDm (ws' := (aYQ cI cC cZ cB cJ a_x xI xH xB vI wY xX yA xY uD xO tJ jJ mY pG pD pE eO rG dN bD bJ aI uU gF pL mX oE dY jE eW eY dU fY gJ jG nU aNH aHk)) hP hD 12 rfl rfl rfl
    have hP := hPD.1
    have hD := hPD.2
    refine lv_iload_n hx hb eX9_never_58.2.1 rfl (lv_at hl 1 rfl) ?_
    exact W.iret (v := x1) hx hb hr (fun t ht hW => ⟨⟨x1, (aNH, aHk), rfl, hp, by rw [ht]; exact hP, va_K.moved hW.alike hK, hD⟩, hS.F ht⟩) hS.2.2 eX9_never_58.2.2
  · have hp := hp.2 hc
    refine lv_iload_n hx hb bAl.2.2.2.2.2.2.2.2.2.2.2.1 rfl (lv_at hl 1 rfl) ?_
    refine lv_aload_n hx hb bAl.2.2.2.2.2.2.2.2.2.2.2.2.1 rfl (lv_at hl 0 rfl) ?_
    refine va_get (D := (dC, dI)) (ci := 9) (v := .ref vI) (C := RX9) (T := TX9) (N := 9) hx hb hts aC3 hown hK hP 0 rfl rfl 3 (lbz rfl) (hts _ q_74) (fun _ h9 => h9) rfl bAl.2.2.2.2.2.2.2.2.2.2.2.2.2.1 ?_
    refine lv_iload_n hx hb bAl.2.2.2.2.2.2.2.2.2.2.2.2.2.2.1 rfl (lv_at hl 2 rfl) ?_
    refine lv_aload_n hx hb bAl.2.2.2.2.2.2.2.2.2.2.2.2.2.2.2 rfl (lv_at hl 0 rfl) ?_
    refine va_get (D := (dC, dI)) (ci := 9) (v := .ref vI) (C := RX9) (T := TX9) (N := 9) hx hb hts aC3 hown hK hP 0 rfl rfl 3 (lbz rfl) (hts _ q_74) (fun _ h9 => h9) rfl aWt.1 ?_
    refine lv_iconst (v := 1) hx hb aWt.2.1 aDx ?_
    refine lv_iconst (v := 1) hx hb aWt.2.2.1 aDx ?_
    have hm := mgk (wc := (wd_X3_reach cI cC cZ cB cJ vI tJ jJ mY pG pD pE eO dN bD bJ aI dY)) hP mk_104 12 rfl rfl rfl
    refine yW hP hD hS hA (yS mk_104) (aAi mk_104) hm.1 hm.2 (aAk _) (zW _) (zF (As := [.int 1, .int 1]) (rest := [.int x2, .ref vI, .int x1]) C0 hP hD hS (yS mk_104) hm.1 (aAl _) 2 3 rfl rfl (c_X3_reach l dC dI cI cC cZ cB cJ vI tJ jJ mY pG pD pE eO H.size 1 1 dN bD bJ aI dY _ hp) q_312 q_411 q_313 q_314 q_48 h_X3_reach rfl rfl ⟨lbz rfl, lbz rfl⟩ rfl rfl hl.1 rfl (lv_room (lbz rfl)) aWt.2.2.2.1 ⟨Nat.zero_le _, Nat.zero_le _⟩) (fun r_5 u H locs hp hP hD hS => ?_)
    have hPD := PDm (ws' := (aYQ cI cC cZ cB cJ a_x xI xH xB vI wY xX yA xY uD xO tJ jJ mY pG pD pE eO rG dN bD bJ aI uU gF pL mX oE dY jE eW eY dU fY gJ jG nU qB jK)) hP hD 12 rfl rfl rfl
    have hP := hPD.1
    have hD := hPD.2
    have hm := mgk (wc := (aLx cI cC cZ cB cJ vI tJ jJ mY pG pD pE eO dN bD bJ aI uU gF mX oE)) hP mk_105 12 rfl rfl rfl
    refine yW hP hD hS hA (yS mk_105) (aAi mk_105) hm.1 hm.2 (aAk _) (zW _) (zF (As := [.int x2, .int r_5]) (rest := [.int x1]) C0 hP hD hS (yS mk_105) hm.1 (aAl _) 2 3 rfl rfl (c_X3_within l dC dI cI cC cZ cB cJ vI tJ jJ mY pG pD pE eO H.size x2 r_5 dN bD bJ aI uU gF mX oE _ hp) q_339 q_412 q_340 q_341 q_48 h_X3_within rfl rfl ⟨lbz rfl, lbz rfl⟩ rfl rfl hl.1 rfl (lv_room (lbz rfl)) aWt.2.2.2.2.1 ⟨Nat.zero_le _, Nat.zero_le _⟩) (fun r_6 u H locs hp hP hD hS => ?_)
    have hPD := PDm (ws' := (aYQ cI cC cZ cB cJ a_x xI xH xB vI wY xX yA xY uD xO tJ jJ mY pG pD pE eO rG dN bD bJ aI uU gF pL mX oE dY jE eW eY dU fY gJ jG nU qB jK)) hP hD 12 rfl rfl rfl
    have hP := hPD.1
    have hD := hPD.2
    refine lv_iconst (v := (-1)) hx hb aWt.2.2.2.2.2.1 aEJ ?_
    refine lv_ixor hx hb aWt.2.2.2.2.2.2.1 ?_
    refine lv_iand hx hb aWt.2.2.2.2.2.2.2.1 ?_
    refine lv_topi (fun v_7 ev_7 => ?_)
    have hp := hp v_7 ev_7
    refine lv_istore_n (lv' := [(1, .int v_7), (0, .ref a_x), (2, .int x2)]) hx hb aWt.2.2.2.2.2.2.2.2.1 rfl hl (by decide) rfl (fun ls hl => ?_)
    obtain ⟨v_8, ev_8⟩ : ∃ y : Int32, y = x2 + 1 := ⟨_, rfl⟩
    refine lv_iinc (v := v_8) (lv' := [(2, .int v_8), (1, .int v_7), (0, .ref a_x)]) hx hb aWt.2.2.2.2.2.2.2.2.2.1 hl (k := 2) rfl (by rw [ev_8]; rfl) (by decide) rfl (fun ls hl => ?_)
    have hp := hp v_8 ev_8
    refine lv_goto (tgt := 10) hx hb aWt.2.2.2.2.2.2.2.2.2.2.1 (by decide) ?_
    exact hKn v_7 v_8 qB jK H locs ls hp hP hD hS (lv_sub hl [2, 1, 0] rfl)
set_option maxHeartbeats 4000000 in
set_option maxRecDepth 100000 in
theorem kb_X9_never_10 (C0 : gc aJQ (some .int) 3 RX9 (dC, dI) (tyl cI cC cZ cB cJ) A p s m args meth c) : ∀ (n : Nat), ∀ (x1 x2 qB : Int32) (jK : Nat -> Int32) (H : Heap) (locs : List Loc) (ls : Array Slot), (wb_X9_never_10 post dN bD uU gF pL mX oE dY jE eW eY dU n) x1 x2 qB jK -> va_P (dC, dI) classes (aYQ cI cC cZ cB cJ a_x xI xH xB vI wY xX yA xY uD xO tJ jJ mY pG pD pE eO rG dN bD bJ aI uU gF pL mX oE dY jE eW eY dU fY gJ jG nU qB jK) H -> va_D A (aYQ cI cC cZ cB cJ a_x xI xH xB vI wY xX yA xY uD xO tJ jJ mY pG pD pE eO rG dN bD bJ aI uU gF pL mX oE dY jE eW eY dU fY gJ jG nU qB jK) -> va_S A s.heap H locs -> lv_has ls 3 [(0, .ref a_x), (1, .int x1), (2, .int x2)] -> W p l e rm_X9_never s m args below meth c H locs 0 0 (MQ below (q_X9_never dC dI cI cC cZ cB cJ A a_x xI xH xB vI wY xX yA xY uD xO tJ jJ mY pG pD pE eO rG dN bD bJ aI uU gF pL mX oE dY jE eW eY dU fY gJ jG nU post) args s 0 0 A) (F0 m 10 ls []) := by
  intro n
  induction n with
  | zero =>
    intro x1 x2 qB jK H locs ls hp
    exact False.elim hp
  | succ n ih =>
    intro x1 x2 qB jK H locs ls hp
    exact ks_X9_never_10 C0 ih x1 x2 qB jK H locs ls hp
end S_X9_never
def wp_X9_never (post : Int32 -> Int32 -> (Nat -> Int32) -> Prop) (dN bD : Int32) (uU gF pL mX oE dY : Nat -> Int32) (jE eW eY dU qB : Int32) (jK : Nat -> Int32) : Prop := aOu (fun r_1 => ∃ n : Nat, wb_X9_never_10 post dN bD uU gF pL mX oE dY jE eW eY dU n r_1 0 qB jK) dN jE eW eY
set_option maxHeartbeats 4000000 in
set_option maxRecDepth 100000 in
theorem c_X9_never (l : Launch) (dC : Nat -> ClassId) (dI : Nat -> Nat -> Nat) (cI cC cZ cB cJ : ClassId) (a_x xI xH xB vI wY xX yA xY uD xO tJ jJ mY pG pD pE eO rG sz : Nat) (dN bD bJ aI : Int32) (uU gF pL mX oE dY : Nat -> Int32) (jE eW eY dU fY gJ jG nU qB : Int32) (jK : Nat -> Int32) (post : Int32 -> Int32 -> (Nat -> Int32) -> Prop) (hw : wp_X9_never post dN bD uU gF pL mX oE dY jE eW eY dU qB jK) : Met l yX9_never (gw yX9_never aJQ 3 (some .int)) rm_X9_never (va_Pc [.ref a_x] (gPre (dC, dI) (tyl cI cC cZ cB cJ) (aYQ cI cC cZ cB cJ a_x xI xH xB vI wY xX yA xY uD xO tJ jJ mY pG pD pE eO rG dN bD bJ aI uU gF pL mX oE dY jE eW eY dU fY gJ jG nU qB jK) sz)) (q_X9_never dC dI cI cC cZ cB cJ (va_A (aYQ cI cC cZ cB cJ a_x xI xH xB vI wY xX yA xY uD xO tJ jJ mY pG pD pE eO rG dN bD bJ aI uU gF pL mX oE dY jE eW eY dU fY gJ jG nU qB jK) sz) a_x xI xH xB vI wY xX yA xY uD xO tJ jJ mY pG pD pE eO rG dN bD bJ aI uU gF pL mX oE dY jE eW eY dU fY gJ jG nU post) 0 0 (va_A (aYQ cI cC cZ cB cJ a_x xI xH xB vI wY xX yA xY uD xO tJ jJ mY pG pD pE eO rG dN bD bJ aI uU gF pL mX oE dY jE eW eY dU fY gJ jG nU qB jK) sz) := by
  refine aBJ (own := RX9) (dC, dI) (tyl cI cC cZ cB cJ) (aYQ cI cC cZ cB cJ a_x xI xH xB vI wY xX yA xY uD xO tJ jJ mY pG pD pE eO rG dN bD bJ aI uU gF pL mX oE dY jE eW eY dU fY gJ jG nU qB jK) sz [.ref a_x] (fun A => q_X9_never dC dI cI cC cZ cB cJ A a_x xI xH xB vI wY xX yA xY uD xO tJ jJ mY pG pD pE eO rG dN bD bJ aI uU gF pL mX oE dY jE eW eY dU fY gJ jG nU post) pn_RX9 rfl (lbz rfl) ?_
  intro p e s m args below meth c A H locs ls C0 hP hD hS hl
  have hl : lv_has ls 3 [(0, .ref a_x)] := hl
  obtain ⟨hx, hb, hr, hml, hown, hts, hlocks, hA, hK, hN, tL, tM, hZL, hTL, hZM, hTM, hZX⟩ := id C0
  have hp := hw
  unfold wp_X9_never at hp
  refine lv_aload_n hx hb bAl.1 rfl (lv_at hl 0 rfl) ?_
  refine va_get (D := (dC, dI)) (ci := 9) (v := .ref xB) (C := RX9) (T := TX9) (N := 9) hx hb hts aC3 hown hK hP 0 rfl rfl 2 (lbz rfl) (hts _ q_146) (fun _ h9 => h9) rfl bAl.2.1 ?_
  have hm := mgk (wc := (aOf cI cC cZ cB cJ xB vI wY xO tJ jJ mY pG pD pE eO dN bD bJ aI jE eW eY dU fY gJ jG nU)) hP mk_106 12 rfl rfl rfl
  refine yW hP hD hS hA (yS mk_106) (aAi mk_106) hm.1 hm.2 (aAk _) (zW _) (zF (As := []) (rest := []) C0 hP hD hS (yS mk_106) hm.1 (aAl _) 1 0 rfl rfl (c_X0_hanging l dC dI cI cC cZ cB cJ xB vI wY xO tJ jJ mY pG pD pE eO H.size dN bD bJ aI jE eW eY dU fY gJ jG nU _ hp) q_186 q_190 q_188 q_189 q_187 h_X0_hanging rfl rfl ⟨lbz rfl, lbz rfl⟩ rfl rfl hl.1 rfl (lv_room (lbz rfl)) bAl.2.2.1 ⟨Nat.zero_le _, Nat.zero_le _⟩) (fun r_1 u H locs hp hP hD hS => ?_)
  have hPD := PDm (ws' := (aYQ cI cC cZ cB cJ a_x xI xH xB vI wY xX yA xY uD xO tJ jJ mY pG pD pE eO rG dN bD bJ aI uU gF pL mX oE dY jE eW eY dU fY gJ jG nU qB jK)) hP hD 12 rfl rfl rfl
  have hP := hPD.1
  have hD := hPD.2
  refine lv_istore_n (lv' := [(1, .int r_1), (0, .ref a_x)]) hx hb bAl.2.2.2.1 rfl hl (by decide) rfl (fun ls hl => ?_)
  refine lv_iconst (v := 0) hx hb bAl.2.2.2.2.1 aCi ?_
  refine lv_istore_n (lv' := [(2, .int 0), (1, .int r_1), (0, .ref a_x)]) hx hb bAl.2.2.2.2.2.1 rfl hl (by decide) rfl (fun ls hl => ?_)
  obtain ⟨n9, hp⟩ := hp
  exact kb_X9_never_10 C0 n9 r_1 0 qB jK H locs ls hp hP hD hS (lv_sub hl [2, 1, 0] rfl)
abbrev bCH (cI cC cZ cB cJ : ClassId) (a_x xI xH xB vI wY xX yA xY uD xO tJ jJ mY pG pD pE eO uS tX uR rY tY : Nat) (dN bD bJ aI : Int32) (uU gF pL mX oE dY : Nat -> Int32) (jE eW eY dU fY gJ jG nU pQ qI sY uG pY nJ : Int32) (qY qU pN : Nat -> Int32) : va_W := [(a_x, .inr (9, [.ref xI, .ref xH, .ref xB, .ref vI, .ref wY, .ref xX, .ref yA, .ref xY, .ref uD])), (xB, .inr (0, [.ref vI, .ref wY, .ref xO])), (vI, .inr (3, [.ref tJ, .ref jJ, .ref mY, .ref pG, .ref pD, .ref pE, .ref eO, .int dN, .int bD, .int bJ, .int aI])), (tJ, .inl (cI, 16, .inl uU)), (jJ, .inl (cI, 16, .inl gF)), (mY, .inl (cI, 16, .inl pL)), (pD, .inl (cI, 8, .inl mX)), (pE, .inl (cI, 8, .inl oE)), (eO, .inl (cI, 5, .inl dY)), (wY, .inr (2, [.int jE, .int eW, .int eY, .int dU, .int fY, .int gJ, .int jG, .int nU])), (xO, .inr (7, [.ref uS, .ref tX, .ref uR, .ref rY, .ref tY, .int pQ, .int qI, .int sY, .int uG, .int pY, .int nJ])), (uS, .inl (cI, 7, .inl qY)), (uR, .inl (cI, 40, .inl qU)), (rY, .inl (cI, 40, .inl pN))]
abbrev q_X9_seconds (dC : Nat -> ClassId) (dI : Nat -> Nat -> Nat) (cI cC cZ cB cJ : ClassId) (A : Nat -> Prop) (a_x xI xH xB vI wY xX yA xY uD xO tJ jJ mY pG pD pE eO uS tX uR rY tY : Nat) (dN bD bJ aI : Int32) (uU gF pL mX oE dY : Nat -> Int32) (jE eW eY dU fY gJ jG nU pQ qI sY uG pY nJ : Int32) (pN : Nat -> Int32) (post : Int32 -> (Nat -> Int32) -> (Nat -> Int32) -> Prop) : Array Value -> State -> Outcome -> State -> Prop := va_Qi (fun (r : Int32) (u : (Nat -> Int32) × (Nat -> Int32)) => post r u.1 u.2) (fun u t => gB (dC, dI) (tyl cI cC cZ cB cJ) A (bCH cI cC cZ cB cJ a_x xI xH xB vI wY xX yA xY uD xO tJ jJ mY pG pD pE eO uS tX uR rY tY dN bD bJ aI uU gF pL mX oE dY jE eW eY dU fY gJ jG nU pQ qI sY uG pY nJ u.1 u.2 pN) t) A
abbrev rm_X9_seconds : Room := { frames := 3, cells := 0, slots := 0, locals := 73 }
def wp_X9_seconds (post : Int32 -> (Nat -> Int32) -> (Nat -> Int32) -> Prop) (p0 p1 p2 dN bD : Int32) (uU gF pL mX oE dY : Nat -> Int32) (dU gJ pQ : Int32) (qY qU pN : Nat -> Int32) : Prop := aY8 (fun r_1 => (r_1 = 0 -> post (-1) qY qU) /\ (¬ r_1 = 0 -> aK6 (fun r_2 => (r_2 = 0 -> post (-1) qY qU) /\ (¬ r_2 = 0 -> aY9 (fun r_3 => (¬ r_3 = 0 -> bAw (fun r_4 => bBv (fun r_5 => (¬ r_5 = 0 -> aSP (fun r_6 ru_given_7 ru_stack_8 => post r_6 ru_given_7 ru_stack_8) p0 p1 p2 0 dN uU gF pL mX oE dU pQ qY qU pN) /\ (r_5 = 0 -> post (-2) qY qU)) p0 p1 r_4 uU gF mX oE) gJ p2 dY) /\ (r_3 = 0 -> post (-1) qY qU)) p2)) p1 bD)) p0 dN
set_option maxHeartbeats 4000000 in
set_option maxRecDepth 100000 in
theorem c_X9_seconds (l : Launch) (dC : Nat -> ClassId) (dI : Nat -> Nat -> Nat) (cI cC cZ cB cJ : ClassId) (a_x xI xH xB vI wY xX yA xY uD xO tJ jJ mY pG pD pE eO uS tX uR rY tY sz : Nat) (p0 p1 p2 dN bD bJ aI : Int32) (uU gF pL mX oE dY : Nat -> Int32) (jE eW eY dU fY gJ jG nU pQ qI sY uG pY nJ : Int32) (qY qU pN : Nat -> Int32) (post : Int32 -> (Nat -> Int32) -> (Nat -> Int32) -> Prop) (hw : wp_X9_seconds post p0 p1 p2 dN bD uU gF pL mX oE dY dU gJ pQ qY qU pN) : Met l yX9_seconds (gw yX9_seconds aGT 4 (some .int)) rm_X9_seconds (va_Pc [.ref a_x, .int p0, .int p1, .int p2] (gPre (dC, dI) (tyl cI cC cZ cB cJ) (bCH cI cC cZ cB cJ a_x xI xH xB vI wY xX yA xY uD xO tJ jJ mY pG pD pE eO uS tX uR rY tY dN bD bJ aI uU gF pL mX oE dY jE eW eY dU fY gJ jG nU pQ qI sY uG pY nJ qY qU pN) sz)) (q_X9_seconds dC dI cI cC cZ cB cJ (va_A (bCH cI cC cZ cB cJ a_x xI xH xB vI wY xX yA xY uD xO tJ jJ mY pG pD pE eO uS tX uR rY tY dN bD bJ aI uU gF pL mX oE dY jE eW eY dU fY gJ jG nU pQ qI sY uG pY nJ qY qU pN) sz) a_x xI xH xB vI wY xX yA xY uD xO tJ jJ mY pG pD pE eO uS tX uR rY tY dN bD bJ aI uU gF pL mX oE dY jE eW eY dU fY gJ jG nU pQ qI sY uG pY nJ pN post) 0 0 (va_A (bCH cI cC cZ cB cJ a_x xI xH xB vI wY xX yA xY uD xO tJ jJ mY pG pD pE eO uS tX uR rY tY dN bD bJ aI uU gF pL mX oE dY jE eW eY dU fY gJ jG nU pQ qI sY uG pY nJ qY qU pN) sz) := by
  refine aBJ (own := RX9) (dC, dI) (tyl cI cC cZ cB cJ) (bCH cI cC cZ cB cJ a_x xI xH xB vI wY xX yA xY uD xO tJ jJ mY pG pD pE eO uS tX uR rY tY dN bD bJ aI uU gF pL mX oE dY jE eW eY dU fY gJ jG nU pQ qI sY uG pY nJ qY qU pN) sz [.ref a_x, .int p0, .int p1, .int p2] (fun A => q_X9_seconds dC dI cI cC cZ cB cJ A a_x xI xH xB vI wY xX yA xY uD xO tJ jJ mY pG pD pE eO uS tX uR rY tY dN bD bJ aI uU gF pL mX oE dY jE eW eY dU fY gJ jG nU pQ qI sY uG pY nJ pN post) pn_RX9 rfl (lbz rfl) ?_
  intro p e s m args below meth c A H locs ls C0 hP hD hS hl
  have hl : lv_has ls 4 [(0, .ref a_x), (1, .int p0), (2, .int p1), (3, .int p2)] := hl
  obtain ⟨hx, hb, hr, hml, hown, hts, hlocks, hA, hK, hN, tL, tM, hZL, hTL, hZM, hTM, hZX⟩ := id C0
  have hp := hw
  unfold wp_X9_seconds at hp
  refine lv_aload_n hx hb aMz.1 rfl (lv_at hl 0 rfl) ?_
  refine va_get (D := (dC, dI)) (ci := 9) (v := .ref vI) (C := RX9) (T := TX9) (N := 9) hx hb hts aC3 hown hK hP 0 rfl rfl 3 (lbz rfl) (hts _ q_74) (fun _ h9 => h9) rfl aMz.2.1 ?_
  refine lv_iload_n hx hb aMz.2.2.1 rfl (lv_at hl 1 rfl) ?_
  have hm := mgk (wc := (bBr cI cC cZ cB cJ vI tJ jJ mY pG pD pE eO dN bD bJ aI)) hP mk_107 14 rfl rfl rfl
  refine yW hP hD hS hA (yS mk_107) (aAi mk_107) hm.1 hm.2 (aAk _) (zW _) (zF (As := [.int p0]) (rest := []) C0 hP hD hS (yS mk_107) hm.1 (aAl _) 2 3 rfl rfl (c_X3_hasFruit l dC dI cI cC cZ cB cJ vI tJ jJ mY pG pD pE eO H.size p0 dN bD bJ aI _ hp) q_171 q_174 q_172 q_173 q_48 h_X3_hasFruit rfl rfl ⟨lbz rfl, lbz rfl⟩ rfl rfl hl.1 rfl (lv_room (lbz rfl)) aMz.2.2.2.1 ⟨Nat.zero_le _, Nat.zero_le _⟩) (fun r_1 u H locs hp hP hD hS => ?_)
  have hPD := PDm (ws' := (bCH cI cC cZ cB cJ a_x xI xH xB vI wY xX yA xY uD xO tJ jJ mY pG pD pE eO uS tX uR rY tY dN bD bJ aI uU gF pL mX oE dY jE eW eY dU fY gJ jG nU pQ qI sY uG pY nJ qY qU pN)) hP hD 14 rfl rfl rfl
  have hP := hPD.1
  have hD := hPD.2
  refine lv_if_eq (tgt := 29) hx hb aMz.2.2.2.2.1 (by decide) (fun hc => ?_) (fun hc => ?_)
  · have hp := hp.1 hc
    refine lv_iconst (v := (-1)) hx hb aMz.2.2.2.2.2.2.2.2.2.2.2.2.2.1 aEJ ?_
    exact W.iret (v := (-1)) hx hb hr (fun t ht hW => ⟨⟨(-1), (qY, qU), rfl, hp, by rw [ht]; exact hP, va_K.moved hW.alike hK, hD⟩, hS.F ht⟩) hS.2.2 aMz.2.2.2.2.2.2.2.2.2.2.2.2.2.2.1
  · have hp := hp.2 hc
    refine lv_aload_n hx hb aMz.2.2.2.2.2.1 rfl (lv_at hl 0 rfl) ?_
    refine va_get (D := (dC, dI)) (ci := 9) (v := .ref vI) (C := RX9) (T := TX9) (N := 9) hx hb hts aC3 hown hK hP 0 rfl rfl 3 (lbz rfl) (hts _ q_74) (fun _ h9 => h9) rfl aMz.2.2.2.2.2.2.1 ?_
    refine lv_iload_n hx hb aMz.2.2.2.2.2.2.2.1 rfl (lv_at hl 2 rfl) ?_
    have hm := mgk (wc := (aLv cI cC cZ cB cJ vI tJ jJ mY pG pD pE eO dN bD bJ aI)) hP mk_107 14 rfl rfl rfl
    refine yW hP hD hS hA (yS mk_107) (aAi mk_107) hm.1 hm.2 (aAk _) (zW _) (zF (As := [.int p1]) (rest := []) C0 hP hD hS (yS mk_107) hm.1 (aAl _) 2 3 rfl rfl (aZS l dC dI cI cC cZ cB cJ vI tJ jJ mY pG pD pE eO H.size p1 dN bD bJ aI _ hp) q_195 q_198 q_196 q_197 q_48 aZZ rfl rfl ⟨lbz rfl, lbz rfl⟩ rfl rfl hl.1 rfl (lv_room (lbz rfl)) aMz.2.2.2.2.2.2.2.2.1 ⟨Nat.zero_le _, Nat.zero_le _⟩) (fun r_2 u H locs hp hP hD hS => ?_)
    have hPD := PDm (ws' := (bCH cI cC cZ cB cJ a_x xI xH xB vI wY xX yA xY uD xO tJ jJ mY pG pD pE eO uS tX uR rY tY dN bD bJ aI uU gF pL mX oE dY jE eW eY dU fY gJ jG nU pQ qI sY uG pY nJ qY qU pN)) hP hD 14 rfl rfl rfl
    have hP := hPD.1
    have hD := hPD.2
    refine lv_if_eq (tgt := 29) hx hb aMz.2.2.2.2.2.2.2.2.2.1 (by decide) (fun hc => ?_) (fun hc => ?_)
    · have hp := hp.1 hc
      refine lv_iconst (v := (-1)) hx hb aMz.2.2.2.2.2.2.2.2.2.2.2.2.2.1 aEJ ?_
      exact W.iret (v := (-1)) hx hb hr (fun t ht hW => ⟨⟨(-1), (qY, qU), rfl, hp, by rw [ht]; exact hP, va_K.moved hW.alike hK, hD⟩, hS.F ht⟩) hS.2.2 aMz.2.2.2.2.2.2.2.2.2.2.2.2.2.2.1
    · have hp := hp.2 hc
      refine lv_iload_n hx hb aMz.2.2.2.2.2.2.2.2.2.2.1 rfl (lv_at hl 3 rfl) ?_
      have hm := mgk (wc := (aY5 cI cC cZ cB cJ)) hP aJ7 14 rfl rfl rfl
      refine yW hP hD hS hA (yS aJ7) (aAi aJ7) hm.1 hm.2 (aAk _) (zW _) (aDn (As := [.int p2]) (rest := []) C0 hP hD hS (yS aJ7) hm.1 (aAl _) (c_X9_isYesOrNo l dC dI cI cC cZ cB cJ H.size p2 _ hp) q_260 q_413 q_261 aIl h_X9_isYesOrNo rfl rfl ⟨lbz rfl, lbz rfl⟩ rfl rfl hl.1 rfl (lv_room (lbz rfl)) aMz.2.2.2.2.2.2.2.2.2.2.2.1 ⟨Nat.zero_le _, Nat.zero_le _⟩) (fun r_3 u H locs hp hP hD hS => ?_)
      have hPD := PDm (ws' := (bCH cI cC cZ cB cJ a_x xI xH xB vI wY xX yA xY uD xO tJ jJ mY pG pD pE eO uS tX uR rY tY dN bD bJ aI uU gF pL mX oE dY jE eW eY dU fY gJ jG nU pQ qI sY uG pY nJ qY qU pN)) hP hD 14 rfl rfl rfl
      have hP := hPD.1
      have hD := hPD.2
      refine lv_if_ne (tgt := 31) hx hb aMz.2.2.2.2.2.2.2.2.2.2.2.2.1 (by decide) (fun hc => ?_) (fun hc => ?_)
      · have hp := hp.1 hc
        refine lv_aload_n hx hb aMz.2.2.2.2.2.2.2.2.2.2.2.2.2.2.2 rfl (lv_at hl 0 rfl) ?_
        refine va_get (D := (dC, dI)) (ci := 9) (v := .ref vI) (C := RX9) (T := TX9) (N := 9) hx hb hts aC3 hown hK hP 0 rfl rfl 3 (lbz rfl) (hts _ q_74) (fun _ h9 => h9) rfl aQy.1 ?_
        refine lv_iload_n hx hb aQy.2.1 rfl (lv_at hl 1 rfl) ?_
        refine lv_iload_n hx hb aQy.2.2.1 rfl (lv_at hl 2 rfl) ?_
        refine lv_aload_n hx hb aQy.2.2.2.1 rfl (lv_at hl 0 rfl) ?_
        refine va_get (D := (dC, dI)) (ci := 9) (v := .ref vI) (C := RX9) (T := TX9) (N := 9) hx hb hts aC3 hown hK hP 0 rfl rfl 3 (lbz rfl) (hts _ q_74) (fun _ h9 => h9) rfl aQy.2.2.2.2.1 ?_
        refine lv_aload_n hx hb aQy.2.2.2.2.2.1 rfl (lv_at hl 0 rfl) ?_
        refine va_get (D := (dC, dI)) (ci := 9) (v := .ref wY) (C := RX9) (T := TX9) (N := 9) hx hb hts aC3 hown hK hP 0 rfl rfl 4 (lbz rfl) (hts _ q_179) (fun _ h9 => h9) rfl aQy.2.2.2.2.2.2.1 ?_
        refine va_get (D := (dC, dI)) (ci := 2) (v := .int gJ) (C := RX2) (T := TX2) (N := 8) hx hb hts i_X2 hown hK hP 9 rfl rfl 5 (lbz rfl) (hts _ q_414) (fun _ h9 => h9) rfl aQy.2.2.2.2.2.2.2.1 ?_
        refine lv_iload_n hx hb aQy.2.2.2.2.2.2.2.2.1 rfl (lv_at hl 3 rfl) ?_
        have hm := mgk (wc := (wd_X3_reach cI cC cZ cB cJ vI tJ jJ mY pG pD pE eO dN bD bJ aI dY)) hP mk_108 14 rfl rfl rfl
        refine yW hP hD hS hA (yS mk_108) (aAi mk_108) hm.1 hm.2 (aAk _) (zW _) (zF (As := [.int gJ, .int p2]) (rest := [.int p1, .int p0, .ref vI]) C0 hP hD hS (yS mk_108) hm.1 (aAl _) 2 3 rfl rfl (c_X3_reach l dC dI cI cC cZ cB cJ vI tJ jJ mY pG pD pE eO H.size gJ p2 dN bD bJ aI dY _ hp) q_312 q_411 q_313 q_314 q_48 h_X3_reach rfl rfl ⟨lbz rfl, lbz rfl⟩ rfl rfl hl.1 rfl (lv_room (lbz rfl)) aQy.2.2.2.2.2.2.2.2.2.1 ⟨Nat.zero_le _, Nat.zero_le _⟩) (fun r_4 u H locs hp hP hD hS => ?_)
        have hPD := PDm (ws' := (bCH cI cC cZ cB cJ a_x xI xH xB vI wY xX yA xY uD xO tJ jJ mY pG pD pE eO uS tX uR rY tY dN bD bJ aI uU gF pL mX oE dY jE eW eY dU fY gJ jG nU pQ qI sY uG pY nJ qY qU pN)) hP hD 14 rfl rfl rfl
        have hP := hPD.1
        have hD := hPD.2
        have hm := mgk (wc := (aY3 cI cC cZ cB cJ vI tJ jJ mY pG pD pE eO dN bD bJ aI uU gF mX oE)) hP mk_109 14 rfl rfl rfl
        refine yW hP hD hS hA (yS mk_109) (aAi mk_109) hm.1 hm.2 (aAk _) (zW _) (zF (As := [.int p0, .int p1, .int r_4]) (rest := []) C0 hP hD hS (yS mk_109) hm.1 (aAl _) 2 3 rfl rfl (c_X3_isWithin l dC dI cI cC cZ cB cJ vI tJ jJ mY pG pD pE eO H.size p0 p1 r_4 dN bD bJ aI uU gF mX oE _ hp) q_316 q_416 q_317 q_318 q_48 h_X3_isWithin rfl rfl ⟨lbz rfl, lbz rfl⟩ rfl rfl hl.1 rfl (lv_room (lbz rfl)) aQy.2.2.2.2.2.2.2.2.2.2.1 ⟨Nat.zero_le _, Nat.zero_le _⟩) (fun r_5 u H locs hp hP hD hS => ?_)
        have hPD := PDm (ws' := (bCH cI cC cZ cB cJ a_x xI xH xB vI wY xX yA xY uD xO tJ jJ mY pG pD pE eO uS tX uR rY tY dN bD bJ aI uU gF pL mX oE dY jE eW eY dU fY gJ jG nU pQ qI sY uG pY nJ qY qU pN)) hP hD 14 rfl rfl rfl
        have hP := hPD.1
        have hD := hPD.2
        refine lv_if_ne (tgt := 61) hx hb aQy.2.2.2.2.2.2.2.2.2.2.2.1 (by decide) (fun hc => ?_) (fun hc => ?_)
        · have hp := hp.1 hc
          refine lv_aload_n hx hb aQy.2.2.2.2.2.2.2.2.2.2.2.2.2.2.1 rfl (lv_at hl 0 rfl) ?_
          refine va_get (D := (dC, dI)) (ci := 9) (v := .ref xB) (C := RX9) (T := TX9) (N := 9) hx hb hts aC3 hown hK hP 0 rfl rfl 2 (lbz rfl) (hts _ q_146) (fun _ h9 => h9) rfl aQy.2.2.2.2.2.2.2.2.2.2.2.2.2.2.2 ?_
          refine lv_iload_n hx hb eX9_seconds_65.1 rfl (lv_at hl 1 rfl) ?_
          refine lv_iload_n hx hb eX9_seconds_65.2.1 rfl (lv_at hl 2 rfl) ?_
          refine lv_iload_n hx hb eX9_seconds_65.2.2.1 rfl (lv_at hl 3 rfl) ?_
          refine lv_iconst (v := 0) hx hb eX9_seconds_65.2.2.2.1 aCi ?_
          have hm := mgk (wc := (aDu cI cC cZ cB cJ xB vI wY xO tJ jJ mY pG pD pE eO uS tX uR rY tY dN bD bJ aI uU gF pL mX oE jE eW eY dU fY gJ jG nU pQ qI sY uG pY nJ qY qU pN)) hP mk_110 14 rfl rfl rfl
          refine yW hP hD hS hA (yS mk_110) (aAi mk_110) hm.1 hm.2 (aAk _) (zW _) (zF (As := [.int p0, .int p1, .int p2, .int 0]) (rest := []) C0 hP hD hS (yS mk_110) hm.1 (aAl _) 1 0 rfl rfl (c_X0_pickSeconds l dC dI cI cC cZ cB cJ xB vI wY xO tJ jJ mY pG pD pE eO uS tX uR rY tY H.size p0 p1 p2 0 dN bD bJ aI uU gF pL mX oE jE eW eY dU fY gJ jG nU pQ qI sY uG pY nJ qY qU pN _ hp) q_325 q_418 q_326 q_327 q_187 h_X0_pickSeconds rfl rfl ⟨lbz rfl, lbz rfl⟩ rfl rfl hl.1 rfl (lv_room (lbz rfl)) eX9_seconds_65.2.2.2.2.1 ⟨Nat.zero_le _, Nat.zero_le _⟩) (fun r_6 u H locs hp hP hD hS => ?_)
          obtain ⟨ru_given_7, ru_stack_8⟩ := u
          have hPD := PDm (ws' := (bCH cI cC cZ cB cJ a_x xI xH xB vI wY xX yA xY uD xO tJ jJ mY pG pD pE eO uS tX uR rY tY dN bD bJ aI uU gF pL mX oE dY jE eW eY dU fY gJ jG nU pQ qI sY uG pY nJ ru_given_7 ru_stack_8 pN)) hP hD 14 rfl rfl rfl
          have hP := hPD.1
          have hD := hPD.2
          exact W.iret (v := r_6) hx hb hr (fun t ht hW => ⟨⟨r_6, (ru_given_7, ru_stack_8), rfl, hp, by rw [ht]; exact hP, va_K.moved hW.alike hK, hD⟩, hS.F ht⟩) hS.2.2 eX9_seconds_65.2.2.2.2.2
        · have hp := hp.2 hc
          refine lv_bipush (v := (-2)) hx hb aQy.2.2.2.2.2.2.2.2.2.2.2.2.1 bp_m2 ?_
          exact W.iret (v := (-2)) hx hb hr (fun t ht hW => ⟨⟨(-2), (qY, qU), rfl, hp, by rw [ht]; exact hP, va_K.moved hW.alike hK, hD⟩, hS.F ht⟩) hS.2.2 aQy.2.2.2.2.2.2.2.2.2.2.2.2.2.1
      · have hp := hp.2 hc
        refine lv_iconst (v := (-1)) hx hb aMz.2.2.2.2.2.2.2.2.2.2.2.2.2.1 aEJ ?_
        exact W.iret (v := (-1)) hx hb hr (fun t ht hW => ⟨⟨(-1), (qY, qU), rfl, hp, by rw [ht]; exact hP, va_K.moved hW.alike hK, hD⟩, hS.F ht⟩) hS.2.2 aMz.2.2.2.2.2.2.2.2.2.2.2.2.2.2.1
abbrev aHS (cI cC cZ cB cJ : ClassId) (vI tJ jJ mY pG pD pE eO : Nat) (dN bD bJ aI : Int32) : va_W := [(vI, .inr (3, [.ref tJ, .ref jJ, .ref mY, .ref pG, .ref pD, .ref pE, .ref eO, .int dN, .int bD, .int bJ, .int aI]))]
abbrev q_X3_allStandings (dC : Nat -> ClassId) (dI : Nat -> Nat -> Nat) (cI cC cZ cB cJ : ClassId) (A : Nat -> Prop) (vI tJ jJ mY pG pD pE eO : Nat) (dN bD bJ aI : Int32) (post : Int32 -> Prop) : Array Value -> State -> Outcome -> State -> Prop := va_Qi (fun (r : Int32) (u : Unit) => post r) (fun u t => gB (dC, dI) (tyl cI cC cZ cB cJ) A (aHS cI cC cZ cB cJ vI tJ jJ mY pG pD pE eO dN bD bJ aI) t) A
abbrev rm_X3_allStandings : Room := { frames := 0, cells := 0, slots := 0, locals := 0 }
def aHs (post : Int32 -> Prop) (bD : Int32) : Prop := ∀ v_1 : Int32, v_1 = 1 <<< (bD &&& 31) -> post (v_1 - 1)
set_option maxHeartbeats 4000000 in
set_option maxRecDepth 100000 in
theorem aLl (l : Launch) (dC : Nat -> ClassId) (dI : Nat -> Nat -> Nat) (cI cC cZ cB cJ : ClassId) (vI tJ jJ mY pG pD pE eO sz : Nat) (dN bD bJ aI : Int32) (post : Int32 -> Prop) (hw : aHs post bD) : Met l aUc (gw aUc bCR 1 (some .int)) rm_X3_allStandings (va_Pc [.ref vI] (gPre (dC, dI) (tyl cI cC cZ cB cJ) (aHS cI cC cZ cB cJ vI tJ jJ mY pG pD pE eO dN bD bJ aI) sz)) (q_X3_allStandings dC dI cI cC cZ cB cJ (va_A (aHS cI cC cZ cB cJ vI tJ jJ mY pG pD pE eO dN bD bJ aI) sz) vI tJ jJ mY pG pD pE eO dN bD bJ aI post) 0 0 (va_A (aHS cI cC cZ cB cJ vI tJ jJ mY pG pD pE eO dN bD bJ aI) sz) := by
  refine aBJ (own := RX3) (dC, dI) (tyl cI cC cZ cB cJ) (aHS cI cC cZ cB cJ vI tJ jJ mY pG pD pE eO dN bD bJ aI) sz [.ref vI] (fun A => q_X3_allStandings dC dI cI cC cZ cB cJ A vI tJ jJ mY pG pD pE eO dN bD bJ aI post) pn_RX3 rfl (lbz rfl) ?_
  intro p e s m args below meth c A H locs ls C0 hP hD hS hl
  have hl : lv_has ls 1 [(0, .ref vI)] := hl
  obtain ⟨hx, hb, hr, hml, hown, hts, hlocks, hA, hK, hN, tL, tM, hZL, hTL, hZM, hTM, hZX⟩ := id C0
  have hp := hw
  unfold aHs at hp
  refine lv_iconst (v := 1) hx hb eX3_allStandings_0.1 aDx ?_
  refine lv_aload_n hx hb eX3_allStandings_0.2.1 rfl (lv_at hl 0 rfl) ?_
  refine va_get (D := (dC, dI)) (ci := 3) (v := .int bD) (C := RX3) (T := TX3) (N := 11) hx hb hts i_X3 hown hK hP 0 rfl rfl 8 (lbz rfl) (hts _ q_22) (fun _ h9 => h9) rfl eX3_allStandings_0.2.2.1 ?_
  refine lv_ishl hx hb eX3_allStandings_0.2.2.2.1 ?_
  refine lv_topi (fun v_1 aFJ => ?_)
  have hp := hp v_1 aFJ
  refine lv_iconst (v := 1) hx hb eX3_allStandings_0.2.2.2.2.1 aDx ?_
  refine lv_isub hx hb eX3_allStandings_0.2.2.2.2.2.1 ?_
  exact W.iret (v := v_1 - 1) hx hb hr (fun t ht hW => ⟨⟨v_1 - 1, (), rfl, hp, by rw [ht]; exact hP, va_K.moved hW.alike hK, hD⟩, hS.F ht⟩) hS.2.2 eX3_allStandings_0.2.2.2.2.2.2
abbrev aHK (cI cC cZ cB cJ : ClassId) (xH xB vI uJ rW uQ uP uO tJ jJ mY pG pD pE eO : Nat) (oY rJ pX rO : Int32) (rD : Nat -> Int32) (dN bD bJ aI : Int32) : va_W := [(xH, .inr (5, [.ref xB, .ref vI, .ref uJ, .ref rW, .ref uQ, .ref uP, .ref uO, .int oY, .int rJ, .int pX, .int rO])), (uJ, .inl (cI, 8, .inl rD)), (vI, .inr (3, [.ref tJ, .ref jJ, .ref mY, .ref pG, .ref pD, .ref pE, .ref eO, .int dN, .int bD, .int bJ, .int aI]))]
abbrev q_X5_reachedBy (dC : Nat -> ClassId) (dI : Nat -> Nat -> Nat) (cI cC cZ cB cJ : ClassId) (A : Nat -> Prop) (xH xB vI uJ rW uQ uP uO tJ jJ mY pG pD pE eO : Nat) (oY rJ pX rO : Int32) (rD : Nat -> Int32) (dN bD bJ aI : Int32) (post : Int32 -> Prop) : Array Value -> State -> Outcome -> State -> Prop := va_Qi (fun (r : Int32) (u : Unit) => post r) (fun u t => gB (dC, dI) (tyl cI cC cZ cB cJ) A (aHK cI cC cZ cB cJ xH xB vI uJ rW uQ uP uO tJ jJ mY pG pD pE eO oY rJ pX rO rD dN bD bJ aI) t) A
abbrev rm_X5_reachedBy : Room := { frames := 0, cells := 0, slots := 0, locals := 0 }
section S_X5_reachedBy
variable {p : Program} {l : Launch} {e : Env} {s : State} {m : MethodId} {args : Array Value} {below : List Frame} {meth : Method} {c : Code} {dC : Nat -> ClassId} {dI : Nat -> Nat -> Nat} {cI cC cZ cB cJ : ClassId} {A : Nat -> Prop} {xH xB vI uJ rW uQ uP uO tJ jJ mY pG pD pE eO : Nat} {oY rJ pX rO : Int32} {rD : Nat -> Int32} {dN bD bJ aI : Int32} {post : Int32 -> Prop}
def ws_X5_reachedBy_32 (post : Int32 -> Prop) (K4 : Int32 -> Int32 -> Int32 -> Prop) (rD : Nat -> Int32) (bD x1 x2 x3 : Int32) : Prop := ∀ v_2 : Int32, v_2 = x3 + 1 -> K4 x1 x2 v_2
set_option maxHeartbeats 4000000 in
set_option maxRecDepth 100000 in
theorem ks_X5_reachedBy_32 (C0 : gc aGp (some .int) 4 RX5 (dC, dI) (tyl cI cC cZ cB cJ) A p s m args meth c) {K4 : Int32 -> Int32 -> Int32 -> Prop} (hK4 : ∀ (x1 : Int32) (x2 : Int32) (x3 : Int32) (H : Heap) (locs : List Loc) (ls : Array Slot), K4 x1 x2 x3 -> va_P (dC, dI) classes (aHK cI cC cZ cB cJ xH xB vI uJ rW uQ uP uO tJ jJ mY pG pD pE eO oY rJ pX rO rD dN bD bJ aI) H -> va_D A (aHK cI cC cZ cB cJ xH xB vI uJ rW uQ uP uO tJ jJ mY pG pD pE eO oY rJ pX rO rD dN bD bJ aI) -> va_S A s.heap H locs -> lv_has ls 4 [(0, .ref xH), (1, .int x1), (2, .int x2), (3, .int x3)] -> W p l e rm_X5_reachedBy s m args below meth c H locs 0 0 (MQ below (q_X5_reachedBy dC dI cI cC cZ cB cJ A xH xB vI uJ rW uQ uP uO tJ jJ mY pG pD pE eO oY rJ pX rO rD dN bD bJ aI post) args s 0 0 A) (F0 m 4 ls [])) : ∀ (x1 x2 x3 : Int32) (H : Heap) (locs : List Loc) (ls : Array Slot), (ws_X5_reachedBy_32 post K4 rD bD) x1 x2 x3 -> va_P (dC, dI) classes (aHK cI cC cZ cB cJ xH xB vI uJ rW uQ uP uO tJ jJ mY pG pD pE eO oY rJ pX rO rD dN bD bJ aI) H -> va_D A (aHK cI cC cZ cB cJ xH xB vI uJ rW uQ uP uO tJ jJ mY pG pD pE eO oY rJ pX rO rD dN bD bJ aI) -> va_S A s.heap H locs -> lv_has ls 4 [(0, .ref xH), (1, .int x1), (2, .int x2), (3, .int x3)] -> W p l e rm_X5_reachedBy s m args below meth c H locs 0 0 (MQ below (q_X5_reachedBy dC dI cI cC cZ cB cJ A xH xB vI uJ rW uQ uP uO tJ jJ mY pG pD pE eO oY rJ pX rO rD dN bD bJ aI post) args s 0 0 A) (F0 m 32 ls []) := by
  obtain ⟨hx, hb, hr, hml, hown, hts, hlocks, hA, hK, hN, tL, tM, hZL, hTL, hZM, hTM, hZX⟩ := id C0
  intro x1 x2 x3 H locs ls hp hP hD hS hl
  unfold ws_X5_reachedBy_32 at hp
  obtain ⟨v_2, aGO⟩ : ∃ y : Int32, y = x3 + 1 := ⟨_, rfl⟩
  refine lv_iinc (v := v_2) (lv' := [(3, .int v_2), (0, .ref xH), (1, .int x1), (2, .int x2)]) hx hb aZX.2.2.2.2.2.2.1 hl (k := 3) rfl (by rw [aGO]; rfl) (by decide) rfl (fun ls hl => ?_)
  have hp := hp v_2 aGO
  refine lv_goto (tgt := 4) hx hb aZX.2.2.2.2.2.2.2.1 (by decide) ?_
  exact hK4 x1 x2 v_2 H locs ls hp hP hD hS (lv_sub hl [1, 2, 3, 0] rfl)
def ws_X5_reachedBy_4 (post : Int32 -> Prop) (next : Int32 -> Int32 -> Int32 -> Prop) (rD : Nat -> Int32) (bD x1 x2 x3 : Int32) : Prop := (bD <= x3 -> post x2) /\ (¬ bD <= x3 -> ∀ v_1 : Int32, v_1 = x1 >>> (x3 &&& 31) -> ((v_1 &&& 1) = 0 -> ws_X5_reachedBy_32 post next rD bD x1 x2 x3) /\ (¬ (v_1 &&& 1) = 0 -> vp_in x3 8 /\ (∀ v_3 : Int32, v_3 = x2 ||| (rD x3.toNatClampNeg) -> ws_X5_reachedBy_32 post next rD bD x1 v_3 x3)))
noncomputable def wb_X5_reachedBy_4 (post : Int32 -> Prop) (rD : Nat -> Int32) (bD : Int32) : Nat -> Int32 -> Int32 -> Int32 -> Prop := fun n => Nat.rec (motive := fun _ => Int32 -> Int32 -> Int32 -> Prop) (fun _ _ _ => False) (fun _ ih => ws_X5_reachedBy_4 post ih rD bD) n
set_option maxHeartbeats 4000000 in
set_option maxRecDepth 100000 in
theorem ks_X5_reachedBy_4 (C0 : gc aGp (some .int) 4 RX5 (dC, dI) (tyl cI cC cZ cB cJ) A p s m args meth c) {next : Int32 -> Int32 -> Int32 -> Prop} (hKn : ∀ (x1 : Int32) (x2 : Int32) (x3 : Int32) (H : Heap) (locs : List Loc) (ls : Array Slot), next x1 x2 x3 -> va_P (dC, dI) classes (aHK cI cC cZ cB cJ xH xB vI uJ rW uQ uP uO tJ jJ mY pG pD pE eO oY rJ pX rO rD dN bD bJ aI) H -> va_D A (aHK cI cC cZ cB cJ xH xB vI uJ rW uQ uP uO tJ jJ mY pG pD pE eO oY rJ pX rO rD dN bD bJ aI) -> va_S A s.heap H locs -> lv_has ls 4 [(0, .ref xH), (1, .int x1), (2, .int x2), (3, .int x3)] -> W p l e rm_X5_reachedBy s m args below meth c H locs 0 0 (MQ below (q_X5_reachedBy dC dI cI cC cZ cB cJ A xH xB vI uJ rW uQ uP uO tJ jJ mY pG pD pE eO oY rJ pX rO rD dN bD bJ aI post) args s 0 0 A) (F0 m 4 ls [])) : ∀ (x1 x2 x3 : Int32) (H : Heap) (locs : List Loc) (ls : Array Slot), (ws_X5_reachedBy_4 post next rD bD) x1 x2 x3 -> va_P (dC, dI) classes (aHK cI cC cZ cB cJ xH xB vI uJ rW uQ uP uO tJ jJ mY pG pD pE eO oY rJ pX rO rD dN bD bJ aI) H -> va_D A (aHK cI cC cZ cB cJ xH xB vI uJ rW uQ uP uO tJ jJ mY pG pD pE eO oY rJ pX rO rD dN bD bJ aI) -> va_S A s.heap H locs -> lv_has ls 4 [(0, .ref xH), (1, .int x1), (2, .int x2), (3, .int x3)] -> W p l e rm_X5_reachedBy s m args below meth c H locs 0 0 (MQ below (q_X5_reachedBy dC dI cI cC cZ cB cJ A xH xB vI uJ rW uQ uP uO tJ jJ mY pG pD pE eO oY rJ pX rO rD dN bD bJ aI post) args s 0 0 A) (F0 m 4 ls []) := by
  obtain ⟨hx, hb, hr, hml, hown, hts, hlocks, hA, hK, hN, tL, tM, hZL, hTL, hZM, hTM, hZX⟩ := id C0
  intro x1 x2 x3 H locs ls hp hP hD hS hl
  unfold ws_X5_reachedBy_4 at hp
  refine lv_iload_n hx hb aOS.2.2.2.2.1 rfl (lv_at hl 3 rfl) ?_
  refine lv_aload_n hx hb aOS.2.2.2.2.2.1 rfl (lv_at hl 0 rfl) ?_
  refine va_get (D := (dC, dI)) (ci := 5) (v := .ref vI) (C := RX5) (T := TX5) (N := 11) hx hb hts i_X5 hown hK hP 0 rfl rfl 1 (lbz rfl) (hts _ q_419) (fun _ h9 => h9) rfl aOS.2.2.2.2.2.2.1 ?_
  refine va_get (D := (dC, dI)) (ci := 3) (v := .int bD) (C := RX3) (T := TX3) (N := 11) hx hb hts i_X3 hown hK hP 2 rfl rfl 8 (lbz rfl) (hts _ q_420) (fun _ h9 => h9) rfl aOS.2.2.2.2.2.2.2.1 ?_
  refine lv_icmp_ge (tgt := 38) hx hb aOS.2.2.2.2.2.2.2.2.1 (by decide) (fun hc => ?_) (fun hc => ?_)
  · have hp := hp.1 hc
    refine lv_iload_n hx hb aZX.2.2.2.2.2.2.2.2.1 rfl (lv_at hl 2 rfl) ?_
    exact W.iret (v := x2) hx hb hr (fun t ht hW => ⟨⟨x2, (), rfl, hp, by rw [ht]; exact hP, va_K.moved hW.alike hK, hD⟩, hS.F ht⟩) hS.2.2 aZX.2.2.2.2.2.2.2.2.2
  · have hp := hp.2 hc
    refine lv_iload_n hx hb aOS.2.2.2.2.2.2.2.2.2.1 rfl (lv_at hl 1 rfl) ?_
    refine lv_iload_n hx hb aOS.2.2.2.2.2.2.2.2.2.2.1 rfl (lv_at hl 3 rfl) ?_
    refine lv_ishr hx hb aOS.2.2.2.2.2.2.2.2.2.2.2.1 ?_
    refine lv_topi (fun v_1 aFJ => ?_)
    have hp := hp v_1 aFJ
    refine lv_iconst (v := 1) hx hb aOS.2.2.2.2.2.2.2.2.2.2.2.2.1 aDx ?_
    refine lv_iand hx hb aOS.2.2.2.2.2.2.2.2.2.2.2.2.2.1 ?_
    refine lv_if_eq (tgt := 32) hx hb aOS.2.2.2.2.2.2.2.2.2.2.2.2.2.2.1 (by decide) (fun hc => ?_) (fun hc => ?_)
    · have hp := hp.1 hc
      exact ks_X5_reachedBy_32 C0 hKn x1 x2 x3 H locs ls hp hP hD hS (lv_sub hl [0, 1, 2, 3] rfl)
    · have hp := hp.2 hc
      refine lv_iload_n hx hb aOS.2.2.2.2.2.2.2.2.2.2.2.2.2.2.2 rfl (lv_at hl 2 rfl) ?_
      refine lv_aload_n hx hb aZX.1 rfl (lv_at hl 0 rfl) ?_
      refine va_get (D := (dC, dI)) (ci := 5) (v := .ref uJ) (C := RX5) (T := TX5) (N := 11) hx hb hts i_X5 hown hK hP 0 rfl rfl 2 (lbz rfl) (hts _ q_421) (fun _ h9 => h9) rfl aZX.2.1 ?_
      refine lv_iload_n hx hb aZX.2.2.1 rfl (lv_at hl 3 rfl) ?_
      have hin := hp.1
      have hp := hp.2
      refine va_iald hx hb hK hP 1 0 rfl rfl hin aZX.2.2.2.1 ?_
      refine lv_ior hx hb aZX.2.2.2.2.1 ?_
      refine lv_topi (fun v_3 aGW => ?_)
      have hp := hp v_3 aGW
      refine lv_istore_n (lv' := [(2, .int v_3), (0, .ref xH), (1, .int x1), (3, .int x3)]) hx hb aZX.2.2.2.2.2.1 rfl hl (by decide) rfl (fun ls hl => ?_)
      exact ks_X5_reachedBy_32 C0 hKn x1 v_3 x3 H locs ls hp hP hD hS (lv_sub hl [1, 2, 0, 3] rfl)
set_option maxHeartbeats 4000000 in
set_option maxRecDepth 100000 in
theorem kb_X5_reachedBy_4 (C0 : gc aGp (some .int) 4 RX5 (dC, dI) (tyl cI cC cZ cB cJ) A p s m args meth c) : ∀ (n : Nat), ∀ (x1 x2 x3 : Int32) (H : Heap) (locs : List Loc) (ls : Array Slot), (wb_X5_reachedBy_4 post rD bD n) x1 x2 x3 -> va_P (dC, dI) classes (aHK cI cC cZ cB cJ xH xB vI uJ rW uQ uP uO tJ jJ mY pG pD pE eO oY rJ pX rO rD dN bD bJ aI) H -> va_D A (aHK cI cC cZ cB cJ xH xB vI uJ rW uQ uP uO tJ jJ mY pG pD pE eO oY rJ pX rO rD dN bD bJ aI) -> va_S A s.heap H locs -> lv_has ls 4 [(0, .ref xH), (1, .int x1), (2, .int x2), (3, .int x3)] -> W p l e rm_X5_reachedBy s m args below meth c H locs 0 0 (MQ below (q_X5_reachedBy dC dI cI cC cZ cB cJ A xH xB vI uJ rW uQ uP uO tJ jJ mY pG pD pE eO oY rJ pX rO rD dN bD bJ aI post) args s 0 0 A) (F0 m 4 ls []) := by
  intro n
  induction n with
  | zero =>
    intro x1 x2 x3 H locs ls hp
    exact False.elim hp
  | succ n ih =>
    intro x1 x2 x3 H locs ls hp
    exact ks_X5_reachedBy_4 C0 ih x1 x2 x3 H locs ls hp
end S_X5_reachedBy
def aPV (post : Int32 -> Prop) (p0 : Int32) (rD : Nat -> Int32) (bD : Int32) : Prop := ∃ n : Nat, wb_X5_reachedBy_4 post rD bD n p0 0 0
set_option maxHeartbeats 4000000 in
set_option maxRecDepth 100000 in
theorem c_X5_reachedBy (l : Launch) (dC : Nat -> ClassId) (dI : Nat -> Nat -> Nat) (cI cC cZ cB cJ : ClassId) (xH xB vI uJ rW uQ uP uO tJ jJ mY pG pD pE eO sz : Nat) (p0 oY rJ pX rO : Int32) (rD : Nat -> Int32) (dN bD bJ aI : Int32) (post : Int32 -> Prop) (hw : aPV post p0 rD bD) : Met l yX5_reachedBy (gw yX5_reachedBy aGp 4 (some .int)) rm_X5_reachedBy (va_Pc [.ref xH, .int p0] (gPre (dC, dI) (tyl cI cC cZ cB cJ) (aHK cI cC cZ cB cJ xH xB vI uJ rW uQ uP uO tJ jJ mY pG pD pE eO oY rJ pX rO rD dN bD bJ aI) sz)) (q_X5_reachedBy dC dI cI cC cZ cB cJ (va_A (aHK cI cC cZ cB cJ xH xB vI uJ rW uQ uP uO tJ jJ mY pG pD pE eO oY rJ pX rO rD dN bD bJ aI) sz) xH xB vI uJ rW uQ uP uO tJ jJ mY pG pD pE eO oY rJ pX rO rD dN bD bJ aI post) 0 0 (va_A (aHK cI cC cZ cB cJ xH xB vI uJ rW uQ uP uO tJ jJ mY pG pD pE eO oY rJ pX rO rD dN bD bJ aI) sz) := by
  refine aBJ (own := RX5) (dC, dI) (tyl cI cC cZ cB cJ) (aHK cI cC cZ cB cJ xH xB vI uJ rW uQ uP uO tJ jJ mY pG pD pE eO oY rJ pX rO rD dN bD bJ aI) sz [.ref xH, .int p0] (fun A => q_X5_reachedBy dC dI cI cC cZ cB cJ A xH xB vI uJ rW uQ uP uO tJ jJ mY pG pD pE eO oY rJ pX rO rD dN bD bJ aI post) pn_RX5 rfl (lbz rfl) ?_
  intro p e s m args below meth c A H locs ls C0 hP hD hS hl
  have hl : lv_has ls 4 [(0, .ref xH), (1, .int p0)] := hl
  obtain ⟨hx, hb, hr, hml, hown, hts, hlocks, hA, hK, hN, tL, tM, hZL, hTL, hZM, hTM, hZX⟩ := id C0
  have hp := hw
  unfold aPV at hp
  refine lv_iconst (v := 0) hx hb aOS.1 aCi ?_
  refine lv_istore_n (lv' := [(2, .int 0), (0, .ref xH), (1, .int p0)]) hx hb aOS.2.1 rfl hl (by decide) rfl (fun ls hl => ?_)
  refine lv_iconst (v := 0) hx hb aOS.2.2.1 aCi ?_
  refine lv_istore_n (lv' := [(3, .int 0), (2, .int 0), (0, .ref xH), (1, .int p0)]) hx hb aOS.2.2.2.1 rfl hl (by decide) rfl (fun ls hl => ?_)
  obtain ⟨n9, hp⟩ := hp
  exact kb_X5_reachedBy_4 C0 n9 p0 0 0 H locs ls hp hP hD hS (lv_sub hl [2, 3, 1, 0] rfl)
abbrev aKU (cI cC cZ cB cJ : ClassId) (xH xB vI uJ rW uQ uP uO wY xO tJ jJ mY pG pD pE eO : Nat) (oY rJ pX rO : Int32) (rD : Nat -> Int32) (dN bD bJ aI : Int32) (uU gF qF mX oE dY : Nat -> Int32) (jE eW eY dU fY gJ jG nU : Int32) : va_W := [(xH, .inr (5, [.ref xB, .ref vI, .ref uJ, .ref rW, .ref uQ, .ref uP, .ref uO, .int oY, .int rJ, .int pX, .int rO])), (uJ, .inl (cI, 8, .inl rD)), (xB, .inr (0, [.ref vI, .ref wY, .ref xO])), (vI, .inr (3, [.ref tJ, .ref jJ, .ref mY, .ref pG, .ref pD, .ref pE, .ref eO, .int dN, .int bD, .int bJ, .int aI])), (tJ, .inl (cI, 16, .inl uU)), (jJ, .inl (cI, 16, .inl gF)), (pG, .inl (cI, 16, .inl qF)), (pD, .inl (cI, 8, .inl mX)), (pE, .inl (cI, 8, .inl oE)), (eO, .inl (cI, 5, .inl dY)), (wY, .inr (2, [.int jE, .int eW, .int eY, .int dU, .int fY, .int gJ, .int jG, .int nU]))]
abbrev q_X5_lookAs (dC : Nat -> ClassId) (dI : Nat -> Nat -> Nat) (cI cC cZ cB cJ : ClassId) (A : Nat -> Prop) (xH xB vI uJ rW uQ uP uO wY xO tJ jJ mY pG pD pE eO : Nat) (rJ pX rO dN bD bJ aI : Int32) (uU gF qF mX oE dY : Nat -> Int32) (jE eW eY dU fY gJ jG nU : Int32) (post : Int32 -> (Nat -> Int32) -> Prop) : Array Value -> State -> Outcome -> State -> Prop := va_Qv (fun (u : Int32 × (Nat -> Int32)) => post u.1 u.2) (fun u t => gB (dC, dI) (tyl cI cC cZ cB cJ) A (aKU cI cC cZ cB cJ xH xB vI uJ rW uQ uP uO wY xO tJ jJ mY pG pD pE eO u.1 rJ pX rO u.2 dN bD bJ aI uU gF qF mX oE dY jE eW eY dU fY gJ jG nU) t) A
abbrev rm_X5_lookAs : Room := { frames := 3, cells := 0, slots := 0, locals := 71 }
section S_X5_lookAs
variable {p : Program} {l : Launch} {e : Env} {s : State} {m : MethodId} {args : Array Value} {below : List Frame} {meth : Method} {c : Code} {dC : Nat -> ClassId} {dI : Nat -> Nat -> Nat} {cI cC cZ cB cJ : ClassId} {A : Nat -> Prop} {xH xB vI uJ rW uQ uP uO wY xO tJ jJ mY pG pD pE eO : Nat} {rJ pX rO dN bD bJ aI : Int32} {uU gF qF mX oE dY : Nat -> Int32} {jE eW eY dU fY gJ jG nU : Int32} {post : Int32 -> (Nat -> Int32) -> Prop}
def ws_X5_lookAs_13 (post : Int32 -> (Nat -> Int32) -> Prop) (next : Int32 -> Int32 -> Int32 -> Int32 -> (Nat -> Int32) -> Prop) (dN bD : Int32) (uU gF qF mX oE dY : Nat -> Int32) (jE eW eY x2 x3 x4 oY : Int32) (rD : Nat -> Int32) : Prop := (bD <= x4 -> aOu (fun r_2 => aZj (fun r_3 => ∀ v_4 : Int32, v_4 = r_2 &&& r_3 -> aHs (fun r_5 => aPV (fun r_6 => ∀ v_7 : Int32, v_7 = v_4 &&& r_6 -> post v_7 rD) r_5 rD bD) bD) x2 dN qF) dN jE eW eY) /\ (¬ bD <= x4 -> bBS (fun r_8 => vp_in x4 8 /\ (∀ v_9 : Int32, v_9 = x4 + 1 -> next x2 x3 v_9 oY (upd rD x4.toNatClampNeg r_8))) x4 x3 dN uU gF mX oE)
noncomputable def wb_X5_lookAs_13 (post : Int32 -> (Nat -> Int32) -> Prop) (dN bD : Int32) (uU gF qF mX oE dY : Nat -> Int32) (jE eW eY : Int32) : Nat -> Int32 -> Int32 -> Int32 -> Int32 -> (Nat -> Int32) -> Prop := fun n => Nat.rec (motive := fun _ => Int32 -> Int32 -> Int32 -> Int32 -> (Nat -> Int32) -> Prop) (fun _ _ _ _ _ => False) (fun _ ih => ws_X5_lookAs_13 post ih dN bD uU gF qF mX oE dY jE eW eY) n
set_option maxHeartbeats 4000000 in
set_option maxRecDepth 100000 in
theorem ks_X5_lookAs_13 (C0 : gc aGV none 5 RX5 (dC, dI) (tyl cI cC cZ cB cJ) A p s m args meth c) {next : Int32 -> Int32 -> Int32 -> Int32 -> (Nat -> Int32) -> Prop} (hKn : ∀ (x2 : Int32) (x3 : Int32) (x4 : Int32) (oY : Int32) (rD : Nat -> Int32) (H : Heap) (locs : List Loc) (ls : Array Slot), next x2 x3 x4 oY rD -> va_P (dC, dI) classes (aKU cI cC cZ cB cJ xH xB vI uJ rW uQ uP uO wY xO tJ jJ mY pG pD pE eO oY rJ pX rO rD dN bD bJ aI uU gF qF mX oE dY jE eW eY dU fY gJ jG nU) H -> va_D A (aKU cI cC cZ cB cJ xH xB vI uJ rW uQ uP uO wY xO tJ jJ mY pG pD pE eO oY rJ pX rO rD dN bD bJ aI uU gF qF mX oE dY jE eW eY dU fY gJ jG nU) -> va_S A s.heap H locs -> lv_has ls 5 [(0, .ref xH), (2, .int x2), (3, .int x3), (4, .int x4)] -> W p l e rm_X5_lookAs s m args below meth c H locs 0 0 (MQ below (q_X5_lookAs dC dI cI cC cZ cB cJ A xH xB vI uJ rW uQ uP uO wY xO tJ jJ mY pG pD pE eO rJ pX rO dN bD bJ aI uU gF qF mX oE dY jE eW eY dU fY gJ jG nU post) args s 0 0 A) (F0 m 13 ls [])) : ∀ (x2 x3 x4 oY : Int32) (rD : Nat -> Int32) (H : Heap) (locs : List Loc) (ls : Array Slot), (ws_X5_lookAs_13 post next dN bD uU gF qF mX oE dY jE eW eY) x2 x3 x4 oY rD -> va_P (dC, dI) classes (aKU cI cC cZ cB cJ xH xB vI uJ rW uQ uP uO wY xO tJ jJ mY pG pD pE eO oY rJ pX rO rD dN bD bJ aI uU gF qF mX oE dY jE eW eY dU fY gJ jG nU) H -> va_D A (aKU cI cC cZ cB cJ xH xB vI uJ rW uQ uP uO wY xO tJ jJ mY pG pD pE eO oY rJ pX rO rD dN bD bJ aI uU gF qF mX oE dY jE eW eY dU fY gJ jG nU) -> va_S A s.heap H locs -> lv_has ls 5 [(0, .ref xH), (2, .int x2), (3, .int x3), (4, .int x4)] -> W p l e rm_X5_lookAs s m args below meth c H locs 0 0 (MQ below (q_X5_lookAs dC dI cI cC cZ cB cJ A xH xB vI uJ rW uQ uP uO wY xO tJ jJ mY pG pD pE eO rJ pX rO dN bD bJ aI uU gF qF mX oE dY jE eW eY dU fY gJ jG nU post) args s 0 0 A) (F0 m 13 ls []) := by
  obtain ⟨hx, hb, hr, hml, hown, hts, hlocks, hA, hK, hN, tL, tM, hZL, hTL, hZM, hTM, hZX⟩ := id C0
  intro x2 x3 x4 oY rD H locs ls hp hP hD hS hl
  unfold ws_X5_lookAs_13 at hp
  refine lv_iload hx hb aWf.2.2.2.2.2.2.2.2.1 (lv_at hl 3 rfl) ?_
  refine lv_aload_n hx hb aWf.2.2.2.2.2.2.2.2.2.1 rfl (lv_at hl 0 rfl) ?_
  refine va_get (D := (dC, dI)) (ci := 5) (v := .ref vI) (C := RX5) (T := TX5) (N := 11) hx hb hts i_X5 hown hK hP 0 rfl rfl 1 (lbz rfl) (hts _ q_419) (fun _ h9 => h9) rfl aWf.2.2.2.2.2.2.2.2.2.2.1 ?_
  refine va_get (D := (dC, dI)) (ci := 3) (v := .int bD) (C := RX3) (T := TX3) (N := 11) hx hb hts i_X3 hown hK hP 3 rfl rfl 8 (lbz rfl) (hts _ q_420) (fun _ h9 => h9) rfl aWf.2.2.2.2.2.2.2.2.2.2.2.1 ?_
  refine lv_icmp_ge (tgt := 48) hx hb aWf.2.2.2.2.2.2.2.2.2.2.2.2.1 (by decide) (fun hc => ?_) (fun hc => ?_)
  · have hp := hp.1 hc
    refine lv_aload_n hx hb aTb.2.2.2.2.2.2.2.2.1 rfl (lv_at hl 0 rfl) ?_
    refine lv_aload_n hx hb aTb.2.2.2.2.2.2.2.2.2.1 rfl (lv_at hl 0 rfl) ?_
    refine va_get (D := (dC, dI)) (ci := 5) (v := .ref xB) (C := RX5) (T := TX5) (N := 11) hx hb hts i_X5 hown hK hP 0 rfl rfl 0 (lbz rfl) (hts _ q_423) (fun _ h9 => h9) rfl aTb.2.2.2.2.2.2.2.2.2.2.1 ?_
    have hm := mgk (wc := (aOf cI cC cZ cB cJ xB vI wY xO tJ jJ mY pG pD pE eO dN bD bJ aI jE eW eY dU fY gJ jG nU)) hP mk_111 11 rfl rfl rfl
    refine yW hP hD hS hA (yS mk_111) (aAi mk_111) hm.1 hm.2 (aAk _) (zW _) (zF (As := []) (rest := [.ref xH]) C0 hP hD hS (yS mk_111) hm.1 (aAl _) 2 0 rfl rfl (c_X0_hanging l dC dI cI cC cZ cB cJ xB vI wY xO tJ jJ mY pG pD pE eO H.size dN bD bJ aI jE eW eY dU fY gJ jG nU _ hp) q_186 q_424 q_188 q_189 q_187 h_X0_hanging rfl rfl ⟨lbz rfl, lbz rfl⟩ rfl rfl hl.1 rfl (lv_room (lbz rfl)) aTb.2.2.2.2.2.2.2.2.2.2.2.1 ⟨Nat.zero_le _, Nat.zero_le _⟩) (fun r_2 u H locs hp hP hD hS => ?_)
    have hPD := PDm (ws' := (aKU cI cC cZ cB cJ xH xB vI uJ rW uQ uP uO wY xO tJ jJ mY pG pD pE eO oY rJ pX rO rD dN bD bJ aI uU gF qF mX oE dY jE eW eY dU fY gJ jG nU)) hP hD 11 rfl rfl rfl
    have hP := hPD.1
    have hD := hPD.2
    refine lv_aload_n hx hb aTb.2.2.2.2.2.2.2.2.2.2.2.2.1 rfl (lv_at hl 0 rfl) ?_
    refine va_get (D := (dC, dI)) (ci := 5) (v := .ref vI) (C := RX5) (T := TX5) (N := 11) hx hb hts i_X5 hown hK hP 0 rfl rfl 1 (lbz rfl) (hts _ q_419) (fun _ h9 => h9) rfl aTb.2.2.2.2.2.2.2.2.2.2.2.2.2.1 ?_
    refine lv_iload_n hx hb aTb.2.2.2.2.2.2.2.2.2.2.2.2.2.2.1 rfl (lv_at hl 1 rfl) ?_
    have hm := mgk (wc := (aLw cI cC cZ cB cJ vI tJ jJ mY pG pD pE eO dN bD bJ aI qF)) hP mk_112 11 rfl rfl rfl
    refine yW hP hD hS hA (yS mk_112) (aAi mk_112) hm.1 hm.2 (aAk _) (zW _) (zF (As := [.int x2]) (rest := [.int r_2, .ref xH]) C0 hP hD hS (yS mk_112) hm.1 (aAl _) 3 3 rfl rfl (c_X3_ripeBy l dC dI cI cC cZ cB cJ vI tJ jJ mY pG pD pE eO H.size x2 dN bD bJ aI qF _ hp) q_343 q_425 q_344 q_345 q_48 h_X3_ripeBy rfl rfl ⟨lbz rfl, lbz rfl⟩ rfl rfl hl.1 rfl (lv_room (lbz rfl)) aTb.2.2.2.2.2.2.2.2.2.2.2.2.2.2.2 ⟨Nat.zero_le _, Nat.zero_le _⟩) (fun r_3 u H locs hp hP hD hS => ?_)
    have hPD := PDm (ws' := (aKU cI cC cZ cB cJ xH xB vI uJ rW uQ uP uO wY xO tJ jJ mY pG pD pE eO oY rJ pX rO rD dN bD bJ aI uU gF qF mX oE dY jE eW eY dU fY gJ jG nU)) hP hD 11 rfl rfl rfl
    have hP := hPD.1
    have hD := hPD.2
    refine lv_iand hx hb eX5_lookAs_64.1 ?_
    refine lv_topi (fun v_4 aHM => ?_)
    have hp := hp v_4 aHM
    refine lv_aload_n hx hb eX5_lookAs_64.2.1 rfl (lv_at hl 0 rfl) ?_
    refine lv_aload_n hx hb eX5_lookAs_64.2.2.1 rfl (lv_at hl 0 rfl) ?_
    refine va_get (D := (dC, dI)) (ci := 5) (v := .ref vI) (C := RX5) (T := TX5) (N := 11) hx hb hts i_X5 hown hK hP 0 rfl rfl 1 (lbz rfl) (hts _ q_419) (fun _ h9 => h9) rfl eX5_lookAs_64.2.2.2.1 ?_
    have hm := mgk (wc := (aHS cI cC cZ cB cJ vI tJ jJ mY pG pD pE eO dN bD bJ aI)) hP mk_113 11 rfl rfl rfl
    refine yW hP hD hS hA (yS mk_113) (aAi mk_113) hm.1 hm.2 (aAk _) (zW _) (zF (As := []) (rest := [.ref xH, .int v_4, .ref xH]) C0 hP hD hS (yS mk_113) hm.1 (aAl _) 3 3 rfl rfl (aLl l dC dI cI cC cZ cB cJ vI tJ jJ mY pG pD pE eO H.size dN bD bJ aI _ hp) q_426 q_429 q_427 q_428 q_48 aLo rfl rfl ⟨lbz rfl, lbz rfl⟩ rfl rfl hl.1 rfl (lv_room (lbz rfl)) eX5_lookAs_64.2.2.2.2.1 ⟨Nat.zero_le _, Nat.zero_le _⟩) (fun r_5 u H locs hp hP hD hS => ?_)
    have hPD := PDm (ws' := (aKU cI cC cZ cB cJ xH xB vI uJ rW uQ uP uO wY xO tJ jJ mY pG pD pE eO oY rJ pX rO rD dN bD bJ aI uU gF qF mX oE dY jE eW eY dU fY gJ jG nU)) hP hD 11 rfl rfl rfl
    have hP := hPD.1
    have hD := hPD.2
    have hm := mgk (wc := (aHK cI cC cZ cB cJ xH xB vI uJ rW uQ uP uO tJ jJ mY pG pD pE eO oY rJ pX rO rD dN bD bJ aI)) hP mk_114 11 rfl rfl rfl
    refine yW hP hD hS hA (yS mk_114) (aAi mk_114) hm.1 hm.2 (aAk _) (zW _) (zF (As := [.int r_5]) (rest := [.int v_4, .ref xH]) C0 hP hD hS (yS mk_114) hm.1 (aAl _) 0 5 rfl rfl (c_X5_reachedBy l dC dI cI cC cZ cB cJ xH xB vI uJ rW uQ uP uO tJ jJ mY pG pD pE eO H.size r_5 oY rJ pX rO rD dN bD bJ aI _ hp) q_430 q_434 q_432 q_433 aRn h_X5_reachedBy rfl rfl ⟨lbz rfl, lbz rfl⟩ rfl rfl hl.1 rfl (lv_room (lbz rfl)) eX5_lookAs_64.2.2.2.2.2.1 ⟨Nat.zero_le _, Nat.zero_le _⟩) (fun r_6 u H locs hp hP hD hS => ?_)
    have hPD := PDm (ws' := (aKU cI cC cZ cB cJ xH xB vI uJ rW uQ uP uO wY xO tJ jJ mY pG pD pE eO oY rJ pX rO rD dN bD bJ aI uU gF qF mX oE dY jE eW eY dU fY gJ jG nU)) hP hD 11 rfl rfl rfl
    have hP := hPD.1
    have hD := hPD.2
    refine lv_iand hx hb eX5_lookAs_64.2.2.2.2.2.2.1 ?_
    refine lv_topi (fun v_7 ev_7 => ?_)
    have hp := hp v_7 ev_7
    refine va_put (D := (dC, dI)) (ci := 5) (v := .int v_7) (ty := .int) (C := RX5) (T := TX5) (N := 11) hx hb hts i_X5 tyX5 tyX5_ok nmX5 hown hK hP hD hS 0 rfl rfl 7 (lbz rfl) (hts _ q_435) (fun _ h9 => h9) rfl (tyX5_ok 7 (lbz rfl)) rfl rfl (lbz rfl) eX5_lookAs_64.2.2.2.2.2.2.2.1 (fun H locs hP hD hS => ?_)
    have hPD := PDw (ws' := (aKU cI cC cZ cB cJ xH xB vI uJ rW uQ uP uO wY xO tJ jJ mY pG pD pE eO v_7 rJ pX rO rD dN bD bJ aI uU gF qF mX oE dY jE eW eY dU fY gJ jG nU)) hP hD rfl
    have hP := hPD.1
    have hD := hPD.2
    exact W.vret hx hb hr (fun t ht hW => ⟨⟨(v_7, rD), rfl, hp, by rw [ht]; exact hP, va_K.moved hW.alike hK, hD⟩, hS.F ht⟩) hS.2.2 eX5_lookAs_64.2.2.2.2.2.2.2.2
  · have hp := hp.2 hc
    refine lv_aload_n hx hb aWf.2.2.2.2.2.2.2.2.2.2.2.2.2.1 rfl (lv_at hl 0 rfl) ?_
    refine va_get (D := (dC, dI)) (ci := 5) (v := .ref uJ) (C := RX5) (T := TX5) (N := 11) hx hb hts i_X5 hown hK hP 0 rfl rfl 2 (lbz rfl) (hts _ q_421) (fun _ h9 => h9) rfl aWf.2.2.2.2.2.2.2.2.2.2.2.2.2.2.1 ?_
    refine lv_iload hx hb aWf.2.2.2.2.2.2.2.2.2.2.2.2.2.2.2 (lv_at hl 3 rfl) ?_
    refine lv_aload_n hx hb aTb.1 rfl (lv_at hl 0 rfl) ?_
    refine va_get (D := (dC, dI)) (ci := 5) (v := .ref vI) (C := RX5) (T := TX5) (N := 11) hx hb hts i_X5 hown hK hP 0 rfl rfl 1 (lbz rfl) (hts _ q_419) (fun _ h9 => h9) rfl aTb.2.1 ?_
    refine lv_iload hx hb aTb.2.2.1 (lv_at hl 3 rfl) ?_
    refine lv_iload_n hx hb aTb.2.2.2.1 rfl (lv_at hl 2 rfl) ?_
    have hm := mgk (wc := (aLx cI cC cZ cB cJ vI tJ jJ mY pG pD pE eO dN bD bJ aI uU gF mX oE)) hP mk_115 11 rfl rfl rfl
    refine yW hP hD hS hA (yS mk_115) (aAi mk_115) hm.1 hm.2 (aAk _) (zW _) (zF (As := [.int x4, .int x3]) (rest := [.int x4, .ref uJ]) C0 hP hD hS (yS mk_115) hm.1 (aAl _) 3 3 rfl rfl (c_X3_within l dC dI cI cC cZ cB cJ vI tJ jJ mY pG pD pE eO H.size x4 x3 dN bD bJ aI uU gF mX oE _ hp) q_339 q_436 q_340 q_341 q_48 h_X3_within rfl rfl ⟨lbz rfl, lbz rfl⟩ rfl rfl hl.1 rfl (lv_room (lbz rfl)) aTb.2.2.2.2.1 ⟨Nat.zero_le _, Nat.zero_le _⟩) (fun r_8 u H locs hp hP hD hS => ?_)
    have hPD := PDm (ws' := (aKU cI cC cZ cB cJ xH xB vI uJ rW uQ uP uO wY xO tJ jJ mY pG pD pE eO oY rJ pX rO rD dN bD bJ aI uU gF qF mX oE dY jE eW eY dU fY gJ jG nU)) hP hD 11 rfl rfl rfl
    have hP := hPD.1
    have hD := hPD.2
    have hin := hp.1
    have hp := hp.2
    refine va_iast hx hb hK hP hD hS 1 0 rfl rfl hin aTb.2.2.2.2.2.1 (fun H locs hP hD hS => ?_)
    have hPD := PDw (ws' := (aKU cI cC cZ cB cJ xH xB vI uJ rW uQ uP uO wY xO tJ jJ mY pG pD pE eO oY rJ pX rO (upd rD x4.toNatClampNeg r_8) dN bD bJ aI uU gF qF mX oE dY jE eW eY dU fY gJ jG nU)) hP hD rfl
    have hP := hPD.1
    have hD := hPD.2
    obtain ⟨v_9, ev_9⟩ : ∃ y : Int32, y = x4 + 1 := ⟨_, rfl⟩
    refine lv_iinc (v := v_9) (lv' := [(4, .int v_9), (0, .ref xH), (2, .int x2), (3, .int x3)]) hx hb aTb.2.2.2.2.2.2.1 hl (k := 3) rfl (by rw [ev_9]; rfl) (by decide) rfl (fun ls hl => ?_)
    have hp := hp v_9 ev_9
    refine lv_goto (tgt := 13) hx hb aTb.2.2.2.2.2.2.2.1 (by decide) ?_
    exact hKn x2 x3 v_9 oY (upd rD x4.toNatClampNeg r_8) H locs ls hp hP hD hS (lv_sub hl [1, 2, 3, 0] rfl)
set_option maxHeartbeats 4000000 in
set_option maxRecDepth 100000 in
theorem kb_X5_lookAs_13 (C0 : gc aGV none 5 RX5 (dC, dI) (tyl cI cC cZ cB cJ) A p s m args meth c) : ∀ (n : Nat), ∀ (x2 x3 x4 oY : Int32) (rD : Nat -> Int32) (H : Heap) (locs : List Loc) (ls : Array Slot), (wb_X5_lookAs_13 post dN bD uU gF qF mX oE dY jE eW eY n) x2 x3 x4 oY rD -> va_P (dC, dI) classes (aKU cI cC cZ cB cJ xH xB vI uJ rW uQ uP uO wY xO tJ jJ mY pG pD pE eO oY rJ pX rO rD dN bD bJ aI uU gF qF mX oE dY jE eW eY dU fY gJ jG nU) H -> va_D A (aKU cI cC cZ cB cJ xH xB vI uJ rW uQ uP uO wY xO tJ jJ mY pG pD pE eO oY rJ pX rO rD dN bD bJ aI uU gF qF mX oE dY jE eW eY dU fY gJ jG nU) -> va_S A s.heap H locs -> lv_has ls 5 [(0, .ref xH), (2, .int x2), (3, .int x3), (4, .int x4)] -> W p l e rm_X5_lookAs s m args below meth c H locs 0 0 (MQ below (q_X5_lookAs dC dI cI cC cZ cB cJ A xH xB vI uJ rW uQ uP uO wY xO tJ jJ mY pG pD pE eO rJ pX rO dN bD bJ aI uU gF qF mX oE dY jE eW eY dU fY gJ jG nU post) args s 0 0 A) (F0 m 13 ls []) := by
  intro n
  induction n with
  | zero =>
    intro x2 x3 x4 oY rD H locs ls hp
    exact False.elim hp
  | succ n ih =>
    intro x2 x3 x4 oY rD H locs ls hp
    exact ks_X5_lookAs_13 C0 ih x2 x3 x4 oY rD H locs ls hp
end S_X5_lookAs
def wp_X5_lookAs (post : Int32 -> (Nat -> Int32) -> Prop) (p0 p1 oY : Int32) (rD : Nat -> Int32) (dN bD : Int32) (uU gF qF mX oE dY : Nat -> Int32) (jE eW eY : Int32) : Prop := bAw (fun r_1 => ∃ n : Nat, wb_X5_lookAs_13 post dN bD uU gF qF mX oE dY jE eW eY n p1 r_1 0 oY rD) p0 0 dY
set_option maxHeartbeats 4000000 in
set_option maxRecDepth 100000 in
theorem c_X5_lookAs (l : Launch) (dC : Nat -> ClassId) (dI : Nat -> Nat -> Nat) (cI cC cZ cB cJ : ClassId) (xH xB vI uJ rW uQ uP uO wY xO tJ jJ mY pG pD pE eO sz : Nat) (p0 p1 oY rJ pX rO : Int32) (rD : Nat -> Int32) (dN bD bJ aI : Int32) (uU gF qF mX oE dY : Nat -> Int32) (jE eW eY dU fY gJ jG nU : Int32) (post : Int32 -> (Nat -> Int32) -> Prop) (hw : wp_X5_lookAs post p0 p1 oY rD dN bD uU gF qF mX oE dY jE eW eY) : Met l yX5_lookAs (gw yX5_lookAs aGV 5 none) rm_X5_lookAs (va_Pc [.ref xH, .int p0, .int p1] (gPre (dC, dI) (tyl cI cC cZ cB cJ) (aKU cI cC cZ cB cJ xH xB vI uJ rW uQ uP uO wY xO tJ jJ mY pG pD pE eO oY rJ pX rO rD dN bD bJ aI uU gF qF mX oE dY jE eW eY dU fY gJ jG nU) sz)) (q_X5_lookAs dC dI cI cC cZ cB cJ (va_A (aKU cI cC cZ cB cJ xH xB vI uJ rW uQ uP uO wY xO tJ jJ mY pG pD pE eO oY rJ pX rO rD dN bD bJ aI uU gF qF mX oE dY jE eW eY dU fY gJ jG nU) sz) xH xB vI uJ rW uQ uP uO wY xO tJ jJ mY pG pD pE eO rJ pX rO dN bD bJ aI uU gF qF mX oE dY jE eW eY dU fY gJ jG nU post) 0 0 (va_A (aKU cI cC cZ cB cJ xH xB vI uJ rW uQ uP uO wY xO tJ jJ mY pG pD pE eO oY rJ pX rO rD dN bD bJ aI uU gF qF mX oE dY jE eW eY dU fY gJ jG nU) sz) := by
  refine aBJ (own := RX5) (dC, dI) (tyl cI cC cZ cB cJ) (aKU cI cC cZ cB cJ xH xB vI uJ rW uQ uP uO wY xO tJ jJ mY pG pD pE eO oY rJ pX rO rD dN bD bJ aI uU gF qF mX oE dY jE eW eY dU fY gJ jG nU) sz [.ref xH, .int p0, .int p1] (fun A => q_X5_lookAs dC dI cI cC cZ cB cJ A xH xB vI uJ rW uQ uP uO wY xO tJ jJ mY pG pD pE eO rJ pX rO dN bD bJ aI uU gF qF mX oE dY jE eW eY dU fY gJ jG nU post) pn_RX5 rfl (lbz rfl) ?_
  intro p e s m args below meth c A H locs ls C0 hP hD hS hl
  have hl : lv_has ls 5 [(0, .ref xH), (1, .int p0), (2, .int p1)] := hl
  obtain ⟨hx, hb, hr, hml, hown, hts, hlocks, hA, hK, hN, tL, tM, hZL, hTL, hZM, hTM, hZX⟩ := id C0
  have hp := hw
  unfold wp_X5_lookAs at hp
  refine lv_aload_n hx hb aWf.1 rfl (lv_at hl 0 rfl) ?_
  refine va_get (D := (dC, dI)) (ci := 5) (v := .ref vI) (C := RX5) (T := TX5) (N := 11) hx hb hts i_X5 hown hK hP 0 rfl rfl 1 (lbz rfl) (hts _ q_419) (fun _ h9 => h9) rfl aWf.2.1 ?_
  refine lv_iload_n hx hb aWf.2.2.1 rfl (lv_at hl 1 rfl) ?_
  refine lv_iconst (v := 0) hx hb aWf.2.2.2.1 aCi ?_
  have hm := mgk (wc := (wd_X3_reach cI cC cZ cB cJ vI tJ jJ mY pG pD pE eO dN bD bJ aI dY)) hP mk_116 11 rfl rfl rfl
  refine yW hP hD hS hA (yS mk_116) (aAi mk_116) hm.1 hm.2 (aAk _) (zW _) (zF (As := [.int p0, .int 0]) (rest := []) C0 hP hD hS (yS mk_116) hm.1 (aAl _) 3 3 rfl rfl (c_X3_reach l dC dI cI cC cZ cB cJ vI tJ jJ mY pG pD pE eO H.size p0 0 dN bD bJ aI dY _ hp) q_312 q_422 q_313 q_314 q_48 h_X3_reach rfl rfl ⟨lbz rfl, lbz rfl⟩ rfl rfl hl.1 rfl (lv_room (lbz rfl)) aWf.2.2.2.2.1 ⟨Nat.zero_le _, Nat.zero_le _⟩) (fun r_1 u H locs hp hP hD hS => ?_)
  have hPD := PDm (ws' := (aKU cI cC cZ cB cJ xH xB vI uJ rW uQ uP uO wY xO tJ jJ mY pG pD pE eO oY rJ pX rO rD dN bD bJ aI uU gF qF mX oE dY jE eW eY dU fY gJ jG nU)) hP hD 11 rfl rfl rfl
  have hP := hPD.1
  have hD := hPD.2
  refine lv_istore_n (lv' := [(3, .int r_1), (0, .ref xH), (1, .int p0), (2, .int p1)]) hx hb aWf.2.2.2.2.2.1 rfl hl (by decide) rfl (fun ls hl => ?_)
  refine lv_iconst (v := 0) hx hb aWf.2.2.2.2.2.2.1 aCi ?_
  refine lv_istore (lv' := [(4, .int 0), (3, .int r_1), (0, .ref xH), (1, .int p0), (2, .int p1)]) hx hb aWf.2.2.2.2.2.2.2.1 hl (by decide) rfl (fun ls hl => ?_)
  obtain ⟨n9, hp⟩ := hp
  exact kb_X5_lookAs_13 C0 n9 p1 r_1 0 oY rD H locs ls hp hP hD hS (lv_sub hl [2, 4, 1, 0] rfl)
abbrev aVN (cI cC cZ cB cJ : ClassId) (xH xB vI uJ rW uQ uP uO wY xO tJ jJ mY pG pD pE eO : Nat) (oY rJ pX rO : Int32) (rD : Nat -> Int32) (dN bD bJ aI : Int32) (uU gF qF mX oE dY : Nat -> Int32) (jE eW eY dU fY gJ jG nU : Int32) : va_W := [(xH, .inr (5, [.ref xB, .ref vI, .ref uJ, .ref rW, .ref uQ, .ref uP, .ref uO, .int oY, .int rJ, .int pX, .int rO])), (uJ, .inl (cI, 8, .inl rD)), (xB, .inr (0, [.ref vI, .ref wY, .ref xO])), (vI, .inr (3, [.ref tJ, .ref jJ, .ref mY, .ref pG, .ref pD, .ref pE, .ref eO, .int dN, .int bD, .int bJ, .int aI])), (tJ, .inl (cI, 16, .inl uU)), (jJ, .inl (cI, 16, .inl gF)), (pG, .inl (cI, 16, .inl qF)), (pD, .inl (cI, 8, .inl mX)), (pE, .inl (cI, 8, .inl oE)), (eO, .inl (cI, 5, .inl dY)), (wY, .inr (2, [.int jE, .int eW, .int eY, .int dU, .int fY, .int gJ, .int jG, .int nU]))]
abbrev q_X5_look (dC : Nat -> ClassId) (dI : Nat -> Nat -> Nat) (cI cC cZ cB cJ : ClassId) (A : Nat -> Prop) (xH xB vI uJ rW uQ uP uO wY xO tJ jJ mY pG pD pE eO : Nat) (rJ pX rO dN bD bJ aI : Int32) (uU gF qF mX oE dY : Nat -> Int32) (jE eW eY dU fY gJ jG nU : Int32) (post : Int32 -> (Nat -> Int32) -> Prop) : Array Value -> State -> Outcome -> State -> Prop := va_Qv (fun (u : Int32 × (Nat -> Int32)) => post u.1 u.2) (fun u t => gB (dC, dI) (tyl cI cC cZ cB cJ) A (aVN cI cC cZ cB cJ xH xB vI uJ rW uQ uP uO wY xO tJ jJ mY pG pD pE eO u.1 rJ pX rO u.2 dN bD bJ aI uU gF qF mX oE dY jE eW eY dU fY gJ jG nU) t) A
abbrev rm_X5_look : Room := { frames := 4, cells := 0, slots := 0, locals := 95 }
def aZL (post : Int32 -> (Nat -> Int32) -> Prop) (oY : Int32) (rD : Nat -> Int32) (dN bD : Int32) (uU gF qF mX oE dY : Nat -> Int32) (jE eW eY gJ jG : Int32) : Prop := wp_X5_lookAs (fun aBo aCo => post aBo aCo) gJ jG oY rD dN bD uU gF qF mX oE dY jE eW eY
set_option maxHeartbeats 4000000 in
set_option maxRecDepth 100000 in
theorem c_X5_look (l : Launch) (dC : Nat -> ClassId) (dI : Nat -> Nat -> Nat) (cI cC cZ cB cJ : ClassId) (xH xB vI uJ rW uQ uP uO wY xO tJ jJ mY pG pD pE eO sz : Nat) (oY rJ pX rO : Int32) (rD : Nat -> Int32) (dN bD bJ aI : Int32) (uU gF qF mX oE dY : Nat -> Int32) (jE eW eY dU fY gJ jG nU : Int32) (post : Int32 -> (Nat -> Int32) -> Prop) (hw : aZL post oY rD dN bD uU gF qF mX oE dY jE eW eY gJ jG) : Met l yX5_look (gw yX5_look cX5_look 1 none) rm_X5_look (va_Pc [.ref xH] (gPre (dC, dI) (tyl cI cC cZ cB cJ) (aVN cI cC cZ cB cJ xH xB vI uJ rW uQ uP uO wY xO tJ jJ mY pG pD pE eO oY rJ pX rO rD dN bD bJ aI uU gF qF mX oE dY jE eW eY dU fY gJ jG nU) sz)) (q_X5_look dC dI cI cC cZ cB cJ (va_A (aVN cI cC cZ cB cJ xH xB vI uJ rW uQ uP uO wY xO tJ jJ mY pG pD pE eO oY rJ pX rO rD dN bD bJ aI uU gF qF mX oE dY jE eW eY dU fY gJ jG nU) sz) xH xB vI uJ rW uQ uP uO wY xO tJ jJ mY pG pD pE eO rJ pX rO dN bD bJ aI uU gF qF mX oE dY jE eW eY dU fY gJ jG nU post) 0 0 (va_A (aVN cI cC cZ cB cJ xH xB vI uJ rW uQ uP uO wY xO tJ jJ mY pG pD pE eO oY rJ pX rO rD dN bD bJ aI uU gF qF mX oE dY jE eW eY dU fY gJ jG nU) sz) := by
  refine aBJ (own := RX5) (dC, dI) (tyl cI cC cZ cB cJ) (aVN cI cC cZ cB cJ xH xB vI uJ rW uQ uP uO wY xO tJ jJ mY pG pD pE eO oY rJ pX rO rD dN bD bJ aI uU gF qF mX oE dY jE eW eY dU fY gJ jG nU) sz [.ref xH] (fun A => q_X5_look dC dI cI cC cZ cB cJ A xH xB vI uJ rW uQ uP uO wY xO tJ jJ mY pG pD pE eO rJ pX rO dN bD bJ aI uU gF qF mX oE dY jE eW eY dU fY gJ jG nU post) pn_RX5 rfl (lbz rfl) ?_
  intro p e s m args below meth c A H locs ls C0 hP hD hS hl
  have hl : lv_has ls 1 [(0, .ref xH)] := hl
  obtain ⟨hx, hb, hr, hml, hown, hts, hlocks, hA, hK, hN, tL, tM, hZL, hTL, hZM, hTM, hZX⟩ := id C0
  have hp := hw
  unfold aZL at hp
  refine lv_aload_n hx hb eX5_look_0.1 rfl (lv_at hl 0 rfl) ?_
  refine lv_aload_n hx hb eX5_look_0.2.1 rfl (lv_at hl 0 rfl) ?_
  refine va_get (D := (dC, dI)) (ci := 5) (v := .ref xB) (C := RX5) (T := TX5) (N := 11) hx hb hts i_X5 hown hK hP 0 rfl rfl 0 (lbz rfl) (hts _ q_423) (fun _ h9 => h9) rfl eX5_look_0.2.2.1 ?_
  refine va_get (D := (dC, dI)) (ci := 0) (v := .ref wY) (C := RX0) (T := TX0) (N := 3) hx hb hts i_X0 hown hK hP 2 rfl rfl 1 (lbz rfl) (hts _ q_437) (fun _ h9 => h9) rfl eX5_look_0.2.2.2.1 ?_
  refine va_get (D := (dC, dI)) (ci := 2) (v := .int gJ) (C := RX2) (T := TX2) (N := 8) hx hb hts i_X2 hown hK hP 10 rfl rfl 5 (lbz rfl) (hts _ q_438) (fun _ h9 => h9) rfl eX5_look_0.2.2.2.2.1 ?_
  refine lv_aload_n hx hb eX5_look_0.2.2.2.2.2.1 rfl (lv_at hl 0 rfl) ?_
  refine va_get (D := (dC, dI)) (ci := 5) (v := .ref xB) (C := RX5) (T := TX5) (N := 11) hx hb hts i_X5 hown hK hP 0 rfl rfl 0 (lbz rfl) (hts _ q_423) (fun _ h9 => h9) rfl eX5_look_0.2.2.2.2.2.2.1 ?_
  refine va_get (D := (dC, dI)) (ci := 0) (v := .ref wY) (C := RX0) (T := TX0) (N := 3) hx hb hts i_X0 hown hK hP 2 rfl rfl 1 (lbz rfl) (hts _ q_437) (fun _ h9 => h9) rfl eX5_look_0.2.2.2.2.2.2.2.1 ?_
  refine va_get (D := (dC, dI)) (ci := 2) (v := .int jG) (C := RX2) (T := TX2) (N := 8) hx hb hts i_X2 hown hK hP 10 rfl rfl 6 (lbz rfl) (hts _ q_439) (fun _ h9 => h9) rfl eX5_look_0.2.2.2.2.2.2.2.2.1 ?_
  have hm := mgk (wc := (aKU cI cC cZ cB cJ xH xB vI uJ rW uQ uP uO wY xO tJ jJ mY pG pD pE eO oY rJ pX rO rD dN bD bJ aI uU gF qF mX oE dY jE eW eY dU fY gJ jG nU)) hP mk_117 11 rfl rfl rfl
  refine aBn hP hD hS hA (yS mk_117) (aAi mk_117) hm.1 hm.2 (aAk _) (zW _) (zF (As := [.int gJ, .int jG]) (rest := []) C0 hP hD hS (yS mk_117) hm.1 (aAl _) 0 5 rfl rfl (c_X5_lookAs l dC dI cI cC cZ cB cJ xH xB vI uJ rW uQ uP uO wY xO tJ jJ mY pG pD pE eO H.size gJ jG oY rJ pX rO rD dN bD bJ aI uU gF qF mX oE dY jE eW eY dU fY gJ jG nU _ hp) q_440 q_443 q_441 q_442 aRn h_X5_lookAs rfl rfl ⟨lbz rfl, lbz rfl⟩ rfl rfl hl.1 rfl (lv_room (lbz rfl)) eX5_look_0.2.2.2.2.2.2.2.2.2.1 ⟨Nat.zero_le _, Nat.zero_le _⟩) (fun u H locs hp hP hD hS => ?_)
  obtain ⟨aBo, aCo⟩ := u
  have hPD := PDm (ws' := (aVN cI cC cZ cB cJ xH xB vI uJ rW uQ uP uO wY xO tJ jJ mY pG pD pE eO aBo rJ pX rO aCo dN bD bJ aI uU gF qF mX oE dY jE eW eY dU fY gJ jG nU)) hP hD 11 rfl rfl rfl
  have hP := hPD.1
  have hD := hPD.2
  exact W.vret hx hb hr (fun t ht hW => ⟨⟨(aBo, aCo), rfl, hp, by rw [ht]; exact hP, va_K.moved hW.alike hK, hD⟩, hS.F ht⟩) hS.2.2 eX5_look_0.2.2.2.2.2.2.2.2.2.2
abbrev aZe (cI cC cZ cB cJ : ClassId) (xH xB vI uJ rW uQ uP uO : Nat) (oY rJ pX rO : Int32) (rD : Nat -> Int32) : va_W := [(xH, .inr (5, [.ref xB, .ref vI, .ref uJ, .ref rW, .ref uQ, .ref uP, .ref uO, .int oY, .int rJ, .int pX, .int rO])), (uJ, .inl (cI, 8, .inl rD))]
abbrev q_X5_wantedFrom (dC : Nat -> ClassId) (dI : Nat -> Nat -> Nat) (cI cC cZ cB cJ : ClassId) (A : Nat -> Prop) (xH xB vI uJ rW uQ uP uO : Nat) (oY rJ pX rO : Int32) (rD : Nat -> Int32) (post : Int32 -> Prop) : Array Value -> State -> Outcome -> State -> Prop := va_Qi (fun (r : Int32) (u : Unit) => post r) (fun u t => gB (dC, dI) (tyl cI cC cZ cB cJ) A (aZe cI cC cZ cB cJ xH xB vI uJ rW uQ uP uO oY rJ pX rO rD) t) A
abbrev rm_X5_wantedFrom : Room := { frames := 0, cells := 0, slots := 0, locals := 0 }
def wp_X5_wantedFrom (post : Int32 -> Prop) (p0 oY : Int32) (rD : Nat -> Int32) : Prop := vp_in p0 8 /\ (post (oY &&& (rD p0.toNatClampNeg)))
set_option maxHeartbeats 4000000 in
set_option maxRecDepth 100000 in
theorem c_X5_wantedFrom (l : Launch) (dC : Nat -> ClassId) (dI : Nat -> Nat -> Nat) (cI cC cZ cB cJ : ClassId) (xH xB vI uJ rW uQ uP uO sz : Nat) (p0 oY rJ pX rO : Int32) (rD : Nat -> Int32) (post : Int32 -> Prop) (hw : wp_X5_wantedFrom post p0 oY rD) : Met l bB3 (gw bB3 cX5_wantedFrom 2 (some .int)) rm_X5_wantedFrom (va_Pc [.ref xH, .int p0] (gPre (dC, dI) (tyl cI cC cZ cB cJ) (aZe cI cC cZ cB cJ xH xB vI uJ rW uQ uP uO oY rJ pX rO rD) sz)) (q_X5_wantedFrom dC dI cI cC cZ cB cJ (va_A (aZe cI cC cZ cB cJ xH xB vI uJ rW uQ uP uO oY rJ pX rO rD) sz) xH xB vI uJ rW uQ uP uO oY rJ pX rO rD post) 0 0 (va_A (aZe cI cC cZ cB cJ xH xB vI uJ rW uQ uP uO oY rJ pX rO rD) sz) := by
  refine aBJ (own := RX5) (dC, dI) (tyl cI cC cZ cB cJ) (aZe cI cC cZ cB cJ xH xB vI uJ rW uQ uP uO oY rJ pX rO rD) sz [.ref xH, .int p0] (fun A => q_X5_wantedFrom dC dI cI cC cZ cB cJ A xH xB vI uJ rW uQ uP uO oY rJ pX rO rD post) pn_RX5 rfl (lbz rfl) ?_
  intro p e s m args below meth c A H locs ls C0 hP hD hS hl
  have hl : lv_has ls 2 [(0, .ref xH), (1, .int p0)] := hl
  obtain ⟨hx, hb, hr, hml, hown, hts, hlocks, hA, hK, hN, tL, tM, hZL, hTL, hZM, hTM, hZX⟩ := id C0
  have hp := hw
  unfold wp_X5_wantedFrom at hp
  refine lv_aload_n hx hb eX5_wantedFrom_0.1 rfl (lv_at hl 0 rfl) ?_
  refine va_get (D := (dC, dI)) (ci := 5) (v := .int oY) (C := RX5) (T := TX5) (N := 11) hx hb hts i_X5 hown hK hP 0 rfl rfl 7 (lbz rfl) (hts _ q_435) (fun _ h9 => h9) rfl eX5_wantedFrom_0.2.1 ?_
  refine lv_aload_n hx hb eX5_wantedFrom_0.2.2.1 rfl (lv_at hl 0 rfl) ?_
  refine va_get (D := (dC, dI)) (ci := 5) (v := .ref uJ) (C := RX5) (T := TX5) (N := 11) hx hb hts i_X5 hown hK hP 0 rfl rfl 2 (lbz rfl) (hts _ q_421) (fun _ h9 => h9) rfl eX5_wantedFrom_0.2.2.2.1 ?_
  refine lv_iload_n hx hb eX5_wantedFrom_0.2.2.2.2.1 rfl (lv_at hl 1 rfl) ?_
  have hin := hp.1
  have hp := hp.2
  refine va_iald hx hb hK hP 1 0 rfl rfl hin eX5_wantedFrom_0.2.2.2.2.2.1 ?_
  refine lv_iand hx hb eX5_wantedFrom_0.2.2.2.2.2.2.1 ?_
  exact W.iret (v := oY &&& (rD p0.toNatClampNeg)) hx hb hr (fun t ht hW => ⟨⟨oY &&& (rD p0.toNatClampNeg), (), rfl, hp, by rw [ht]; exact hP, va_K.moved hW.alike hK, hD⟩, hS.F ht⟩) hS.2.2 eX5_wantedFrom_0.2.2.2.2.2.2.2
abbrev wd_X9_both (cI cC cZ cB cJ : ClassId) (a_x xI xH xB vI wY xX yA xY uD uJ rW uQ uP uO xO tJ jJ mY pG pD pE eO rG : Nat) (oY rJ pX rO : Int32) (rD : Nat -> Int32) (dN bD bJ aI : Int32) (uU gF qF mX oE dY : Nat -> Int32) (jE eW eY dU fY gJ jG nU qB : Int32) (jK : Nat -> Int32) : va_W := [(a_x, .inr (9, [.ref xI, .ref xH, .ref xB, .ref vI, .ref wY, .ref xX, .ref yA, .ref xY, .ref uD])), (xH, .inr (5, [.ref xB, .ref vI, .ref uJ, .ref rW, .ref uQ, .ref uP, .ref uO, .int oY, .int rJ, .int pX, .int rO])), (uJ, .inl (cI, 8, .inl rD)), (xB, .inr (0, [.ref vI, .ref wY, .ref xO])), (vI, .inr (3, [.ref tJ, .ref jJ, .ref mY, .ref pG, .ref pD, .ref pE, .ref eO, .int dN, .int bD, .int bJ, .int aI])), (tJ, .inl (cI, 16, .inl uU)), (jJ, .inl (cI, 16, .inl gF)), (pG, .inl (cI, 16, .inl qF)), (pD, .inl (cI, 8, .inl mX)), (pE, .inl (cI, 8, .inl oE)), (eO, .inl (cI, 5, .inl dY)), (wY, .inr (2, [.int jE, .int eW, .int eY, .int dU, .int fY, .int gJ, .int jG, .int nU])), (yA, .inr (6, [.ref rG, .int qB])), (rG, .inl (cI, 16, .inl jK))]
abbrev q_X9_both (dC : Nat -> ClassId) (dI : Nat -> Nat -> Nat) (cI cC cZ cB cJ : ClassId) (A : Nat -> Prop) (a_x xI xH xB vI wY xX yA xY uD uJ rW uQ uP uO xO tJ jJ mY pG pD pE eO rG : Nat) (rJ pX rO dN bD bJ aI : Int32) (uU gF qF mX oE dY : Nat -> Int32) (jE eW eY dU fY gJ jG nU : Int32) (post : Int32 -> Int32 -> (Nat -> Int32) -> Int32 -> (Nat -> Int32) -> Prop) : Array Value -> State -> Outcome -> State -> Prop := va_Qi (fun (r : Int32) (u : Int32 × (Nat -> Int32) × Int32 × (Nat -> Int32)) => post r u.1 u.2.1 u.2.2.1 u.2.2.2) (fun u t => gB (dC, dI) (tyl cI cC cZ cB cJ) A (wd_X9_both cI cC cZ cB cJ a_x xI xH xB vI wY xX yA xY uD uJ rW uQ uP uO xO tJ jJ mY pG pD pE eO rG u.1 rJ pX rO u.2.1 dN bD bJ aI uU gF qF mX oE dY jE eW eY dU fY gJ jG nU u.2.2.1 u.2.2.2) t) A
abbrev rm_X9_both : Room := { frames := 5, cells := 0, slots := 0, locals := 115 }
def wp_X9_both (post : Int32 -> Int32 -> (Nat -> Int32) -> Int32 -> (Nat -> Int32) -> Prop) (p0 p1 oY : Int32) (rD : Nat -> Int32) (dN bD : Int32) (uU gF qF mX oE dY : Nat -> Int32) (jE eW eY gJ jG qB : Int32) (jK : Nat -> Int32) : Prop := aK6 (fun r_1 => (r_1 = 0 -> post (-1) oY rD qB jK) /\ (¬ r_1 = 0 -> aK6 (fun r_2 => (r_2 = 0 -> post (-1) oY rD qB jK) /\ (¬ r_2 = 0 -> (¬ p0 = p1 -> aZL (fun pl_wanted_3 pl_near_4 => wp_X5_wantedFrom (fun r_5 => wp_X5_wantedFrom (fun r_6 => ∀ v_7 : Int32, v_7 = r_5 &&& (r_6 ^^^ (-1)) -> ∀ v_8 : Int32, v_8 = r_6 &&& (r_5 ^^^ (-1)) -> aPf (fun ro_size_9 ro_numbers_10 => post (r_5 &&& r_6) pl_wanted_3 pl_near_4 ro_size_9 ro_numbers_10) v_7 v_8 qB jK) p1 pl_wanted_3 pl_near_4) p0 pl_wanted_3 pl_near_4) oY rD dN bD uU gF qF mX oE dY jE eW eY gJ jG) /\ (p0 = p1 -> post (-1) oY rD qB jK))) p1 bD)) p0 bD
set_option maxHeartbeats 4000000 in
set_option maxRecDepth 100000 in
theorem c_X9_both (l : Launch) (dC : Nat -> ClassId) (dI : Nat -> Nat -> Nat) (cI cC cZ cB cJ : ClassId) (a_x xI xH xB vI wY xX yA xY uD uJ rW uQ uP uO xO tJ jJ mY pG pD pE eO rG sz : Nat) (p0 p1 oY rJ pX rO : Int32) (rD : Nat -> Int32) (dN bD bJ aI : Int32) (uU gF qF mX oE dY : Nat -> Int32) (jE eW eY dU fY gJ jG nU qB : Int32) (jK : Nat -> Int32) (post : Int32 -> Int32 -> (Nat -> Int32) -> Int32 -> (Nat -> Int32) -> Prop) (hw : wp_X9_both post p0 p1 oY rD dN bD uU gF qF mX oE dY jE eW eY gJ jG qB jK) : Met l yX9_both (gw yX9_both aJM 5 (some .int)) rm_X9_both (va_Pc [.ref a_x, .int p0, .int p1] (gPre (dC, dI) (tyl cI cC cZ cB cJ) (wd_X9_both cI cC cZ cB cJ a_x xI xH xB vI wY xX yA xY uD uJ rW uQ uP uO xO tJ jJ mY pG pD pE eO rG oY rJ pX rO rD dN bD bJ aI uU gF qF mX oE dY jE eW eY dU fY gJ jG nU qB jK) sz)) (q_X9_both dC dI cI cC cZ cB cJ (va_A (wd_X9_both cI cC cZ cB cJ a_x xI xH xB vI wY xX yA xY uD uJ rW uQ uP uO xO tJ jJ mY pG pD pE eO rG oY rJ pX rO rD dN bD bJ aI uU gF qF mX oE dY jE eW eY dU fY gJ jG nU qB jK) sz) a_x xI xH xB vI wY xX yA xY uD uJ rW uQ uP uO xO tJ jJ mY pG pD pE eO rG rJ pX rO dN bD bJ aI uU gF qF mX oE dY jE eW eY dU fY gJ jG nU post) 0 0 (va_A (wd_X9_both cI cC cZ cB cJ a_x xI xH xB vI wY xX yA xY uD uJ rW uQ uP uO xO tJ jJ mY pG pD pE eO rG oY rJ pX rO rD dN bD bJ aI uU gF qF mX oE dY jE eW eY dU fY gJ jG nU qB jK) sz) := by
  refine aBJ (own := RX9) (dC, dI) (tyl cI cC cZ cB cJ) (wd_X9_both cI cC cZ cB cJ a_x xI xH xB vI wY xX yA xY uD uJ rW uQ uP uO xO tJ jJ mY pG pD pE eO rG oY rJ pX rO rD dN bD bJ aI uU gF qF mX oE dY jE eW eY dU fY gJ jG nU qB jK) sz [.ref a_x, .int p0, .int p1] (fun A => q_X9_both dC dI cI cC cZ cB cJ A a_x xI xH xB vI wY xX yA xY uD uJ rW uQ uP uO xO tJ jJ mY pG pD pE eO rG rJ pX rO dN bD bJ aI uU gF qF mX oE dY jE eW eY dU fY gJ jG nU post) pn_RX9 rfl (lbz rfl) ?_
  intro p e s m args below meth c A H locs ls C0 hP hD hS hl
  have hl : lv_has ls 5 [(0, .ref a_x), (1, .int p0), (2, .int p1)] := hl
  obtain ⟨hx, hb, hr, hml, hown, hts, hlocks, hA, hK, hN, tL, tM, hZL, hTL, hZM, hTM, hZX⟩ := id C0
  have hp := hw
  unfold wp_X9_both at hp
  refine lv_aload_n hx hb aXe.1 rfl (lv_at hl 0 rfl) ?_
  refine va_get (D := (dC, dI)) (ci := 9) (v := .ref vI) (C := RX9) (T := TX9) (N := 9) hx hb hts aC3 hown hK hP 0 rfl rfl 3 (lbz rfl) (hts _ q_74) (fun _ h9 => h9) rfl aXe.2.1 ?_
  refine lv_iload_n hx hb aXe.2.2.1 rfl (lv_at hl 1 rfl) ?_
  have hm := mgk (wc := (aLv cI cC cZ cB cJ vI tJ jJ mY pG pD pE eO dN bD bJ aI)) hP aNG 14 rfl rfl rfl
  refine yW hP hD hS hA (yS aNG) (aAi aNG) hm.1 hm.2 (aAk _) (zW _) (zF (As := [.int p0]) (rest := []) C0 hP hD hS (yS aNG) hm.1 (aAl _) 4 3 rfl rfl (aZS l dC dI cI cC cZ cB cJ vI tJ jJ mY pG pD pE eO H.size p0 dN bD bJ aI _ hp) q_195 q_198 q_196 q_197 q_48 aZZ rfl rfl ⟨lbz rfl, lbz rfl⟩ rfl rfl hl.1 rfl (lv_room (lbz rfl)) aXe.2.2.2.1 ⟨Nat.zero_le _, Nat.zero_le _⟩) (fun r_1 u H locs hp hP hD hS => ?_)
  have hPD := PDm (ws' := (wd_X9_both cI cC cZ cB cJ a_x xI xH xB vI wY xX yA xY uD uJ rW uQ uP uO xO tJ jJ mY pG pD pE eO rG oY rJ pX rO rD dN bD bJ aI uU gF qF mX oE dY jE eW eY dU fY gJ jG nU qB jK)) hP hD 14 rfl rfl rfl
  have hP := hPD.1
  have hD := hPD.2
  refine lv_if_eq (tgt := 27) hx hb aXe.2.2.2.2.1 (by decide) (fun hc => ?_) (fun hc => ?_)
  · have hp := hp.1 hc
    refine lv_iconst (v := (-1)) hx hb aXe.2.2.2.2.2.2.2.2.2.2.2.2.2.1 aEJ ?_
    exact W.iret (v := (-1)) hx hb hr (fun t ht hW => ⟨⟨(-1), (oY, rD, qB, jK), rfl, hp, by rw [ht]; exact hP, va_K.moved hW.alike hK, hD⟩, hS.F ht⟩) hS.2.2 aXe.2.2.2.2.2.2.2.2.2.2.2.2.2.2.1
  · have hp := hp.2 hc
    refine lv_aload_n hx hb aXe.2.2.2.2.2.1 rfl (lv_at hl 0 rfl) ?_
    refine va_get (D := (dC, dI)) (ci := 9) (v := .ref vI) (C := RX9) (T := TX9) (N := 9) hx hb hts aC3 hown hK hP 0 rfl rfl 3 (lbz rfl) (hts _ q_74) (fun _ h9 => h9) rfl aXe.2.2.2.2.2.2.1 ?_
    refine lv_iload_n hx hb aXe.2.2.2.2.2.2.2.1 rfl (lv_at hl 2 rfl) ?_
    have hm := mgk (wc := (aLv cI cC cZ cB cJ vI tJ jJ mY pG pD pE eO dN bD bJ aI)) hP aNG 14 rfl rfl rfl
    refine yW hP hD hS hA (yS aNG) (aAi aNG) hm.1 hm.2 (aAk _) (zW _) (zF (As := [.int p1]) (rest := []) C0 hP hD hS (yS aNG) hm.1 (aAl _) 4 3 rfl rfl (aZS l dC dI cI cC cZ cB cJ vI tJ jJ mY pG pD pE eO H.size p1 dN bD bJ aI _ hp) q_195 q_198 q_196 q_197 q_48 aZZ rfl rfl ⟨lbz rfl, lbz rfl⟩ rfl rfl hl.1 rfl (lv_room (lbz rfl)) aXe.2.2.2.2.2.2.2.2.1 ⟨Nat.zero_le _, Nat.zero_le _⟩) (fun r_2 u H locs hp hP hD hS => ?_)
    have hPD := PDm (ws' := (wd_X9_both cI cC cZ cB cJ a_x xI xH xB vI wY xX yA xY uD uJ rW uQ uP uO xO tJ jJ mY pG pD pE eO rG oY rJ pX rO rD dN bD bJ aI uU gF qF mX oE dY jE eW eY dU fY gJ jG nU qB jK)) hP hD 14 rfl rfl rfl
    have hP := hPD.1
    have hD := hPD.2
    refine lv_if_eq (tgt := 27) hx hb aXe.2.2.2.2.2.2.2.2.2.1 (by decide) (fun hc => ?_) (fun hc => ?_)
    · have hp := hp.1 hc
      refine lv_iconst (v := (-1)) hx hb aXe.2.2.2.2.2.2.2.2.2.2.2.2.2.1 aEJ ?_
      exact W.iret (v := (-1)) hx hb hr (fun t ht hW => ⟨⟨(-1), (oY, rD, qB, jK), rfl, hp, by rw [ht]; exact hP, va_K.moved hW.alike hK, hD⟩, hS.F ht⟩) hS.2.2 aXe.2.2.2.2.2.2.2.2.2.2.2.2.2.2.1
    · have hp := hp.2 hc
      refine lv_iload_n hx hb aXe.2.2.2.2.2.2.2.2.2.2.1 rfl (lv_at hl 1 rfl) ?_
      refine lv_iload_n hx hb aXe.2.2.2.2.2.2.2.2.2.2.2.1 rfl (lv_at hl 2 rfl) ?_
      refine lv_icmp_ne (tgt := 29) hx hb aXe.2.2.2.2.2.2.2.2.2.2.2.2.1 (by decide) (fun hc => ?_) (fun hc => ?_)
      · have hp := hp.1 hc
        refine lv_aload_n hx hb aXe.2.2.2.2.2.2.2.2.2.2.2.2.2.2.2 rfl (lv_at hl 0 rfl) ?_
        refine va_get (D := (dC, dI)) (ci := 9) (v := .ref xH) (C := RX9) (T := TX9) (N := 9) hx hb hts aC3 hown hK hP 0 rfl rfl 1 (lbz rfl) (hts _ aOt) (fun _ h9 => h9) rfl bAZ.1 ?_
        have hm := mgk (wc := (aVN cI cC cZ cB cJ xH xB vI uJ rW uQ uP uO wY xO tJ jJ mY pG pD pE eO oY rJ pX rO rD dN bD bJ aI uU gF qF mX oE dY jE eW eY dU fY gJ jG nU)) hP aUu 14 rfl rfl rfl
        refine aBn hP hD hS hA (yS aUu) (aAi aUu) hm.1 hm.2 (aAk _) (zW _) (zF (As := []) (rest := []) C0 hP hD hS (yS aUu) hm.1 (aAl _) 1 5 rfl rfl (c_X5_look l dC dI cI cC cZ cB cJ xH xB vI uJ rW uQ uP uO wY xO tJ jJ mY pG pD pE eO H.size oY rJ pX rO rD dN bD bJ aI uU gF qF mX oE dY jE eW eY dU fY gJ jG nU _ hp) q_445 q_448 q_446 q_447 aRn h_X5_look rfl rfl ⟨lbz rfl, lbz rfl⟩ rfl rfl hl.1 rfl (lv_room (lbz rfl)) bAZ.2.1 ⟨Nat.zero_le _, Nat.zero_le _⟩) (fun u H locs hp hP hD hS => ?_)
        obtain ⟨pl_wanted_3, pl_near_4⟩ := u
        have hPD := PDm (ws' := (wd_X9_both cI cC cZ cB cJ a_x xI xH xB vI wY xX yA xY uD uJ rW uQ uP uO xO tJ jJ mY pG pD pE eO rG pl_wanted_3 rJ pX rO pl_near_4 dN bD bJ aI uU gF qF mX oE dY jE eW eY dU fY gJ jG nU qB jK)) hP hD 14 rfl rfl rfl
        have hP := hPD.1
        have hD := hPD.2
        refine lv_aload_n hx hb bAZ.2.2.1 rfl (lv_at hl 0 rfl) ?_
        refine va_get (D := (dC, dI)) (ci := 9) (v := .ref xH) (C := RX9) (T := TX9) (N := 9) hx hb hts aC3 hown hK hP 0 rfl rfl 1 (lbz rfl) (hts _ aOt) (fun _ h9 => h9) rfl bAZ.2.2.2.1 ?_
        refine lv_iload_n hx hb bAZ.2.2.2.2.1 rfl (lv_at hl 1 rfl) ?_
        have hm := mgk (wc := (aZe cI cC cZ cB cJ xH xB vI uJ rW uQ uP uO pl_wanted_3 rJ pX rO pl_near_4)) hP mk_120 14 rfl rfl rfl
        refine yW hP hD hS hA (yS mk_120) (aAi mk_120) hm.1 hm.2 (aAk _) (zW _) (zF (As := [.int p0]) (rest := []) C0 hP hD hS (yS mk_120) hm.1 (aAl _) 1 5 rfl rfl (c_X5_wantedFrom l dC dI cI cC cZ cB cJ xH xB vI uJ rW uQ uP uO H.size p0 pl_wanted_3 rJ pX rO pl_near_4 _ hp) q_449 q_452 q_450 q_451 aRn h_X5_wantedFrom rfl rfl ⟨lbz rfl, lbz rfl⟩ rfl rfl hl.1 rfl (lv_room (lbz rfl)) bAZ.2.2.2.2.2.1 ⟨Nat.zero_le _, Nat.zero_le _⟩) (fun r_5 u H locs hp hP hD hS => ?_)
        have hPD := PDm (ws' := (wd_X9_both cI cC cZ cB cJ a_x xI xH xB vI wY xX yA xY uD uJ rW uQ uP uO xO tJ jJ mY pG pD pE eO rG pl_wanted_3 rJ pX rO pl_near_4 dN bD bJ aI uU gF qF mX oE dY jE eW eY dU fY gJ jG nU qB jK)) hP hD 14 rfl rfl rfl
        have hP := hPD.1
        have hD := hPD.2
        refine lv_istore_n (lv' := [(3, .int r_5), (0, .ref a_x), (1, .int p0), (2, .int p1)]) hx hb bAZ.2.2.2.2.2.2.1 rfl hl (by decide) rfl (fun ls hl => ?_)
        refine lv_aload_n hx hb bAZ.2.2.2.2.2.2.2.1 rfl (lv_at hl 1 rfl) ?_
        refine va_get (D := (dC, dI)) (ci := 9) (v := .ref xH) (C := RX9) (T := TX9) (N := 9) hx hb hts aC3 hown hK hP 0 rfl rfl 1 (lbz rfl) (hts _ aOt) (fun _ h9 => h9) rfl bAZ.2.2.2.2.2.2.2.2.1 ?_
        refine lv_iload_n hx hb bAZ.2.2.2.2.2.2.2.2.2.1 rfl (lv_at hl 3 rfl) ?_
        have hm := mgk (wc := (aZe cI cC cZ cB cJ xH xB vI uJ rW uQ uP uO pl_wanted_3 rJ pX rO pl_near_4)) hP mk_120 14 rfl rfl rfl
        refine yW hP hD hS hA (yS mk_120) (aAi mk_120) hm.1 hm.2 (aAk _) (zW _) (zF (As := [.int p1]) (rest := []) C0 hP hD hS (yS mk_120) hm.1 (aAl _) 1 5 rfl rfl (c_X5_wantedFrom l dC dI cI cC cZ cB cJ xH xB vI uJ rW uQ uP uO H.size p1 pl_wanted_3 rJ pX rO pl_near_4 _ hp) q_449 q_452 q_450 q_451 aRn h_X5_wantedFrom rfl rfl ⟨lbz rfl, lbz rfl⟩ rfl rfl hl.1 rfl (lv_room (lbz rfl)) bAZ.2.2.2.2.2.2.2.2.2.2.1 ⟨Nat.zero_le _, Nat.zero_le _⟩) (fun r_6 u H locs hp hP hD hS => ?_)
        have hPD := PDm (ws' := (wd_X9_both cI cC cZ cB cJ a_x xI xH xB vI wY xX yA xY uD uJ rW uQ uP uO xO tJ jJ mY pG pD pE eO rG pl_wanted_3 rJ pX rO pl_near_4 dN bD bJ aI uU gF qF mX oE dY jE eW eY dU fY gJ jG nU qB jK)) hP hD 14 rfl rfl rfl
        have hP := hPD.1
        have hD := hPD.2
        refine lv_istore (lv' := [(4, .int r_6), (3, .int r_5), (0, .ref a_x), (1, .int p0), (2, .int p1)]) hx hb bAZ.2.2.2.2.2.2.2.2.2.2.2.1 hl (by decide) rfl (fun ls hl => ?_)
        refine lv_aload_n hx hb bAZ.2.2.2.2.2.2.2.2.2.2.2.2.1 rfl (lv_at hl 2 rfl) ?_
        refine lv_iload_n hx hb bAZ.2.2.2.2.2.2.2.2.2.2.2.2.2.1 rfl (lv_at hl 1 rfl) ?_
        refine lv_iload hx hb bAZ.2.2.2.2.2.2.2.2.2.2.2.2.2.2.1 (lv_at hl 0 rfl) ?_
        refine lv_iconst (v := (-1)) hx hb bAZ.2.2.2.2.2.2.2.2.2.2.2.2.2.2.2 aEJ ?_
        refine lv_ixor hx hb eX9_both_60.1 ?_
        refine lv_iand hx hb eX9_both_60.2.1 ?_
        refine lv_topi (fun v_7 ev_7 => ?_)
        have hp := hp v_7 ev_7
        refine lv_iload hx hb eX9_both_60.2.2.1 (lv_at hl 0 rfl) ?_
        refine lv_iload_n hx hb eX9_both_60.2.2.2.1 rfl (lv_at hl 1 rfl) ?_
        refine lv_iconst (v := (-1)) hx hb eX9_both_60.2.2.2.2.1 aEJ ?_
        refine lv_ixor hx hb eX9_both_60.2.2.2.2.2.1 ?_
        refine lv_iand hx hb eX9_both_60.2.2.2.2.2.2.1 ?_
        refine lv_topi (fun v_8 ev_8 => ?_)
        have hp := hp v_8 ev_8
        have hm := mgk (wc := (aRW cI cC cZ cB cJ a_x xI xH xB vI wY xX yA xY uD rG qB jK)) hP mk_121 14 rfl rfl rfl
        refine aBn hP hD hS hA (yS mk_121) (aAi mk_121) hm.1 hm.2 (aAk _) (zW _) (zF (As := [.int v_7, .int v_8]) (rest := []) C0 hP hD hS (yS mk_121) hm.1 (aAl _) 0 9 rfl rfl (c_X9_tell_ l dC dI cI cC cZ cB cJ a_x xI xH xB vI wY xX yA xY uD rG H.size v_7 v_8 qB jK _ hp) q_377 q_380 q_378 q_379 aIl h_X9_tell_ rfl rfl ⟨lbz rfl, lbz rfl⟩ rfl rfl hl.1 rfl (lv_room (lbz rfl)) eX9_both_60.2.2.2.2.2.2.2.1 ⟨Nat.zero_le _, Nat.zero_le _⟩) (fun u H locs hp hP hD hS => ?_)
        obtain ⟨ro_size_9, ro_numbers_10⟩ := u
        have hPD := PDm (ws' := (wd_X9_both cI cC cZ cB cJ a_x xI xH xB vI wY xX yA xY uD uJ rW uQ uP uO xO tJ jJ mY pG pD pE eO rG pl_wanted_3 rJ pX rO pl_near_4 dN bD bJ aI uU gF qF mX oE dY jE eW eY dU fY gJ jG nU ro_size_9 ro_numbers_10)) hP hD 14 rfl rfl rfl
        have hP := hPD.1
        have hD := hPD.2
        refine lv_iload_n hx hb eX9_both_60.2.2.2.2.2.2.2.2.1 rfl (lv_at hl 1 rfl) ?_
        refine lv_iload hx hb eX9_both_60.2.2.2.2.2.2.2.2.2.1 (lv_at hl 0 rfl) ?_
        refine lv_iand hx hb eX9_both_60.2.2.2.2.2.2.2.2.2.2.1 ?_
        exact W.iret (v := r_5 &&& r_6) hx hb hr (fun t ht hW => ⟨⟨r_5 &&& r_6, (pl_wanted_3, pl_near_4, ro_size_9, ro_numbers_10), rfl, hp, by rw [ht]; exact hP, va_K.moved hW.alike hK, hD⟩, hS.F ht⟩) hS.2.2 eX9_both_60.2.2.2.2.2.2.2.2.2.2.2
      · have hp := hp.2 hc
        refine lv_iconst (v := (-1)) hx hb aXe.2.2.2.2.2.2.2.2.2.2.2.2.2.1 aEJ ?_
        exact W.iret (v := (-1)) hx hb hr (fun t ht hW => ⟨⟨(-1), (oY, rD, qB, jK), rfl, hp, by rw [ht]; exact hP, va_K.moved hW.alike hK, hD⟩, hS.F ht⟩) hS.2.2 aXe.2.2.2.2.2.2.2.2.2.2.2.2.2.2.1
abbrev aPC (cI cC cZ cB cJ : ClassId) (vI tJ jJ mY pG pD pE eO : Nat) (dN bD bJ aI : Int32) (uU gF mX oE dY : Nat -> Int32) : va_W := [(vI, .inr (3, [.ref tJ, .ref jJ, .ref mY, .ref pG, .ref pD, .ref pE, .ref eO, .int dN, .int bD, .int bJ, .int aI])), (tJ, .inl (cI, 16, .inl uU)), (jJ, .inl (cI, 16, .inl gF)), (pD, .inl (cI, 8, .inl mX)), (pE, .inl (cI, 8, .inl oE)), (eO, .inl (cI, 5, .inl dY))]
abbrev q_X3_leanNeeded (dC : Nat -> ClassId) (dI : Nat -> Nat -> Nat) (cI cC cZ cB cJ : ClassId) (A : Nat -> Prop) (vI tJ jJ mY pG pD pE eO : Nat) (dN bD bJ aI : Int32) (uU gF mX oE dY : Nat -> Int32) (post : Int32 -> Prop) : Array Value -> State -> Outcome -> State -> Prop := va_Qi (fun (r : Int32) (u : Unit) => post r) (fun u t => gB (dC, dI) (tyl cI cC cZ cB cJ) A (aPC cI cC cZ cB cJ vI tJ jJ mY pG pD pE eO dN bD bJ aI uU gF mX oE dY) t) A
abbrev rm_X3_leanNeeded : Room := { frames := 2, cells := 0, slots := 0, locals := 47 }
section S_X3_leanNeeded
variable {p : Program} {l : Launch} {e : Env} {s : State} {m : MethodId} {args : Array Value} {below : List Frame} {meth : Method} {c : Code} {dC : Nat -> ClassId} {dI : Nat -> Nat -> Nat} {cI cC cZ cB cJ : ClassId} {A : Nat -> Prop} {vI tJ jJ mY pG pD pE eO : Nat} {dN bD bJ aI : Int32} {uU gF mX oE dY : Nat -> Int32} {post : Int32 -> Prop}
def ws_X3_leanNeeded_2 (post : Int32 -> Prop) (next : Int32 -> Int32 -> Int32 -> Prop) (uU gF mX oE dY : Nat -> Int32) (x1 x2 x3 : Int32) : Prop := (30 < x3 -> post (-2)) /\ (¬ 30 < x3 -> ∀ v_1 : Int32, v_1 = dY (0 : Int32).toNatClampNeg -> ∀ v_2 : Int32, v_2 = v_1 + x3 -> bBv (fun r_3 => (r_3 = 0 -> ∀ v_4 : Int32, v_4 = x3 + 1 -> next x1 x2 v_4) /\ (¬ r_3 = 0 -> post x3)) x1 x2 v_2 uU gF mX oE)
noncomputable def wb_X3_leanNeeded_2 (post : Int32 -> Prop) (uU gF mX oE dY : Nat -> Int32) : Nat -> Int32 -> Int32 -> Int32 -> Prop := fun n => Nat.rec (motive := fun _ => Int32 -> Int32 -> Int32 -> Prop) (fun _ _ _ => False) (fun _ ih => ws_X3_leanNeeded_2 post ih uU gF mX oE dY) n
set_option maxHeartbeats 4000000 in
set_option maxRecDepth 100000 in
theorem ks_X3_leanNeeded_2 (C0 : gc aHi (some .int) 4 RX3 (dC, dI) (tyl cI cC cZ cB cJ) A p s m args meth c) {next : Int32 -> Int32 -> Int32 -> Prop} (hKn : ∀ (x1 : Int32) (x2 : Int32) (x3 : Int32) (H : Heap) (locs : List Loc) (ls : Array Slot), next x1 x2 x3 -> va_P (dC, dI) classes (aPC cI cC cZ cB cJ vI tJ jJ mY pG pD pE eO dN bD bJ aI uU gF mX oE dY) H -> va_D A (aPC cI cC cZ cB cJ vI tJ jJ mY pG pD pE eO dN bD bJ aI uU gF mX oE dY) -> va_S A s.heap H locs -> lv_has ls 4 [(0, .ref vI), (1, .int x1), (2, .int x2), (3, .int x3)] -> W p l e rm_X3_leanNeeded s m args below meth c H locs 0 0 (MQ below (q_X3_leanNeeded dC dI cI cC cZ cB cJ A vI tJ jJ mY pG pD pE eO dN bD bJ aI uU gF mX oE dY post) args s 0 0 A) (F0 m 2 ls [])) : ∀ (x1 x2 x3 : Int32) (H : Heap) (locs : List Loc) (ls : Array Slot), (ws_X3_leanNeeded_2 post next uU gF mX oE dY) x1 x2 x3 -> va_P (dC, dI) classes (aPC cI cC cZ cB cJ vI tJ jJ mY pG pD pE eO dN bD bJ aI uU gF mX oE dY) H -> va_D A (aPC cI cC cZ cB cJ vI tJ jJ mY pG pD pE eO dN bD bJ aI uU gF mX oE dY) -> va_S A s.heap H locs -> lv_has ls 4 [(0, .ref vI), (1, .int x1), (2, .int x2), (3, .int x3)] -> W p l e rm_X3_leanNeeded s m args below meth c H locs 0 0 (MQ below (q_X3_leanNeeded dC dI cI cC cZ cB cJ A vI tJ jJ mY pG pD pE eO dN bD bJ aI uU gF mX oE dY post) args s 0 0 A) (F0 m 2 ls []) := by
  obtain ⟨hx, hb, hr, hml, hown, hts, hlocks, hA, hK, hN, tL, tM, hZL, hTL, hZM, hTM, hZX⟩ := id C0
  intro x1 x2 x3 H locs ls hp hP hD hS hl
  unfold ws_X3_leanNeeded_2 at hp
  refine lv_iload_n hx hb aMX.2.2.1 rfl (lv_at hl 3 rfl) ?_
  refine lv_bipush (v := 30) hx hb aMX.2.2.2.1 bp_30 ?_
  refine lv_icmp_gt (tgt := 33) hx hb aMX.2.2.2.2.1 (by decide) (fun hc => ?_) (fun hc => ?_)
  · have hp := hp.1 hc
    refine lv_bipush (v := (-2)) hx hb eX3_leanNeeded_25.2.2.2.2.1 bp_m2 ?_
    exact W.iret (v := (-2)) hx hb hr (fun t ht hW => ⟨⟨(-2), (), rfl, hp, by rw [ht]; exact hP, va_K.moved hW.alike hK, hD⟩, hS.F ht⟩) hS.2.2 eX3_leanNeeded_25.2.2.2.2.2
  · have hp := hp.2 hc
    refine lv_aload_n hx hb aMX.2.2.2.2.2.1 rfl (lv_at hl 0 rfl) ?_
    refine lv_iload_n hx hb aMX.2.2.2.2.2.2.1 rfl (lv_at hl 1 rfl) ?_
    refine lv_iload_n hx hb aMX.2.2.2.2.2.2.2.1 rfl (lv_at hl 2 rfl) ?_
    refine lv_aload_n hx hb aMX.2.2.2.2.2.2.2.2.1 rfl (lv_at hl 0 rfl) ?_
    refine va_get (D := (dC, dI)) (ci := 3) (v := .ref eO) (C := RX3) (T := TX3) (N := 11) hx hb hts i_X3 hown hK hP 0 rfl rfl 6 (lbz rfl) (hts _ q_225) (fun _ h9 => h9) rfl aMX.2.2.2.2.2.2.2.2.2.1 ?_
    refine lv_iconst (v := 0) hx hb aMX.2.2.2.2.2.2.2.2.2.2.1 aCi ?_
    refine va_iald hx hb hK hP 5 0 rfl rfl (g_in rfl) aMX.2.2.2.2.2.2.2.2.2.2.2.1 ?_
    refine lv_topi (fun v_1 aFJ => ?_)
    have hp := hp v_1 aFJ
    refine lv_iload_n hx hb aMX.2.2.2.2.2.2.2.2.2.2.2.2.1 rfl (lv_at hl 3 rfl) ?_
    refine lv_iadd hx hb aMX.2.2.2.2.2.2.2.2.2.2.2.2.2.1 ?_
    refine lv_topi (fun v_2 aGO => ?_)
    have hp := hp v_2 aGO
    have hm := mgk (wc := (aY3 cI cC cZ cB cJ vI tJ jJ mY pG pD pE eO dN bD bJ aI uU gF mX oE)) hP mk_122 6 rfl rfl rfl
    refine yW hP hD hS hA (yS mk_122) (aAi mk_122) hm.1 hm.2 (aAk _) (zW _) (zF (As := [.int x1, .int x2, .int v_2]) (rest := []) C0 hP hD hS (yS mk_122) hm.1 (aAl _) 0 3 rfl rfl (c_X3_isWithin l dC dI cI cC cZ cB cJ vI tJ jJ mY pG pD pE eO H.size x1 x2 v_2 dN bD bJ aI uU gF mX oE _ hp) q_316 q_338 q_317 q_318 q_48 h_X3_isWithin rfl rfl ⟨lbz rfl, lbz rfl⟩ rfl rfl hl.1 rfl (lv_room (lbz rfl)) aMX.2.2.2.2.2.2.2.2.2.2.2.2.2.2.1 ⟨Nat.zero_le _, Nat.zero_le _⟩) (fun r_3 u H locs hp hP hD hS => ?_)
    have hPD := PDm (ws' := (aPC cI cC cZ cB cJ vI tJ jJ mY pG pD pE eO dN bD bJ aI uU gF mX oE dY)) hP hD 6 rfl rfl rfl
    have hP := hPD.1
    have hD := hPD.2
    refine lv_if_eq (tgt := 27) hx hb aMX.2.2.2.2.2.2.2.2.2.2.2.2.2.2.2 (by decide) (fun hc => ?_) (fun hc => ?_)
    · have hp := hp.1 hc
      obtain ⟨v_4, aHM⟩ : ∃ y : Int32, y = x3 + 1 := ⟨_, rfl⟩
      refine lv_iinc (v := v_4) (lv' := [(3, .int v_4), (0, .ref vI), (1, .int x1), (2, .int x2)]) hx hb eX3_leanNeeded_25.2.2.1 hl (k := 3) rfl (by rw [aHM]; rfl) (by decide) rfl (fun ls hl => ?_)
      have hp := hp v_4 aHM
      refine lv_goto (tgt := 2) hx hb eX3_leanNeeded_25.2.2.2.1 (by decide) ?_
      exact hKn x1 x2 v_4 H locs ls hp hP hD hS (lv_sub hl [1, 2, 3, 0] rfl)
    · have hp := hp.2 hc
      refine lv_iload_n hx hb eX3_leanNeeded_25.1 rfl (lv_at hl 3 rfl) ?_
      exact W.iret (v := x3) hx hb hr (fun t ht hW => ⟨⟨x3, (), rfl, hp, by rw [ht]; exact hP, va_K.moved hW.alike hK, hD⟩, hS.F ht⟩) hS.2.2 eX3_leanNeeded_25.2.1
set_option maxHeartbeats 4000000 in
set_option maxRecDepth 100000 in
theorem kb_X3_leanNeeded_2 (C0 : gc aHi (some .int) 4 RX3 (dC, dI) (tyl cI cC cZ cB cJ) A p s m args meth c) : ∀ (n : Nat), ∀ (x1 x2 x3 : Int32) (H : Heap) (locs : List Loc) (ls : Array Slot), (wb_X3_leanNeeded_2 post uU gF mX oE dY n) x1 x2 x3 -> va_P (dC, dI) classes (aPC cI cC cZ cB cJ vI tJ jJ mY pG pD pE eO dN bD bJ aI uU gF mX oE dY) H -> va_D A (aPC cI cC cZ cB cJ vI tJ jJ mY pG pD pE eO dN bD bJ aI uU gF mX oE dY) -> va_S A s.heap H locs -> lv_has ls 4 [(0, .ref vI), (1, .int x1), (2, .int x2), (3, .int x3)] -> W p l e rm_X3_leanNeeded s m args below meth c H locs 0 0 (MQ below (q_X3_leanNeeded dC dI cI cC cZ cB cJ A vI tJ jJ mY pG pD pE eO dN bD bJ aI uU gF mX oE dY post) args s 0 0 A) (F0 m 2 ls []) := by
  intro n
  induction n with
  | zero =>
    intro x1 x2 x3 H locs ls hp
    exact False.elim hp
  | succ n ih =>
    intro x1 x2 x3 H locs ls hp
    exact ks_X3_leanNeeded_2 C0 ih x1 x2 x3 H locs ls hp
end S_X3_leanNeeded
def bCY (post : Int32 -> Prop) (p0 p1 : Int32) (uU gF mX oE dY : Nat -> Int32) : Prop := ∃ n : Nat, wb_X3_leanNeeded_2 post uU gF mX oE dY n p0 p1 0
set_option maxHeartbeats 4000000 in
set_option maxRecDepth 100000 in
theorem c_X3_leanNeeded (l : Launch) (dC : Nat -> ClassId) (dI : Nat -> Nat -> Nat) (cI cC cZ cB cJ : ClassId) (vI tJ jJ mY pG pD pE eO sz : Nat) (p0 p1 dN bD bJ aI : Int32) (uU gF mX oE dY : Nat -> Int32) (post : Int32 -> Prop) (hw : bCY post p0 p1 uU gF mX oE dY) : Met l yX3_leanNeeded (gw yX3_leanNeeded aHi 4 (some .int)) rm_X3_leanNeeded (va_Pc [.ref vI, .int p0, .int p1] (gPre (dC, dI) (tyl cI cC cZ cB cJ) (aPC cI cC cZ cB cJ vI tJ jJ mY pG pD pE eO dN bD bJ aI uU gF mX oE dY) sz)) (q_X3_leanNeeded dC dI cI cC cZ cB cJ (va_A (aPC cI cC cZ cB cJ vI tJ jJ mY pG pD pE eO dN bD bJ aI uU gF mX oE dY) sz) vI tJ jJ mY pG pD pE eO dN bD bJ aI uU gF mX oE dY post) 0 0 (va_A (aPC cI cC cZ cB cJ vI tJ jJ mY pG pD pE eO dN bD bJ aI uU gF mX oE dY) sz) := by
  refine aBJ (own := RX3) (dC, dI) (tyl cI cC cZ cB cJ) (aPC cI cC cZ cB cJ vI tJ jJ mY pG pD pE eO dN bD bJ aI uU gF mX oE dY) sz [.ref vI, .int p0, .int p1] (fun A => q_X3_leanNeeded dC dI cI cC cZ cB cJ A vI tJ jJ mY pG pD pE eO dN bD bJ aI uU gF mX oE dY post) pn_RX3 rfl (lbz rfl) ?_
  intro p e s m args below meth c A H locs ls C0 hP hD hS hl
  have hl : lv_has ls 4 [(0, .ref vI), (1, .int p0), (2, .int p1)] := hl
  obtain ⟨hx, hb, hr, hml, hown, hts, hlocks, hA, hK, hN, tL, tM, hZL, hTL, hZM, hTM, hZX⟩ := id C0
  have hp := hw
  unfold bCY at hp
  refine lv_iconst (v := 0) hx hb aMX.1 aCi ?_
  refine lv_istore_n (lv' := [(3, .int 0), (0, .ref vI), (1, .int p0), (2, .int p1)]) hx hb aMX.2.1 rfl hl (by decide) rfl (fun ls hl => ?_)
  obtain ⟨n9, hp⟩ := hp
  exact kb_X3_leanNeeded_2 C0 n9 p0 p1 0 H locs ls hp hP hD hS (lv_sub hl [1, 2, 3, 0] rfl)
abbrev aOi (cI cC cZ cB cJ : ClassId) (a_x xI xH xB vI wY xX yA xY uD tJ jJ mY pG pD pE eO rG : Nat) (dN bD bJ aI : Int32) (uU gF mX oE dY : Nat -> Int32) (qB : Int32) (jK : Nat -> Int32) : va_W := [(a_x, .inr (9, [.ref xI, .ref xH, .ref xB, .ref vI, .ref wY, .ref xX, .ref yA, .ref xY, .ref uD])), (vI, .inr (3, [.ref tJ, .ref jJ, .ref mY, .ref pG, .ref pD, .ref pE, .ref eO, .int dN, .int bD, .int bJ, .int aI])), (tJ, .inl (cI, 16, .inl uU)), (jJ, .inl (cI, 16, .inl gF)), (pD, .inl (cI, 8, .inl mX)), (pE, .inl (cI, 8, .inl oE)), (eO, .inl (cI, 5, .inl dY)), (yA, .inr (6, [.ref rG, .int qB])), (rG, .inl (cI, 16, .inl jK))]
abbrev q_X9_nearest (dC : Nat -> ClassId) (dI : Nat -> Nat -> Nat) (cI cC cZ cB cJ : ClassId) (A : Nat -> Prop) (a_x xI xH xB vI wY xX yA xY uD tJ jJ mY pG pD pE eO rG : Nat) (dN bD bJ aI : Int32) (uU gF mX oE dY : Nat -> Int32) (post : Int32 -> Int32 -> (Nat -> Int32) -> Prop) : Array Value -> State -> Outcome -> State -> Prop := va_Qi (fun (r : Int32) (u : Int32 × (Nat -> Int32)) => post r u.1 u.2) (fun u t => gB (dC, dI) (tyl cI cC cZ cB cJ) A (aOi cI cC cZ cB cJ a_x xI xH xB vI wY xX yA xY uD tJ jJ mY pG pD pE eO rG dN bD bJ aI uU gF mX oE dY u.1 u.2) t) A
abbrev rm_X9_nearest : Room := { frames := 3, cells := 0, slots := 0, locals := 70 }
section S_X9_nearest
variable {p : Program} {l : Launch} {e : Env} {s : State} {m : MethodId} {args : Array Value} {below : List Frame} {meth : Method} {c : Code} {dC : Nat -> ClassId} {dI : Nat -> Nat -> Nat} {cI cC cZ cB cJ : ClassId} {A : Nat -> Prop} {a_x xI xH xB vI wY xX yA xY uD tJ jJ mY pG pD pE eO rG : Nat} {dN bD bJ aI : Int32} {uU gF mX oE dY : Nat -> Int32} {post : Int32 -> Int32 -> (Nat -> Int32) -> Prop}
def bCa (post : Int32 -> Int32 -> (Nat -> Int32) -> Prop) (K22 : Int32 -> Int32 -> Int32 -> Int32 -> Int32 -> (Nat -> Int32) -> Prop) (dN bD : Int32) (uU gF mX oE dY : Nat -> Int32) (x1 x2 x3 x4 qB : Int32) (jK : Nat -> Int32) : Prop := ∀ v_5 : Int32, v_5 = x4 + 1 -> K22 x1 x2 x3 v_5 qB jK
set_option maxHeartbeats 4000000 in
set_option maxRecDepth 100000 in
theorem ks_X9_nearest_63 (C0 : gc aE9 (some .int) 6 RX9 (dC, dI) (tyl cI cC cZ cB cJ) A p s m args meth c) {K22 : Int32 -> Int32 -> Int32 -> Int32 -> Int32 -> (Nat -> Int32) -> Prop} (hK22 : ∀ (x1 : Int32) (x2 : Int32) (x3 : Int32) (x4 : Int32) (qB : Int32) (jK : Nat -> Int32) (H : Heap) (locs : List Loc) (ls : Array Slot), K22 x1 x2 x3 x4 qB jK -> va_P (dC, dI) classes (aOi cI cC cZ cB cJ a_x xI xH xB vI wY xX yA xY uD tJ jJ mY pG pD pE eO rG dN bD bJ aI uU gF mX oE dY qB jK) H -> va_D A (aOi cI cC cZ cB cJ a_x xI xH xB vI wY xX yA xY uD tJ jJ mY pG pD pE eO rG dN bD bJ aI uU gF mX oE dY qB jK) -> va_S A s.heap H locs -> lv_has ls 6 [(0, .ref a_x), (1, .int x1), (2, .int x2), (3, .int x3), (4, .int x4)] -> W p l e rm_X9_nearest s m args below meth c H locs 0 0 (MQ below (q_X9_nearest dC dI cI cC cZ cB cJ A a_x xI xH xB vI wY xX yA xY uD tJ jJ mY pG pD pE eO rG dN bD bJ aI uU gF mX oE dY post) args s 0 0 A) (F0 m 22 ls [])) : ∀ (x1 x2 x3 x4 qB : Int32) (jK : Nat -> Int32) (H : Heap) (locs : List Loc) (ls : Array Slot), (bCa post K22 dN bD uU gF mX oE dY) x1 x2 x3 x4 qB jK -> va_P (dC, dI) classes (aOi cI cC cZ cB cJ a_x xI xH xB vI wY xX yA xY uD tJ jJ mY pG pD pE eO rG dN bD bJ aI uU gF mX oE dY qB jK) H -> va_D A (aOi cI cC cZ cB cJ a_x xI xH xB vI wY xX yA xY uD tJ jJ mY pG pD pE eO rG dN bD bJ aI uU gF mX oE dY qB jK) -> va_S A s.heap H locs -> lv_has ls 6 [(0, .ref a_x), (1, .int x1), (2, .int x2), (3, .int x3), (4, .int x4)] -> W p l e rm_X9_nearest s m args below meth c H locs 0 0 (MQ below (q_X9_nearest dC dI cI cC cZ cB cJ A a_x xI xH xB vI wY xX yA xY uD tJ jJ mY pG pD pE eO rG dN bD bJ aI uU gF mX oE dY post) args s 0 0 A) (F0 m 63 ls []) := by
  obtain ⟨hx, hb, hr, hml, hown, hts, hlocks, hA, hK, hN, tL, tM, hZL, hTL, hZM, hTM, hZX⟩ := id C0
  intro x1 x2 x3 x4 qB jK H locs ls hp hP hD hS hl
  unfold bCa at hp
  obtain ⟨v_5, aJD⟩ : ∃ y : Int32, y = x4 + 1 := ⟨_, rfl⟩
  refine lv_iinc (v := v_5) (lv' := [(4, .int v_5), (0, .ref a_x), (1, .int x1), (2, .int x2), (3, .int x3)]) hx hb aYv.2.1 hl (k := 4) rfl (by rw [aJD]; rfl) (by decide) rfl (fun ls hl => ?_)
  have hp := hp v_5 aJD
  refine lv_goto (tgt := 22) hx hb aYv.2.2.1 (by decide) ?_
  exact hK22 x1 x2 x3 v_5 qB jK H locs ls hp hP hD hS (lv_sub hl [1, 2, 3, 4, 0] rfl)
def ws_X9_nearest_22 (post : Int32 -> Int32 -> (Nat -> Int32) -> Prop) (next : Int32 -> Int32 -> Int32 -> Int32 -> Int32 -> (Nat -> Int32) -> Prop) (dN bD : Int32) (uU gF mX oE dY : Nat -> Int32) (x1 x2 x3 x4 qB : Int32) (jK : Nat -> Int32) : Prop := (bD <= x4 -> (x2 < 0 -> post x2 qB jK) /\ (¬ x2 < 0 -> aYk (fun aUU aSJ => post x2 aUU aSJ) x3 qB jK)) /\ (¬ bD <= x4 -> bCY (fun r_4 => (r_4 < 0 -> bCa post next dN bD uU gF mX oE dY x1 x2 x3 x4 qB jK) /\ (¬ r_4 < 0 -> (x3 <= r_4 -> bCa post next dN bD uU gF mX oE dY x1 x2 x3 x4 qB jK) /\ (¬ x3 <= r_4 -> bCa post next dN bD uU gF mX oE dY x1 x4 r_4 x4 qB jK))) x1 x4 uU gF mX oE dY)
noncomputable def wb_X9_nearest_22 (post : Int32 -> Int32 -> (Nat -> Int32) -> Prop) (dN bD : Int32) (uU gF mX oE dY : Nat -> Int32) : Nat -> Int32 -> Int32 -> Int32 -> Int32 -> Int32 -> (Nat -> Int32) -> Prop := fun n => Nat.rec (motive := fun _ => Int32 -> Int32 -> Int32 -> Int32 -> Int32 -> (Nat -> Int32) -> Prop) (fun _ _ _ _ _ _ => False) (fun _ ih => ws_X9_nearest_22 post ih dN bD uU gF mX oE dY) n
set_option maxHeartbeats 4000000 in
set_option maxRecDepth 100000 in
theorem ks_X9_nearest_22 (C0 : gc aE9 (some .int) 6 RX9 (dC, dI) (tyl cI cC cZ cB cJ) A p s m args meth c) {next : Int32 -> Int32 -> Int32 -> Int32 -> Int32 -> (Nat -> Int32) -> Prop} (hKn : ∀ (x1 : Int32) (x2 : Int32) (x3 : Int32) (x4 : Int32) (qB : Int32) (jK : Nat -> Int32) (H : Heap) (locs : List Loc) (ls : Array Slot), next x1 x2 x3 x4 qB jK -> va_P (dC, dI) classes (aOi cI cC cZ cB cJ a_x xI xH xB vI wY xX yA xY uD tJ jJ mY pG pD pE eO rG dN bD bJ aI uU gF mX oE dY qB jK) H -> va_D A (aOi cI cC cZ cB cJ a_x xI xH xB vI wY xX yA xY uD tJ jJ mY pG pD pE eO rG dN bD bJ aI uU gF mX oE dY qB jK) -> va_S A s.heap H locs -> lv_has ls 6 [(0, .ref a_x), (1, .int x1), (2, .int x2), (3, .int x3), (4, .int x4)] -> W p l e rm_X9_nearest s m args below meth c H locs 0 0 (MQ below (q_X9_nearest dC dI cI cC cZ cB cJ A a_x xI xH xB vI wY xX yA xY uD tJ jJ mY pG pD pE eO rG dN bD bJ aI uU gF mX oE dY post) args s 0 0 A) (F0 m 22 ls [])) : ∀ (x1 x2 x3 x4 qB : Int32) (jK : Nat -> Int32) (H : Heap) (locs : List Loc) (ls : Array Slot), (ws_X9_nearest_22 post next dN bD uU gF mX oE dY) x1 x2 x3 x4 qB jK -> va_P (dC, dI) classes (aOi cI cC cZ cB cJ a_x xI xH xB vI wY xX yA xY uD tJ jJ mY pG pD pE eO rG dN bD bJ aI uU gF mX oE dY qB jK) H -> va_D A (aOi cI cC cZ cB cJ a_x xI xH xB vI wY xX yA xY uD tJ jJ mY pG pD pE eO rG dN bD bJ aI uU gF mX oE dY qB jK) -> va_S A s.heap H locs -> lv_has ls 6 [(0, .ref a_x), (1, .int x1), (2, .int x2), (3, .int x3), (4, .int x4)] -> W p l e rm_X9_nearest s m args below meth c H locs 0 0 (MQ below (q_X9_nearest dC dI cI cC cZ cB cJ A a_x xI xH xB vI wY xX yA xY uD tJ jJ mY pG pD pE eO rG dN bD bJ aI uU gF mX oE dY post) args s 0 0 A) (F0 m 22 ls []) := by
  obtain ⟨hx, hb, hr, hml, hown, hts, hlocks, hA, hK, hN, tL, tM, hZL, hTL, hZM, hTM, hZX⟩ := id C0
  intro x1 x2 x3 x4 qB jK H locs ls hp hP hD hS hl
  unfold ws_X9_nearest_22 at hp
  refine lv_iload hx hb aTx.2.2.2.2.2.2.2.2.2.2.2.2.2.1 (lv_at hl 4 rfl) ?_
  refine lv_aload_n hx hb aTx.2.2.2.2.2.2.2.2.2.2.2.2.2.2.1 rfl (lv_at hl 0 rfl) ?_
  refine va_get (D := (dC, dI)) (ci := 9) (v := .ref vI) (C := RX9) (T := TX9) (N := 9) hx hb hts aC3 hown hK hP 0 rfl rfl 3 (lbz rfl) (hts _ q_74) (fun _ h9 => h9) rfl aTx.2.2.2.2.2.2.2.2.2.2.2.2.2.2.2 ?_
  refine va_get (D := (dC, dI)) (ci := 3) (v := .int bD) (C := RX3) (T := TX3) (N := 11) hx hb hts i_X3 hown hK hP 1 rfl rfl 8 (lbz rfl) (hts _ q_415) (fun _ h9 => h9) rfl aQt.1 ?_
  refine lv_icmp_ge (tgt := 69) hx hb aQt.2.1 (by decide) (fun hc => ?_) (fun hc => ?_)
  · have hp := hp.1 hc
    refine lv_iload_n hx hb aYv.2.2.2.1 rfl (lv_at hl 2 rfl) ?_
    refine lv_if_lt (tgt := 78) hx hb aYv.2.2.2.2.1 (by decide) (fun hc => ?_) (fun hc => ?_)
    · have hp := hp.1 hc
      refine lv_iload_n hx hb aYv.2.2.2.2.2.2.2.2.1 rfl (lv_at hl 2 rfl) ?_
      exact W.iret (v := x2) hx hb hr (fun t ht hW => ⟨⟨x2, (qB, jK), rfl, hp, by rw [ht]; exact hP, va_K.moved hW.alike hK, hD⟩, hS.F ht⟩) hS.2.2 aYv.2.2.2.2.2.2.2.2.2
    · have hp := hp.2 hc
      refine lv_aload_n hx hb aYv.2.2.2.2.2.1 rfl (lv_at hl 0 rfl) ?_
      refine lv_iload_n hx hb aYv.2.2.2.2.2.2.1 rfl (lv_at hl 3 rfl) ?_
      have hm := mgk (wc := (wd_X9_tell cI cC cZ cB cJ a_x xI xH xB vI wY xX yA xY uD rG qB jK)) hP mk_98 9 rfl rfl rfl
      refine aBn hP hD hS hA (yS mk_98) (aAi mk_98) hm.1 hm.2 (aAk _) (zW _) (zF (As := [.int x3]) (rest := []) C0 hP hD hS (yS mk_98) hm.1 (aAl _) 0 9 rfl rfl (c_X9_tell l dC dI cI cC cZ cB cJ a_x xI xH xB vI wY xX yA xY uD rG H.size x3 qB jK _ hp) q_373 q_376 q_374 q_375 aIl h_X9_tell rfl rfl ⟨lbz rfl, lbz rfl⟩ rfl rfl hl.1 rfl (lv_room (lbz rfl)) aYv.2.2.2.2.2.2.2.1 ⟨Nat.zero_le _, Nat.zero_le _⟩) (fun u H locs hp hP hD hS => ?_)
      obtain ⟨aUU, aSJ⟩ := u
      have hPD := PDm (ws' := (aOi cI cC cZ cB cJ a_x xI xH xB vI wY xX yA xY uD tJ jJ mY pG pD pE eO rG dN bD bJ aI uU gF mX oE dY aUU aSJ)) hP hD 9 rfl rfl rfl
      have hP := hPD.1
      have hD := hPD.2
      refine lv_iload_n hx hb aYv.2.2.2.2.2.2.2.2.1 rfl (lv_at hl 2 rfl) ?_
      exact W.iret (v := x2) hx hb hr (fun t ht hW => ⟨⟨x2, (aUU, aSJ), rfl, hp, by rw [ht]; exact hP, va_K.moved hW.alike hK, hD⟩, hS.F ht⟩) hS.2.2 aYv.2.2.2.2.2.2.2.2.2
  · have hp := hp.2 hc
    refine lv_aload_n hx hb aQt.2.2.1 rfl (lv_at hl 0 rfl) ?_
    refine va_get (D := (dC, dI)) (ci := 9) (v := .ref vI) (C := RX9) (T := TX9) (N := 9) hx hb hts aC3 hown hK hP 0 rfl rfl 3 (lbz rfl) (hts _ q_74) (fun _ h9 => h9) rfl aQt.2.2.2.1 ?_
    refine lv_iload_n hx hb aQt.2.2.2.2.1 rfl (lv_at hl 1 rfl) ?_
    refine lv_iload hx hb aQt.2.2.2.2.2.1 (lv_at hl 4 rfl) ?_
    have hm := mgk (wc := (aPC cI cC cZ cB cJ vI tJ jJ mY pG pD pE eO dN bD bJ aI uU gF mX oE dY)) hP mk_43 9 rfl rfl rfl
    refine yW hP hD hS hA (yS mk_43) (aAi mk_43) hm.1 hm.2 (aAk _) (zW _) (zF (As := [.int x1, .int x4]) (rest := []) C0 hP hD hS (yS mk_43) hm.1 (aAl _) 1 3 rfl rfl (c_X3_leanNeeded l dC dI cI cC cZ cB cJ vI tJ jJ mY pG pD pE eO H.size x1 x4 dN bD bJ aI uU gF mX oE dY _ hp) q_453 q_456 q_454 q_455 q_48 h_X3_leanNeeded rfl rfl ⟨lbz rfl, lbz rfl⟩ rfl rfl hl.1 rfl (lv_room (lbz rfl)) aQt.2.2.2.2.2.2.1 ⟨Nat.zero_le _, Nat.zero_le _⟩) (fun r_4 u H locs hp hP hD hS => ?_)
    have hPD := PDm (ws' := (aOi cI cC cZ cB cJ a_x xI xH xB vI wY xX yA xY uD tJ jJ mY pG pD pE eO rG dN bD bJ aI uU gF mX oE dY qB jK)) hP hD 9 rfl rfl rfl
    have hP := hPD.1
    have hD := hPD.2
    refine lv_istore (lv' := [(5, .int r_4), (0, .ref a_x), (1, .int x1), (2, .int x2), (3, .int x3), (4, .int x4)]) hx hb aQt.2.2.2.2.2.2.2.1 hl (by decide) rfl (fun ls hl => ?_)
    refine lv_iload hx hb aQt.2.2.2.2.2.2.2.2.1 (lv_at hl 0 rfl) ?_
    refine lv_if_lt (tgt := 63) hx hb aQt.2.2.2.2.2.2.2.2.2.1 (by decide) (fun hc => ?_) (fun hc => ?_)
    · have hp := hp.1 hc
      exact ks_X9_nearest_63 C0 hKn x1 x2 x3 x4 qB jK H locs ls hp hP hD hS (lv_sub hl [1, 2, 3, 4, 5] rfl)
    · have hp := hp.2 hc
      refine lv_iload hx hb aQt.2.2.2.2.2.2.2.2.2.2.1 (lv_at hl 0 rfl) ?_
      refine lv_iload_n hx hb aQt.2.2.2.2.2.2.2.2.2.2.2.1 rfl (lv_at hl 4 rfl) ?_
      refine lv_icmp_ge (tgt := 63) hx hb aQt.2.2.2.2.2.2.2.2.2.2.2.2.1 (by decide) (fun hc => ?_) (fun hc => ?_)
      · have hp := hp.1 hc
        exact ks_X9_nearest_63 C0 hKn x1 x2 x3 x4 qB jK H locs ls hp hP hD hS (lv_sub hl [1, 2, 3, 4, 5] rfl)
      · have hp := hp.2 hc
        refine lv_iload hx hb aQt.2.2.2.2.2.2.2.2.2.2.2.2.2.1 (lv_at hl 5 rfl) ?_
        refine lv_istore_n (lv' := [(2, .int x4), (5, .int r_4), (0, .ref a_x), (1, .int x1), (3, .int x3), (4, .int x4)]) hx hb aQt.2.2.2.2.2.2.2.2.2.2.2.2.2.2.1 rfl hl (by decide) rfl (fun ls hl => ?_)
        refine lv_iload hx hb aQt.2.2.2.2.2.2.2.2.2.2.2.2.2.2.2 (lv_at hl 1 rfl) ?_
        refine lv_istore_n (lv' := [(3, .int r_4), (2, .int x4), (5, .int r_4), (0, .ref a_x), (1, .int x1), (4, .int x4)]) hx hb aYv.1 rfl hl (by decide) rfl (fun ls hl => ?_)
        exact ks_X9_nearest_63 C0 hKn x1 x4 r_4 x4 qB jK H locs ls hp hP hD hS (lv_sub hl [3, 4, 1, 0, 5] rfl)
set_option maxHeartbeats 4000000 in
set_option maxRecDepth 100000 in
theorem kb_X9_nearest_22 (C0 : gc aE9 (some .int) 6 RX9 (dC, dI) (tyl cI cC cZ cB cJ) A p s m args meth c) : ∀ (n : Nat), ∀ (x1 x2 x3 x4 qB : Int32) (jK : Nat -> Int32) (H : Heap) (locs : List Loc) (ls : Array Slot), (wb_X9_nearest_22 post dN bD uU gF mX oE dY n) x1 x2 x3 x4 qB jK -> va_P (dC, dI) classes (aOi cI cC cZ cB cJ a_x xI xH xB vI wY xX yA xY uD tJ jJ mY pG pD pE eO rG dN bD bJ aI uU gF mX oE dY qB jK) H -> va_D A (aOi cI cC cZ cB cJ a_x xI xH xB vI wY xX yA xY uD tJ jJ mY pG pD pE eO rG dN bD bJ aI uU gF mX oE dY qB jK) -> va_S A s.heap H locs -> lv_has ls 6 [(0, .ref a_x), (1, .int x1), (2, .int x2), (3, .int x3), (4, .int x4)] -> W p l e rm_X9_nearest s m args below meth c H locs 0 0 (MQ below (q_X9_nearest dC dI cI cC cZ cB cJ A a_x xI xH xB vI wY xX yA xY uD tJ jJ mY pG pD pE eO rG dN bD bJ aI uU gF mX oE dY post) args s 0 0 A) (F0 m 22 ls []) := by
  intro n
  induction n with
  | zero =>
    intro x1 x2 x3 x4 qB jK H locs ls hp
    exact False.elim hp
  | succ n ih =>
    intro x1 x2 x3 x4 qB jK H locs ls hp
    exact ks_X9_nearest_22 C0 ih x1 x2 x3 x4 qB jK H locs ls hp
end S_X9_nearest
def wp_X9_nearest (post : Int32 -> Int32 -> (Nat -> Int32) -> Prop) (p0 dN bD : Int32) (uU gF mX oE dY : Nat -> Int32) (qB : Int32) (jK : Nat -> Int32) : Prop := aY8 (fun r_1 => (¬ r_1 = 0 -> ∃ n : Nat, wb_X9_nearest_22 post dN bD uU gF mX oE dY n p0 (-2) 31 0 qB jK) /\ (r_1 = 0 -> post (-1) qB jK)) p0 dN
set_option maxHeartbeats 4000000 in
set_option maxRecDepth 100000 in
theorem c_X9_nearest (l : Launch) (dC : Nat -> ClassId) (dI : Nat -> Nat -> Nat) (cI cC cZ cB cJ : ClassId) (a_x xI xH xB vI wY xX yA xY uD tJ jJ mY pG pD pE eO rG sz : Nat) (p0 dN bD bJ aI : Int32) (uU gF mX oE dY : Nat -> Int32) (qB : Int32) (jK : Nat -> Int32) (post : Int32 -> Int32 -> (Nat -> Int32) -> Prop) (hw : wp_X9_nearest post p0 dN bD uU gF mX oE dY qB jK) : Met l yX9_nearest (gw yX9_nearest aE9 6 (some .int)) rm_X9_nearest (va_Pc [.ref a_x, .int p0] (gPre (dC, dI) (tyl cI cC cZ cB cJ) (aOi cI cC cZ cB cJ a_x xI xH xB vI wY xX yA xY uD tJ jJ mY pG pD pE eO rG dN bD bJ aI uU gF mX oE dY qB jK) sz)) (q_X9_nearest dC dI cI cC cZ cB cJ (va_A (aOi cI cC cZ cB cJ a_x xI xH xB vI wY xX yA xY uD tJ jJ mY pG pD pE eO rG dN bD bJ aI uU gF mX oE dY qB jK) sz) a_x xI xH xB vI wY xX yA xY uD tJ jJ mY pG pD pE eO rG dN bD bJ aI uU gF mX oE dY post) 0 0 (va_A (aOi cI cC cZ cB cJ a_x xI xH xB vI wY xX yA xY uD tJ jJ mY pG pD pE eO rG dN bD bJ aI uU gF mX oE dY qB jK) sz) := by
  refine aBJ (own := RX9) (dC, dI) (tyl cI cC cZ cB cJ) (aOi cI cC cZ cB cJ a_x xI xH xB vI wY xX yA xY uD tJ jJ mY pG pD pE eO rG dN bD bJ aI uU gF mX oE dY qB jK) sz [.ref a_x, .int p0] (fun A => q_X9_nearest dC dI cI cC cZ cB cJ A a_x xI xH xB vI wY xX yA xY uD tJ jJ mY pG pD pE eO rG dN bD bJ aI uU gF mX oE dY post) pn_RX9 rfl (lbz rfl) ?_
  intro p e s m args below meth c A H locs ls C0 hP hD hS hl
  have hl : lv_has ls 6 [(0, .ref a_x), (1, .int p0)] := hl
  obtain ⟨hx, hb, hr, hml, hown, hts, hlocks, hA, hK, hN, tL, tM, hZL, hTL, hZM, hTM, hZX⟩ := id C0
  have hp := hw
  unfold wp_X9_nearest at hp
  refine lv_aload_n hx hb aTx.1 rfl (lv_at hl 0 rfl) ?_
  refine va_get (D := (dC, dI)) (ci := 9) (v := .ref vI) (C := RX9) (T := TX9) (N := 9) hx hb hts aC3 hown hK hP 0 rfl rfl 3 (lbz rfl) (hts _ q_74) (fun _ h9 => h9) rfl aTx.2.1 ?_
  refine lv_iload_n hx hb aTx.2.2.1 rfl (lv_at hl 1 rfl) ?_
  have hm := mgk (wc := (bBr cI cC cZ cB cJ vI tJ jJ mY pG pD pE eO dN bD bJ aI)) hP mk_95 9 rfl rfl rfl
  refine yW hP hD hS hA (yS mk_95) (aAi mk_95) hm.1 hm.2 (aAk _) (zW _) (zF (As := [.int p0]) (rest := []) C0 hP hD hS (yS mk_95) hm.1 (aAl _) 1 3 rfl rfl (c_X3_hasFruit l dC dI cI cC cZ cB cJ vI tJ jJ mY pG pD pE eO H.size p0 dN bD bJ aI _ hp) q_171 q_174 q_172 q_173 q_48 h_X3_hasFruit rfl rfl ⟨lbz rfl, lbz rfl⟩ rfl rfl hl.1 rfl (lv_room (lbz rfl)) aTx.2.2.2.1 ⟨Nat.zero_le _, Nat.zero_le _⟩) (fun r_1 u H locs hp hP hD hS => ?_)
  have hPD := PDm (ws' := (aOi cI cC cZ cB cJ a_x xI xH xB vI wY xX yA xY uD tJ jJ mY pG pD pE eO rG dN bD bJ aI uU gF mX oE dY qB jK)) hP hD 9 rfl rfl rfl
  have hP := hPD.1
  have hD := hPD.2
  refine lv_if_ne (tgt := 13) hx hb aTx.2.2.2.2.1 (by decide) (fun hc => ?_) (fun hc => ?_)
  · have hp := hp.1 hc
    refine lv_bipush (v := (-2)) hx hb aTx.2.2.2.2.2.2.2.1 bp_m2 ?_
    refine lv_istore_n (lv' := [(2, .int (-2)), (0, .ref a_x), (1, .int p0)]) hx hb aTx.2.2.2.2.2.2.2.2.1 rfl hl (by decide) rfl (fun ls hl => ?_)
    refine lv_bipush (v := 31) hx hb aTx.2.2.2.2.2.2.2.2.2.1 bp_31 ?_
    refine lv_istore_n (lv' := [(3, .int 31), (2, .int (-2)), (0, .ref a_x), (1, .int p0)]) hx hb aTx.2.2.2.2.2.2.2.2.2.2.1 rfl hl (by decide) rfl (fun ls hl => ?_)
    refine lv_iconst (v := 0) hx hb aTx.2.2.2.2.2.2.2.2.2.2.2.1 aCi ?_
    refine lv_istore (lv' := [(4, .int 0), (3, .int 31), (2, .int (-2)), (0, .ref a_x), (1, .int p0)]) hx hb aTx.2.2.2.2.2.2.2.2.2.2.2.2.1 hl (by decide) rfl (fun ls hl => ?_)
    obtain ⟨n9, hp⟩ := hp
    exact kb_X9_nearest_22 C0 n9 p0 (-2) 31 0 qB jK H locs ls hp hP hD hS (lv_sub hl [3, 4, 2, 1, 0] rfl)
  · have hp := hp.2 hc
    refine lv_iconst (v := (-1)) hx hb aTx.2.2.2.2.2.1 aEJ ?_
    exact W.iret (v := (-1)) hx hb hr (fun t ht hW => ⟨⟨(-1), (qB, jK), rfl, hp, by rw [ht]; exact hP, va_K.moved hW.alike hK, hD⟩, hS.F ht⟩) hS.2.2 aTx.2.2.2.2.2.2.1
abbrev wd_X5_isEarlier (cI cC cZ cB cJ : ClassId) : va_W := []
abbrev q_X5_isEarlier (dC : Nat -> ClassId) (dI : Nat -> Nat -> Nat) (cI cC cZ cB cJ : ClassId) (A : Nat -> Prop) (post : Int32 -> Prop) : Array Value -> State -> Outcome -> State -> Prop := va_Qi (fun (r : Int32) (u : Unit) => post r) (fun u t => gB (dC, dI) (tyl cI cC cZ cB cJ) A (wd_X5_isEarlier cI cC cZ cB cJ) t) A
abbrev rm_X5_isEarlier : Room := { frames := 1, cells := 0, slots := 0, locals := 20 }
section S_X5_isEarlier
variable {p : Program} {l : Launch} {e : Env} {s : State} {m : MethodId} {args : Array Value} {below : List Frame} {meth : Method} {c : Code} {dC : Nat -> ClassId} {dI : Nat -> Nat -> Nat} {cI cC cZ cB cJ : ClassId} {A : Nat -> Prop} {post : Int32 -> Prop}
def ws_X5_isEarlier_31 (post : Int32 -> Prop) : Prop := post 1
set_option maxHeartbeats 4000000 in
set_option maxRecDepth 100000 in
theorem ks_X5_isEarlier_31 (C0 : gc aHv (some .boolean) 4 RX5 (dC, dI) (tyl cI cC cZ cB cJ) A p s m args meth c) : ∀ (H : Heap) (locs : List Loc) (ls : Array Slot), (ws_X5_isEarlier_31 post) -> va_P (dC, dI) classes (wd_X5_isEarlier cI cC cZ cB cJ) H -> va_D A (wd_X5_isEarlier cI cC cZ cB cJ) -> va_S A s.heap H locs -> lv_has ls 4 [] -> W p l e rm_X5_isEarlier s m args below meth c H locs 0 0 (MQ below (q_X5_isEarlier dC dI cI cC cZ cB cJ A post) args s 0 0 A) (F0 m 31 ls []) := by
  obtain ⟨hx, hb, hr, hml, hown, hts, hlocks, hA, hK, hN, tL, tM, hZL, hTL, hZM, hTM, hZX⟩ := id C0
  intro H locs ls hp hP hD hS hl
  unfold ws_X5_isEarlier_31 at hp
  refine lv_iconst (v := 1) hx hb aUR.2.2.2.2.2.1 aDx ?_
  refine lv_goto (tgt := 36) hx hb aUR.2.2.2.2.2.2.1 (by decide) ?_
  exact W.zret (v := 1) hx hb hr rfl (fun t ht hW => ⟨⟨1, (), rfl, hp, by rw [ht]; exact hP, va_K.moved hW.alike hK, hD⟩, hS.F ht⟩) hS.2.2 aUR.2.2.2.2.2.2.2.2
end S_X5_isEarlier
def wp_X5_isEarlier (post : Int32 -> Prop) (p0 p1 : Int32) : Prop := aBb (fun r_1 => aBb (fun r_2 => ∀ v_3 : Int32, v_3 = r_1 - r_2 -> ∀ v_4 : Int32, v_4 = p0 ^^^ p1 -> (v_3 < 0 -> ws_X5_isEarlier_31 post) /\ (¬ v_3 < 0 -> (¬ v_3 = 0 -> post 0) /\ (v_3 = 0 -> ∀ v_5 : Int32, v_5 = p0 &&& v_4 -> ((v_5 &&& (-v_4)) = 0 -> post 0) /\ (¬ (v_5 &&& (-v_4)) = 0 -> ws_X5_isEarlier_31 post)))) p1) p0
set_option maxHeartbeats 4000000 in
set_option maxRecDepth 100000 in
theorem c_X5_isEarlier (l : Launch) (dC : Nat -> ClassId) (dI : Nat -> Nat -> Nat) (cI cC cZ cB cJ : ClassId) (sz : Nat) (p0 p1 : Int32) (post : Int32 -> Prop) (hw : wp_X5_isEarlier post p0 p1) : Met l yX5_isEarlier (gw yX5_isEarlier aHv 4 (some .boolean)) rm_X5_isEarlier (va_Pc [.int p0, .int p1] (gPre (dC, dI) (tyl cI cC cZ cB cJ) (wd_X5_isEarlier cI cC cZ cB cJ) sz)) (q_X5_isEarlier dC dI cI cC cZ cB cJ (va_A (wd_X5_isEarlier cI cC cZ cB cJ) sz) post) 0 0 (va_A (wd_X5_isEarlier cI cC cZ cB cJ) sz) := by
  refine aBJ (own := RX5) (dC, dI) (tyl cI cC cZ cB cJ) (wd_X5_isEarlier cI cC cZ cB cJ) sz [.int p0, .int p1] (fun A => q_X5_isEarlier dC dI cI cC cZ cB cJ A post) pn_RX5 rfl (lbz rfl) ?_
  intro p e s m args below meth c A H locs ls C0 hP hD hS hl
  have hl : lv_has ls 4 [(0, .int p0), (1, .int p1)] := hl
  obtain ⟨hx, hb, hr, hml, hown, hts, hlocks, hA, hK, hN, tL, tM, hZL, hTL, hZM, hTM, hZX⟩ := id C0
  have hp := hw
  unfold wp_X5_isEarlier at hp
  refine lv_iload_n hx hb aOO.1 rfl (lv_at hl 0 rfl) ?_
  refine yW (wc := (aBh cI cC cZ cB cJ)) hP hD hS hA [] [] rfl rfl rfl rfl (aDn (As := [.int p0]) (rest := []) C0 hP hD hS [] rfl rfl (aBv l dC dI cI cC cZ cB cJ H.size p0 _ hp) q_320 q_457 q_322 q_321 aBw rfl rfl ⟨lbz rfl, lbz rfl⟩ rfl rfl hl.1 rfl (lv_room (lbz rfl)) aOO.2.1 ⟨Nat.zero_le _, Nat.zero_le _⟩) (fun r_1 u H locs hp hP hD hS => ?_)
  refine lv_iload_n hx hb aOO.2.2.1 rfl (lv_at hl 1 rfl) ?_
  refine yW (wc := (aBh cI cC cZ cB cJ)) hP hD hS hA [] [] rfl rfl rfl rfl (aDn (As := [.int p1]) (rest := [.int r_1]) C0 hP hD hS [] rfl rfl (aBv l dC dI cI cC cZ cB cJ H.size p1 _ hp) q_320 q_457 q_322 q_321 aBw rfl rfl ⟨lbz rfl, lbz rfl⟩ rfl rfl hl.1 rfl (lv_room (lbz rfl)) aOO.2.2.2.1 ⟨Nat.zero_le _, Nat.zero_le _⟩) (fun r_2 u H locs hp hP hD hS => ?_)
  refine lv_isub hx hb aOO.2.2.2.2.1 ?_
  refine lv_topi (fun v_3 aGW => ?_)
  have hp := hp v_3 aGW
  refine lv_istore_n (lv' := [(2, .int v_3), (0, .int p0), (1, .int p1)]) hx hb aOO.2.2.2.2.2.1 rfl hl (by decide) rfl (fun ls hl => ?_)
  refine lv_iload_n hx hb aOO.2.2.2.2.2.2.1 rfl (lv_at hl 1 rfl) ?_
  refine lv_iload_n hx hb aOO.2.2.2.2.2.2.2.1 rfl (lv_at hl 2 rfl) ?_
  refine lv_ixor hx hb aOO.2.2.2.2.2.2.2.2.1 ?_
  refine lv_topi (fun v_4 aHM => ?_)
  have hp := hp v_4 aHM
  refine lv_istore_n (lv' := [(3, .int v_4), (2, .int v_3), (0, .int p0), (1, .int p1)]) hx hb aOO.2.2.2.2.2.2.2.2.2.1 rfl hl (by decide) rfl (fun ls hl => ?_)
  refine lv_iload_n hx hb aOO.2.2.2.2.2.2.2.2.2.2.1 rfl (lv_at hl 1 rfl) ?_
  refine lv_if_lt (tgt := 31) hx hb aOO.2.2.2.2.2.2.2.2.2.2.2.1 (by decide) (fun hc => ?_) (fun hc => ?_)
  · have hp := hp.1 hc
    exact ks_X5_isEarlier_31 C0 H locs ls hp hP hD hS (lv_sub hl [] rfl)
  · have hp := hp.2 hc
    refine lv_iload_n hx hb aOO.2.2.2.2.2.2.2.2.2.2.2.2.1 rfl (lv_at hl 1 rfl) ?_
    refine lv_if_ne (tgt := 35) hx hb aOO.2.2.2.2.2.2.2.2.2.2.2.2.2.1 (by decide) (fun hc => ?_) (fun hc => ?_)
    · have hp := hp.1 hc
      refine lv_iconst (v := 0) hx hb aUR.2.2.2.2.2.2.2.1 aCi ?_
      exact W.zret (v := 0) hx hb hr rfl (fun t ht hW => ⟨⟨0, (), rfl, hp, by rw [ht]; exact hP, va_K.moved hW.alike hK, hD⟩, hS.F ht⟩) hS.2.2 aUR.2.2.2.2.2.2.2.2
    · have hp := hp.2 hc
      refine lv_iload_n hx hb aOO.2.2.2.2.2.2.2.2.2.2.2.2.2.2.1 rfl (lv_at hl 2 rfl) ?_
      refine lv_iload_n hx hb aOO.2.2.2.2.2.2.2.2.2.2.2.2.2.2.2 rfl (lv_at hl 0 rfl) ?_
      refine lv_iand hx hb aUR.1 ?_
      refine lv_topi (fun v_5 aJD => ?_)
      have hp := hp v_5 aJD
      refine lv_iload_n hx hb aUR.2.1 rfl (lv_at hl 0 rfl) ?_
      refine lv_ineg hx hb aUR.2.2.1 ?_
      refine lv_iand hx hb aUR.2.2.2.1 ?_
      refine lv_if_eq (tgt := 35) hx hb aUR.2.2.2.2.1 (by decide) (fun hc => ?_) (fun hc => ?_)
      · have hp := hp.1 hc
        refine lv_iconst (v := 0) hx hb aUR.2.2.2.2.2.2.2.1 aCi ?_
        exact W.zret (v := 0) hx hb hr rfl (fun t ht hW => ⟨⟨0, (), rfl, hp, by rw [ht]; exact hP, va_K.moved hW.alike hK, hD⟩, hS.F ht⟩) hS.2.2 aUR.2.2.2.2.2.2.2.2
      · have hp := hp.2 hc
        exact ks_X5_isEarlier_31 C0 H locs ls hp hP hD hS (lv_sub hl [] rfl)
