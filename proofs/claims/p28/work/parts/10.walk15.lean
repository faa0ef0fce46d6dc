abbrev wd_X9_tell__ (cI cC cZ cB cJ : ClassId) (a_x xI xH xB vI wY xX yA xY uD rG : Nat) (qB : Int32) (jK : Nat -> Int32) : va_W := [(a_x, .inr (9, [.ref xI, .ref xH, .ref xB, .ref vI, .ref wY, .ref xX, .ref yA, .ref xY, .ref uD])), (yA, .inr (6, [.ref rG, .int qB])), (rG, .inl (cI, 16, .inl jK))]
abbrev q_X9_tell__ (dC : Nat -> ClassId) (dI : Nat -> Nat -> Nat) (cI cC cZ cB cJ : ClassId) (A : Nat -> Prop) (a_x xI xH xB vI wY xX yA xY uD rG : Nat) (post : Int32 -> (Nat -> Int32) -> Prop) : Array Value -> State -> Outcome -> State -> Prop := va_Qv (fun (u : Int32 × (Nat -> Int32)) => post u.1 u.2) (fun u t => gB (dC, dI) (tyl cI cC cZ cB cJ) A (wd_X9_tell__ cI cC cZ cB cJ a_x xI xH xB vI wY xX yA xY uD rG u.1 u.2) t) A
abbrev rm_X9_tell__ : Room := { frames := 3, cells := 0, slots := 0, locals := 64 }
def wp_X9_tell__ (post : Int32 -> (Nat -> Int32) -> Prop) (p0 p1 p2 qB : Int32) (jK : Nat -> Int32) : Prop := aPf (fun aKV ro_numbers_2 => wp_X6_add (fun aNH aHk => post aNH aHk) p2 aKV ro_numbers_2) p0 p1 qB jK
set_option maxHeartbeats 4000000 in
set_option maxRecDepth 100000 in
theorem c_X9_tell__ (l : Launch) (dC : Nat -> ClassId) (dI : Nat -> Nat -> Nat) (cI cC cZ cB cJ : ClassId) (a_x xI xH xB vI wY xX yA xY uD rG sz : Nat) (p0 p1 p2 qB : Int32) (jK : Nat -> Int32) (post : Int32 -> (Nat -> Int32) -> Prop) (hw : wp_X9_tell__ post p0 p1 p2 qB jK) : Met l yX9_tell__ (gw yX9_tell__ cX9_tell__ 4 none) rm_X9_tell__ (va_Pc [.ref a_x, .int p0, .int p1, .int p2] (gPre (dC, dI) (tyl cI cC cZ cB cJ) (wd_X9_tell__ cI cC cZ cB cJ a_x xI xH xB vI wY xX yA xY uD rG qB jK) sz)) (q_X9_tell__ dC dI cI cC cZ cB cJ (va_A (wd_X9_tell__ cI cC cZ cB cJ a_x xI xH xB vI wY xX yA xY uD rG qB jK) sz) a_x xI xH xB vI wY xX yA xY uD rG post) 0 0 (va_A (wd_X9_tell__ cI cC cZ cB cJ a_x xI xH xB vI wY xX yA xY uD rG qB jK) sz) := by
  refine aBJ (own := RX9) (dC, dI) (tyl cI cC cZ cB cJ) (wd_X9_tell__ cI cC cZ cB cJ a_x xI xH xB vI wY xX yA xY uD rG qB jK) sz [.ref a_x, .int p0, .int p1, .int p2] (fun A => q_X9_tell__ dC dI cI cC cZ cB cJ A a_x xI xH xB vI wY xX yA xY uD rG post) pn_RX9 rfl (lbz rfl) ?_
  intro p e s m args below meth c A H locs ls C0 hP hD hS hl
  have hl : lv_has ls 4 [(0, .ref a_x), (1, .int p0), (2, .int p1), (3, .int p2)] := hl
  obtain ⟨hx, hb, hr, hml, hown, hts, hlocks, hA, hK, hN, tL, tM, hZL, hTL, hZM, hTM, hZX⟩ := id C0
  have hp := hw
  unfold wp_X9_tell__ at hp
  refine lv_aload_n hx hb eX9_tell___0.1 rfl (lv_at hl 0 rfl) ?_
  refine lv_iload_n hx hb eX9_tell___0.2.1 rfl (lv_at hl 1 rfl) ?_
  refine lv_iload_n hx hb eX9_tell___0.2.2.1 rfl (lv_at hl 2 rfl) ?_
  have hm := mgk (wc := (aRW cI cC cZ cB cJ a_x xI xH xB vI wY xX yA xY uD rG qB jK)) hP mk_85 3 rfl rfl rfl
  refine aBn hP hD hS hA (yS mk_85) (aAi mk_85) hm.1 hm.2 (aAk _) (zW _) (zF (As := [.int p0, .int p1]) (rest := []) C0 hP hD hS (yS mk_85) hm.1 (aAl _) 0 9 rfl rfl (c_X9_tell_ l dC dI cI cC cZ cB cJ a_x xI xH xB vI wY xX yA xY uD rG H.size p0 p1 qB jK _ hp) q_377 q_380 q_378 q_379 aIl h_X9_tell_ rfl rfl ⟨lbz rfl, lbz rfl⟩ rfl rfl hl.1 rfl (lv_room (lbz rfl)) eX9_tell___0.2.2.2.1 ⟨Nat.zero_le _, Nat.zero_le _⟩) (fun u H locs hp hP hD hS => ?_)
  obtain ⟨aKV, ro_numbers_2⟩ := u
  have hPD := PDm (ws' := (wd_X9_tell__ cI cC cZ cB cJ a_x xI xH xB vI wY xX yA xY uD rG aKV ro_numbers_2)) hP hD 3 rfl rfl rfl
  have hP := hPD.1
  have hD := hPD.2
  refine lv_aload_n hx hb eX9_tell___0.2.2.2.2.1 rfl (lv_at hl 0 rfl) ?_
  refine va_get (D := (dC, dI)) (ci := 9) (v := .ref yA) (C := RX9) (T := TX9) (N := 9) hx hb hts aC3 hown hK hP 0 rfl rfl 6 (lbz rfl) (hts _ q_363) (fun _ h9 => h9) rfl eX9_tell___0.2.2.2.2.2.1 ?_
  refine lv_iload_n hx hb eX9_tell___0.2.2.2.2.2.2.1 rfl (lv_at hl 3 rfl) ?_
  have hm := mgk (wc := (wd_X6_add cI cC cZ cB cJ yA rG aKV ro_numbers_2)) hP mk_0 3 rfl rfl rfl
  refine aBn hP hD hS hA (yS mk_0) (aAi mk_0) hm.1 hm.2 (aAk _) (zW _) (zF (As := [.int p2]) (rest := []) C0 hP hD hS (yS mk_0) hm.1 (aAl _) 1 6 rfl rfl (c_X6_add l dC dI cI cC cZ cB cJ yA rG H.size p2 aKV ro_numbers_2 _ hp) q_369 q_372 q_370 q_371 q_365 h_X6_add rfl rfl ⟨lbz rfl, lbz rfl⟩ rfl rfl hl.1 rfl (lv_room (lbz rfl)) eX9_tell___0.2.2.2.2.2.2.2.1 ⟨Nat.zero_le _, Nat.zero_le _⟩) (fun u H locs hp hP hD hS => ?_)
  obtain ⟨aNH, aHk⟩ := u
  have hPD := PDm (ws' := (wd_X9_tell__ cI cC cZ cB cJ a_x xI xH xB vI wY xX yA xY uD rG aNH aHk)) hP hD 3 rfl rfl rfl
  have hP := hPD.1
  have hD := hPD.2
  exact W.vret hx hb hr (fun t ht hW => ⟨⟨(aNH, aHk), rfl, hp, by rw [ht]; exact hP, va_K.moved hW.alike hK, hD⟩, hS.F ht⟩) hS.2.2 eX9_tell___0.2.2.2.2.2.2.2.2
abbrev wd_X9_work (cI cC cZ cB cJ : ClassId) (a_x xI xH xB vI wY xX yA xY uD uJ rW uQ uP uO xO tJ jJ mY pG pD pE eO uS tX uR rY tY rG : Nat) (oY rJ pX rO : Int32) (rD sG vQ : Nat -> Int32) (dN bD bJ aI : Int32) (uU gF pL qF mX oE dY : Nat -> Int32) (jE eW eY dU fY gJ jG nU pQ qI sY uG pY nJ : Int32) (qY qU pN : Nat -> Int32) (qB : Int32) (jK : Nat -> Int32) : va_W := [(a_x, .inr (9, [.ref xI, .ref xH, .ref xB, .ref vI, .ref wY, .ref xX, .ref yA, .ref xY, .ref uD])), (xH, .inr (5, [.ref xB, .ref vI, .ref uJ, .ref rW, .ref uQ, .ref uP, .ref uO, .int oY, .int rJ, .int pX, .int rO])), (uJ, .inl (cI, 8, .inl rD)), (rW, .inl (cI, 128, .inl sG)), (uQ, .inl (cI, 8, .inl vQ)), (xB, .inr (0, [.ref vI, .ref wY, .ref xO])), (vI, .inr (3, [.ref tJ, .ref jJ, .ref mY, .ref pG, .ref pD, .ref pE, .ref eO, .int dN, .int bD, .int bJ, .int aI])), (tJ, .inl (cI, 16, .inl uU)), (jJ, .inl (cI, 16, .inl gF)), (mY, .inl (cI, 16, .inl pL)), (pG, .inl (cI, 16, .inl qF)), (pD, .inl (cI, 8, .inl mX)), (pE, .inl (cI, 8, .inl oE)), (eO, .inl (cI, 5, .inl dY)), (wY, .inr (2, [.int jE, .int eW, .int eY, .int dU, .int fY, .int gJ, .int jG, .int nU])), (xO, .inr (7, [.ref uS, .ref tX, .ref uR, .ref rY, .ref tY, .int pQ, .int qI, .int sY, .int uG, .int pY, .int nJ])), (uS, .inl (cI, 7, .inl qY)), (uR, .inl (cI, 40, .inl qU)), (rY, .inl (cI, 40, .inl pN)), (yA, .inr (6, [.ref rG, .int qB])), (rG, .inl (cI, 16, .inl jK))]
abbrev q_X9_work (dC : Nat -> ClassId) (dI : Nat -> Nat -> Nat) (cI cC cZ cB cJ : ClassId) (A : Nat -> Prop) (a_x xI xH xB vI wY xX yA xY uD uJ rW uQ uP uO xO tJ jJ mY pG pD pE eO uS tX uR rY tY rG : Nat) (dN bD bJ aI : Int32) (uU gF pL qF mX oE dY : Nat -> Int32) (jE eW eY dU fY gJ jG nU pQ qI sY uG pY nJ : Int32) (pN : Nat -> Int32) (post : Int32 -> Int32 -> Int32 -> Int32 -> Int32 -> (Nat -> Int32) -> (Nat -> Int32) -> (Nat -> Int32) -> (Nat -> Int32) -> (Nat -> Int32) -> Int32 -> (Nat -> Int32) -> Prop) : Array Value -> State -> Outcome -> State -> Prop := va_Qi (fun (r : Int32) (u : Int32 × Int32 × Int32 × Int32 × (Nat -> Int32) × (Nat -> Int32) × (Nat -> Int32) × (Nat -> Int32) × (Nat -> Int32) × Int32 × (Nat -> Int32)) => post r u.1 u.2.1 u.2.2.1 u.2.2.2.1 u.2.2.2.2.1 u.2.2.2.2.2.1 u.2.2.2.2.2.2.1 u.2.2.2.2.2.2.2.1 u.2.2.2.2.2.2.2.2.1 u.2.2.2.2.2.2.2.2.2.1 u.2.2.2.2.2.2.2.2.2.2) (fun u t => gB (dC, dI) (tyl cI cC cZ cB cJ) A (wd_X9_work cI cC cZ cB cJ a_x xI xH xB vI wY xX yA xY uD uJ rW uQ uP uO xO tJ jJ mY pG pD pE eO uS tX uR rY tY rG u.1 u.2.1 u.2.2.1 u.2.2.2.1 u.2.2.2.2.1 u.2.2.2.2.2.1 u.2.2.2.2.2.2.1 dN bD bJ aI uU gF pL qF mX oE dY jE eW eY dU fY gJ jG nU pQ qI sY uG pY nJ u.2.2.2.2.2.2.2.1 u.2.2.2.2.2.2.2.2.1 pN u.2.2.2.2.2.2.2.2.2.1 u.2.2.2.2.2.2.2.2.2.2) t) A
abbrev rm_X9_work : Room := { frames := 5, cells := 0, slots := 0, locals := 115 }
def wp_X9_work (post : Int32 -> Int32 -> Int32 -> Int32 -> Int32 -> (Nat -> Int32) -> (Nat -> Int32) -> (Nat -> Int32) -> (Nat -> Int32) -> (Nat -> Int32) -> Int32 -> (Nat -> Int32) -> Prop) (p0 oY rJ pX rO : Int32) (rD sG vQ : Nat -> Int32) (dN bD : Int32) (uU gF pL qF mX oE dY : Nat -> Int32) (jE eW eY dU fY gJ jG pQ : Int32) (qY qU pN : Nat -> Int32) (qB : Int32) (jK : Nat -> Int32) : Prop := wp_X3_areStandings (fun r_1 => (¬ r_1 = 0 -> aZL (fun aCw aEE => wp_X5_timeAll (fun pl_seconds_4 ru_given_5 ru_stack_6 => wp_X5_workSeconds (fun r_7 pl_moves_8 bBJ pl_downs_10 pl_many_11 => wp_X9_tell__ (fun ro_size_12 ro_numbers_13 => post r_7 aCw pl_moves_8 bBJ pl_downs_10 aEE pl_seconds_4 pl_many_11 ru_given_5 ru_stack_6 ro_size_12 ro_numbers_13) pl_moves_8 bBJ pl_downs_10 qB jK) p0 aCw rJ pX rO aEE pl_seconds_4 vQ dN bD mX oE dY fY) aCw aEE sG dN bD uU gF pL mX oE dU pQ qY qU pN) oY rD dN bD uU gF qF mX oE dY jE eW eY gJ jG) /\ (r_1 = 0 -> post (-1) oY rJ pX rO rD sG vQ qY qU qB jK)) p0 bD
set_option maxHeartbeats 4000000 in
set_option maxRecDepth 100000 in
theorem c_X9_work (l : Launch) (dC : Nat -> ClassId) (dI : Nat -> Nat -> Nat) (cI cC cZ cB cJ : ClassId) (a_x xI xH xB vI wY xX yA xY uD uJ rW uQ uP uO xO tJ jJ mY pG pD pE eO uS tX uR rY tY rG sz : Nat) (p0 oY rJ pX rO : Int32) (rD sG vQ : Nat -> Int32) (dN bD bJ aI : Int32) (uU gF pL qF mX oE dY : Nat -> Int32) (jE eW eY dU fY gJ jG nU pQ qI sY uG pY nJ : Int32) (qY qU pN : Nat -> Int32) (qB : Int32) (jK : Nat -> Int32) (post : Int32 -> Int32 -> Int32 -> Int32 -> Int32 -> (Nat -> Int32) -> (Nat -> Int32) -> (Nat -> Int32) -> (Nat -> Int32) -> (Nat -> Int32) -> Int32 -> (Nat -> Int32) -> Prop) (hw : wp_X9_work post p0 oY rJ pX rO rD sG vQ dN bD uU gF pL qF mX oE dY jE eW eY dU fY gJ jG pQ qY qU pN qB jK) : Met l yX9_work (gw yX9_work aPq 3 (some .int)) rm_X9_work (va_Pc [.ref a_x, .int p0] (gPre (dC, dI) (tyl cI cC cZ cB cJ) (wd_X9_work cI cC cZ cB cJ a_x xI xH xB vI wY xX yA xY uD uJ rW uQ uP uO xO tJ jJ mY pG pD pE eO uS tX uR rY tY rG oY rJ pX rO rD sG vQ dN bD bJ aI uU gF pL qF mX oE dY jE eW eY dU fY gJ jG nU pQ qI sY uG pY nJ qY qU pN qB jK) sz)) (q_X9_work dC dI cI cC cZ cB cJ (va_A (wd_X9_work cI cC cZ cB cJ a_x xI xH xB vI wY xX yA xY uD uJ rW uQ uP uO xO tJ jJ mY pG pD pE eO uS tX uR rY tY rG oY rJ pX rO rD sG vQ dN bD bJ aI uU gF pL qF mX oE dY jE eW eY dU fY gJ jG nU pQ qI sY uG pY nJ qY qU pN qB jK) sz) a_x xI xH xB vI wY xX yA xY uD uJ rW uQ uP uO xO tJ jJ mY pG pD pE eO uS tX uR rY tY rG dN bD bJ aI uU gF pL qF mX oE dY jE eW eY dU fY gJ jG nU pQ qI sY uG pY nJ pN post) 0 0 (va_A (wd_X9_work cI cC cZ cB cJ a_x xI xH xB vI wY xX yA xY uD uJ rW uQ uP uO xO tJ jJ mY pG pD pE eO uS tX uR rY tY rG oY rJ pX rO rD sG vQ dN bD bJ aI uU gF pL qF mX oE dY jE eW eY dU fY gJ jG nU pQ qI sY uG pY nJ qY qU pN qB jK) sz) := by
  refine aBJ (own := RX9) (dC, dI) (tyl cI cC cZ cB cJ) (wd_X9_work cI cC cZ cB cJ a_x xI xH xB vI wY xX yA xY uD uJ rW uQ uP uO xO tJ jJ mY pG pD pE eO uS tX uR rY tY rG oY rJ pX rO rD sG vQ dN bD bJ aI uU gF pL qF mX oE dY jE eW eY dU fY gJ jG nU pQ qI sY uG pY nJ qY qU pN qB jK) sz [.ref a_x, .int p0] (fun A => q_X9_work dC dI cI cC cZ cB cJ A a_x xI xH xB vI wY xX yA xY uD uJ rW uQ uP uO xO tJ jJ mY pG pD pE eO uS tX uR rY tY rG dN bD bJ aI uU gF pL qF mX oE dY jE eW eY dU fY gJ jG nU pQ qI sY uG pY nJ pN post) pn_RX9 rfl (lbz rfl) ?_
  intro p e s m args below meth c A H locs ls C0 hP hD hS hl
  have hl : lv_has ls 3 [(0, .ref a_x), (1, .int p0)] := hl
  obtain ⟨hx, hb, hr, hml, hown, hts, hlocks, hA, hK, hN, tL, tM, hZL, hTL, hZM, hTM, hZX⟩ := id C0
  have hp := hw
  unfold wp_X9_work at hp
  refine lv_aload_n hx hb eX9_work_0.1 rfl (lv_at hl 0 rfl) ?_
  refine va_get (D := (dC, dI)) (ci := 9) (v := .ref vI) (C := RX9) (T := TX9) (N := 9) hx hb hts aC3 hown hK hP 0 rfl rfl 3 (lbz rfl) (hts _ q_74) (fun _ h9 => h9) rfl eX9_work_0.2.1 ?_
  refine lv_iload_n hx hb eX9_work_0.2.2.1 rfl (lv_at hl 1 rfl) ?_
  have hm := mgk (wc := (aVM cI cC cZ cB cJ vI tJ jJ mY pG pD pE eO dN bD bJ aI)) hP mk_142 21 rfl rfl rfl
  refine yW hP hD hS hA (yS mk_142) (aAi mk_142) hm.1 hm.2 (aAk _) (zW _) (zF (As := [.int p0]) (rest := []) C0 hP hD hS (yS mk_142) hm.1 (aAl _) 6 3 rfl rfl (c_X3_areStandings l dC dI cI cC cZ cB cJ vI tJ jJ mY pG pD pE eO H.size p0 dN bD bJ aI _ hp) q_483 q_486 q_484 q_485 q_48 h_X3_areStandings rfl rfl ⟨lbz rfl, lbz rfl⟩ rfl rfl hl.1 rfl (lv_room (lbz rfl)) eX9_work_0.2.2.2.1 ⟨Nat.zero_le _, Nat.zero_le _⟩) (fun r_1 u H locs hp hP hD hS => ?_)
  have hPD := PDm (ws' := (wd_X9_work cI cC cZ cB cJ a_x xI xH xB vI wY xX yA xY uD uJ rW uQ uP uO xO tJ jJ mY pG pD pE eO uS tX uR rY tY rG oY rJ pX rO rD sG vQ dN bD bJ aI uU gF pL qF mX oE dY jE eW eY dU fY gJ jG nU pQ qI sY uG pY nJ qY qU pN qB jK)) hP hD 21 rfl rfl rfl
  have hP := hPD.1
  have hD := hPD.2
  refine lv_if_ne (tgt := 13) hx hb eX9_work_0.2.2.2.2.1 (by decide) (fun hc => ?_) (fun hc => ?_)
  · have hp := hp.1 hc
    refine lv_aload_n hx hb eX9_work_0.2.2.2.2.2.2.2.1 rfl (lv_at hl 0 rfl) ?_
    refine va_get (D := (dC, dI)) (ci := 9) (v := .ref xH) (C := RX9) (T := TX9) (N := 9) hx hb hts aC3 hown hK hP 0 rfl rfl 1 (lbz rfl) (hts _ aOt) (fun _ h9 => h9) rfl eX9_work_0.2.2.2.2.2.2.2.2.1 ?_
    have hm := mgk (wc := (aVN cI cC cZ cB cJ xH xB vI uJ rW uQ uP uO wY xO tJ jJ mY pG pD pE eO oY rJ pX rO rD dN bD bJ aI uU gF qF mX oE dY jE eW eY dU fY gJ jG nU)) hP mk_143 21 rfl rfl rfl
    refine aBn hP hD hS hA (yS mk_143) (aAi mk_143) hm.1 hm.2 (aAk _) (zW _) (zF (As := []) (rest := []) C0 hP hD hS (yS mk_143) hm.1 (aAl _) 1 5 rfl rfl (c_X5_look l dC dI cI cC cZ cB cJ xH xB vI uJ rW uQ uP uO wY xO tJ jJ mY pG pD pE eO H.size oY rJ pX rO rD dN bD bJ aI uU gF qF mX oE dY jE eW eY dU fY gJ jG nU _ hp) q_445 q_448 q_446 q_447 aRn h_X5_look rfl rfl ⟨lbz rfl, lbz rfl⟩ rfl rfl hl.1 rfl (lv_room (lbz rfl)) eX9_work_0.2.2.2.2.2.2.2.2.2.1 ⟨Nat.zero_le _, Nat.zero_le _⟩) (fun u H locs hp hP hD hS => ?_)
    obtain ⟨aCw, aEE⟩ := u
    have hPD := PDm (ws' := (wd_X9_work cI cC cZ cB cJ a_x xI xH xB vI wY xX yA xY uD uJ rW uQ uP uO xO tJ jJ mY pG pD pE eO uS tX uR rY tY rG aCw rJ pX rO aEE sG vQ dN bD bJ aI uU gF pL qF mX oE dY jE eW eY dU fY gJ jG nU pQ qI sY uG pY nJ qY qU pN qB jK)) hP hD 21 rfl rfl rfl
    have hP := hPD.1
    have hD := hPD.2
    refine lv_aload_n hx hb eX9_work_0.2.2.2.2.2.2.2.2.2.2.1 rfl (lv_at hl 0 rfl) ?_
    refine va_get (D := (dC, dI)) (ci := 9) (v := .ref xH) (C := RX9) (T := TX9) (N := 9) hx hb hts aC3 hown hK hP 0 rfl rfl 1 (lbz rfl) (hts _ aOt) (fun _ h9 => h9) rfl eX9_work_0.2.2.2.2.2.2.2.2.2.2.2.1 ?_
    have hm := mgk (wc := (aF4 cI cC cZ cB cJ xH xB vI uJ rW uQ uP uO wY xO tJ jJ mY pG pD pE eO uS tX uR rY tY aCw rJ pX rO aEE sG dN bD bJ aI uU gF pL mX oE jE eW eY dU fY gJ jG nU pQ qI sY uG pY nJ qY qU pN)) hP mk_144 21 rfl rfl rfl
    refine aBn hP hD hS hA (yS mk_144) (aAi mk_144) hm.1 hm.2 (aAk _) (zW _) (zF (As := []) (rest := []) C0 hP hD hS (yS mk_144) hm.1 (aAl _) 1 5 rfl rfl (c_X5_timeAll l dC dI cI cC cZ cB cJ xH xB vI uJ rW uQ uP uO wY xO tJ jJ mY pG pD pE eO uS tX uR rY tY H.size aCw rJ pX rO aEE sG dN bD bJ aI uU gF pL mX oE jE eW eY dU fY gJ jG nU pQ qI sY uG pY nJ qY qU pN _ hp) q_524 q_527 q_525 q_526 aRn h_X5_timeAll rfl rfl ⟨lbz rfl, lbz rfl⟩ rfl rfl hl.1 rfl (lv_room (lbz rfl)) eX9_work_0.2.2.2.2.2.2.2.2.2.2.2.2.1 ⟨Nat.zero_le _, Nat.zero_le _⟩) (fun u H locs hp hP hD hS => ?_)
    obtain ⟨pl_seconds_4, ru_given_5, ru_stack_6⟩ := u
    have hPD := PDm (ws' := (wd_X9_work cI cC cZ cB cJ a_x xI xH xB vI wY xX yA xY uD uJ rW uQ uP uO xO tJ jJ mY pG pD pE eO uS tX uR rY tY rG aCw rJ pX rO aEE pl_seconds_4 vQ dN bD bJ aI uU gF pL qF mX oE dY jE eW eY dU fY gJ jG nU pQ qI sY uG pY nJ ru_given_5 ru_stack_6 pN qB jK)) hP hD 21 rfl rfl rfl
    have hP := hPD.1
    have hD := hPD.2
    refine lv_aload_n hx hb eX9_work_0.2.2.2.2.2.2.2.2.2.2.2.2.2.1 rfl (lv_at hl 0 rfl) ?_
    refine va_get (D := (dC, dI)) (ci := 9) (v := .ref xH) (C := RX9) (T := TX9) (N := 9) hx hb hts aC3 hown hK hP 0 rfl rfl 1 (lbz rfl) (hts _ aOt) (fun _ h9 => h9) rfl eX9_work_0.2.2.2.2.2.2.2.2.2.2.2.2.2.2.1 ?_
    refine lv_iload_n hx hb eX9_work_0.2.2.2.2.2.2.2.2.2.2.2.2.2.2.2 rfl (lv_at hl 1 rfl) ?_
    have hm := mgk (wc := (aCM cI cC cZ cB cJ xH xB vI uJ rW uQ uP uO wY xO tJ jJ mY pG pD pE eO aCw rJ pX rO aEE pl_seconds_4 vQ dN bD bJ aI mX oE dY jE eW eY dU fY gJ jG nU)) hP mk_145 21 rfl rfl rfl
    refine yW hP hD hS hA (yS mk_145) (aAi mk_145) hm.1 hm.2 (aAk _) (zW _) (zF (As := [.int p0]) (rest := []) C0 hP hD hS (yS mk_145) hm.1 (aAl _) 1 5 rfl rfl (c_X5_workSeconds l dC dI cI cC cZ cB cJ xH xB vI uJ rW uQ uP uO wY xO tJ jJ mY pG pD pE eO H.size p0 aCw rJ pX rO aEE pl_seconds_4 vQ dN bD bJ aI mX oE dY jE eW eY dU fY gJ jG nU _ hp) q_528 q_531 q_529 q_530 aRn h_X5_workSeconds rfl rfl ⟨lbz rfl, lbz rfl⟩ rfl rfl hl.1 rfl (lv_room (lbz rfl)) eX9_work_32.1 ⟨Nat.zero_le _, Nat.zero_le _⟩) (fun r_7 u H locs hp hP hD hS => ?_)
    obtain ⟨pl_moves_8, bBJ, pl_downs_10, pl_many_11⟩ := u
    have hPD := PDm (ws' := (wd_X9_work cI cC cZ cB cJ a_x xI xH xB vI wY xX yA xY uD uJ rW uQ uP uO xO tJ jJ mY pG pD pE eO uS tX uR rY tY rG aCw pl_moves_8 bBJ pl_downs_10 aEE pl_seconds_4 pl_many_11 dN bD bJ aI uU gF pL qF mX oE dY jE eW eY dU fY gJ jG nU pQ qI sY uG pY nJ ru_given_5 ru_stack_6 pN qB jK)) hP hD 21 rfl rfl rfl
    have hP := hPD.1
    have hD := hPD.2
    refine lv_istore_n (lv' := [(2, .int r_7), (0, .ref a_x), (1, .int p0)]) hx hb eX9_work_32.2.1 rfl hl (by decide) rfl (fun ls hl => ?_)
    refine lv_aload_n hx hb eX9_work_32.2.2.1 rfl (lv_at hl 1 rfl) ?_
    refine lv_aload_n hx hb eX9_work_32.2.2.2.1 rfl (lv_at hl 1 rfl) ?_
    refine va_get (D := (dC, dI)) (ci := 9) (v := .ref xH) (C := RX9) (T := TX9) (N := 9) hx hb hts aC3 hown hK hP 0 rfl rfl 1 (lbz rfl) (hts _ aOt) (fun _ h9 => h9) rfl eX9_work_32.2.2.2.2.1 ?_
    refine va_get (D := (dC, dI)) (ci := 5) (v := .int pl_moves_8) (C := RX5) (T := TX5) (N := 11) hx hb hts i_X5 hown hK hP 1 rfl rfl 8 (lbz rfl) (hts _ q_532) (fun _ h9 => h9) rfl eX9_work_32.2.2.2.2.2.1 ?_
    refine lv_aload_n hx hb eX9_work_32.2.2.2.2.2.2.1 rfl (lv_at hl 1 rfl) ?_
    refine va_get (D := (dC, dI)) (ci := 9) (v := .ref xH) (C := RX9) (T := TX9) (N := 9) hx hb hts aC3 hown hK hP 0 rfl rfl 1 (lbz rfl) (hts _ aOt) (fun _ h9 => h9) rfl eX9_work_32.2.2.2.2.2.2.2.1 ?_
    refine va_get (D := (dC, dI)) (ci := 5) (v := .int bBJ) (C := RX5) (T := TX5) (N := 11) hx hb hts i_X5 hown hK hP 1 rfl rfl 9 (lbz rfl) (hts _ q_533) (fun _ h9 => h9) rfl eX9_work_32.2.2.2.2.2.2.2.2.1 ?_
    refine lv_aload_n hx hb eX9_work_32.2.2.2.2.2.2.2.2.2.1 rfl (lv_at hl 1 rfl) ?_
    refine va_get (D := (dC, dI)) (ci := 9) (v := .ref xH) (C := RX9) (T := TX9) (N := 9) hx hb hts aC3 hown hK hP 0 rfl rfl 1 (lbz rfl) (hts _ aOt) (fun _ h9 => h9) rfl eX9_work_32.2.2.2.2.2.2.2.2.2.2.1 ?_
    refine va_get (D := (dC, dI)) (ci := 5) (v := .int pl_downs_10) (C := RX5) (T := TX5) (N := 11) hx hb hts i_X5 hown hK hP 1 rfl rfl 10 (lbz rfl) (hts _ q_534) (fun _ h9 => h9) rfl eX9_work_32.2.2.2.2.2.2.2.2.2.2.2.1 ?_
    have hm := mgk (wc := (wd_X9_tell__ cI cC cZ cB cJ a_x xI xH xB vI wY xX yA xY uD rG qB jK)) hP mk_146 21 rfl rfl rfl
    refine aBn hP hD hS hA (yS mk_146) (aAi mk_146) hm.1 hm.2 (aAk _) (zW _) (zF (As := [.int pl_moves_8, .int bBJ, .int pl_downs_10]) (rest := []) C0 hP hD hS (yS mk_146) hm.1 (aAl _) 0 9 rfl rfl (c_X9_tell__ l dC dI cI cC cZ cB cJ a_x xI xH xB vI wY xX yA xY uD rG H.size pl_moves_8 bBJ pl_downs_10 qB jK _ hp) q_535 q_538 q_536 q_537 aIl h_X9_tell__ rfl rfl ⟨lbz rfl, lbz rfl⟩ rfl rfl hl.1 rfl (lv_room (lbz rfl)) eX9_work_32.2.2.2.2.2.2.2.2.2.2.2.2.1 ⟨Nat.zero_le _, Nat.zero_le _⟩) (fun u H locs hp hP hD hS => ?_)
    obtain ⟨ro_size_12, ro_numbers_13⟩ := u
    have hPD := PDm (ws' := (wd_X9_work cI cC cZ cB cJ a_x xI xH xB vI wY xX yA xY uD uJ rW uQ uP uO xO tJ jJ mY pG pD pE eO uS tX uR rY tY rG aCw pl_moves_8 bBJ pl_downs_10 aEE pl_seconds_4 pl_many_11 dN bD bJ aI uU gF pL qF mX oE dY jE eW eY dU fY gJ jG nU pQ qI sY uG pY nJ ru_given_5 ru_stack_6 pN ro_size_12 ro_numbers_13)) hP hD 21 rfl rfl rfl
    have hP := hPD.1
    have hD := hPD.2
    refine lv_iload_n hx hb eX9_work_32.2.2.2.2.2.2.2.2.2.2.2.2.2.1 rfl (lv_at hl 0 rfl) ?_
    exact W.iret (v := r_7) hx hb hr (fun t ht hW => ⟨⟨r_7, (aCw, pl_moves_8, bBJ, pl_downs_10, aEE, pl_seconds_4, pl_many_11, ru_given_5, ru_stack_6, ro_size_12, ro_numbers_13), rfl, hp, by rw [ht]; exact hP, va_K.moved hW.alike hK, hD⟩, hS.F ht⟩) hS.2.2 eX9_work_32.2.2.2.2.2.2.2.2.2.2.2.2.2.2
  · have hp := hp.2 hc
    refine lv_iconst (v := (-1)) hx hb eX9_work_0.2.2.2.2.2.1 aEJ ?_
    exact W.iret (v := (-1)) hx hb hr (fun t ht hW => ⟨⟨(-1), (oY, rJ, pX, rO, rD, sG, vQ, qY, qU, qB, jK), rfl, hp, by rw [ht]; exact hP, va_K.moved hW.alike hK, hD⟩, hS.F ht⟩) hS.2.2 eX9_work_0.2.2.2.2.2.2.1
abbrev aHd (cI cC cZ cB cJ : ClassId) (a_x xI xH xB vI wY xX yA xY uD uJ rW uQ uP uO xO tJ jJ mY pG pD pE eO uS tX uR rY tY rG : Nat) (oY rJ pX rO : Int32) (rD sG vQ : Nat -> Int32) (dN bD bJ aI : Int32) (uU gF pL qF mX oE dY : Nat -> Int32) (jE eW eY dU fY gJ jG nU pQ qI sY uG pY nJ : Int32) (qY qU pN : Nat -> Int32) (qB : Int32) (jK : Nat -> Int32) : va_W := [(a_x, .inr (9, [.ref xI, .ref xH, .ref xB, .ref vI, .ref wY, .ref xX, .ref yA, .ref xY, .ref uD])), (xH, .inr (5, [.ref xB, .ref vI, .ref uJ, .ref rW, .ref uQ, .ref uP, .ref uO, .int oY, .int rJ, .int pX, .int rO])), (uJ, .inl (cI, 8, .inl rD)), (rW, .inl (cI, 128, .inl sG)), (uQ, .inl (cI, 8, .inl vQ)), (xB, .inr (0, [.ref vI, .ref wY, .ref xO])), (vI, .inr (3, [.ref tJ, .ref jJ, .ref mY, .ref pG, .ref pD, .ref pE, .ref eO, .int dN, .int bD, .int bJ, .int aI])), (tJ, .inl (cI, 16, .inl uU)), (jJ, .inl (cI, 16, .inl gF)), (mY, .inl (cI, 16, .inl pL)), (pG, .inl (cI, 16, .inl qF)), (pD, .inl (cI, 8, .inl mX)), (pE, .inl (cI, 8, .inl oE)), (eO, .inl (cI, 5, .inl dY)), (wY, .inr (2, [.int jE, .int eW, .int eY, .int dU, .int fY, .int gJ, .int jG, .int nU])), (xO, .inr (7, [.ref uS, .ref tX, .ref uR, .ref rY, .ref tY, .int pQ, .int qI, .int sY, .int uG, .int pY, .int nJ])), (uS, .inl (cI, 7, .inl qY)), (uR, .inl (cI, 40, .inl qU)), (rY, .inl (cI, 40, .inl pN)), (yA, .inr (6, [.ref rG, .int qB])), (rG, .inl (cI, 16, .inl jK))]
abbrev q_X9_soonest (dC : Nat -> ClassId) (dI : Nat -> Nat -> Nat) (cI cC cZ cB cJ : ClassId) (A : Nat -> Prop) (a_x xI xH xB vI wY xX yA xY uD uJ rW uQ uP uO xO tJ jJ mY pG pD pE eO uS tX uR rY tY rG : Nat) (dN bD bJ aI : Int32) (uU gF pL qF mX oE dY : Nat -> Int32) (jE eW eY dU fY gJ jG nU pQ qI sY uG pY nJ : Int32) (pN : Nat -> Int32) (post : Int32 -> Int32 -> Int32 -> Int32 -> Int32 -> (Nat -> Int32) -> (Nat -> Int32) -> (Nat -> Int32) -> (Nat -> Int32) -> (Nat -> Int32) -> Int32 -> (Nat -> Int32) -> Prop) : Array Value -> State -> Outcome -> State -> Prop := va_Qi (fun (r : Int32) (u : Int32 × Int32 × Int32 × Int32 × (Nat -> Int32) × (Nat -> Int32) × (Nat -> Int32) × (Nat -> Int32) × (Nat -> Int32) × Int32 × (Nat -> Int32)) => post r u.1 u.2.1 u.2.2.1 u.2.2.2.1 u.2.2.2.2.1 u.2.2.2.2.2.1 u.2.2.2.2.2.2.1 u.2.2.2.2.2.2.2.1 u.2.2.2.2.2.2.2.2.1 u.2.2.2.2.2.2.2.2.2.1 u.2.2.2.2.2.2.2.2.2.2) (fun u t => gB (dC, dI) (tyl cI cC cZ cB cJ) A (aHd cI cC cZ cB cJ a_x xI xH xB vI wY xX yA xY uD uJ rW uQ uP uO xO tJ jJ mY pG pD pE eO uS tX uR rY tY rG u.1 u.2.1 u.2.2.1 u.2.2.2.1 u.2.2.2.2.1 u.2.2.2.2.2.1 u.2.2.2.2.2.2.1 dN bD bJ aI uU gF pL qF mX oE dY jE eW eY dU fY gJ jG nU pQ qI sY uG pY nJ u.2.2.2.2.2.2.2.1 u.2.2.2.2.2.2.2.2.1 pN u.2.2.2.2.2.2.2.2.2.1 u.2.2.2.2.2.2.2.2.2.2) t) A
abbrev rm_X9_soonest : Room := { frames := 5, cells := 0, slots := 0, locals := 115 }
section S_X9_soonest
variable {p : Program} {l : Launch} {e : Env} {s : State} {m : MethodId} {args : Array Value} {below : List Frame} {meth : Method} {c : Code} {dC : Nat -> ClassId} {dI : Nat -> Nat -> Nat} {cI cC cZ cB cJ : ClassId} {A : Nat -> Prop} {a_x xI xH xB vI wY xX yA xY uD uJ rW uQ uP uO xO tJ jJ mY pG pD pE eO uS tX uR rY tY rG : Nat} {dN bD bJ aI : Int32} {uU gF pL qF mX oE dY : Nat -> Int32} {jE eW eY dU fY gJ jG nU pQ qI sY uG pY nJ : Int32} {pN : Nat -> Int32} {post : Int32 -> Int32 -> Int32 -> Int32 -> Int32 -> (Nat -> Int32) -> (Nat -> Int32) -> (Nat -> Int32) -> (Nat -> Int32) -> (Nat -> Int32) -> Int32 -> (Nat -> Int32) -> Prop}
def ws_X9_soonest_100 (post : Int32 -> Int32 -> Int32 -> Int32 -> Int32 -> (Nat -> Int32) -> (Nat -> Int32) -> (Nat -> Int32) -> (Nat -> Int32) -> (Nat -> Int32) -> Int32 -> (Nat -> Int32) -> Prop) (K33 : Int32 -> Int32 -> Int32 -> Int32 -> Int32 -> Int32 -> Int32 -> (Nat -> Int32) -> (Nat -> Int32) -> (Nat -> Int32) -> (Nat -> Int32) -> (Nat -> Int32) -> Int32 -> (Nat -> Int32) -> Prop) (dN bD : Int32) (uU gF pL qF mX oE dY : Nat -> Int32) (jE eW eY dU fY gJ jG pQ : Int32) (pN : Nat -> Int32) (x1 x2 x3 oY rJ pX rO : Int32) (rD sG vQ qY qU : Nat -> Int32) (qB : Int32) (jK : Nat -> Int32) : Prop := ∀ aHb : Int32, aHb = x3 + 1 -> K33 x1 x2 aHb oY rJ pX rO rD sG vQ qY qU qB jK
set_option maxHeartbeats 4000000 in
set_option maxRecDepth 100000 in
theorem ks_X9_soonest_100 (C0 : gc aDF (some .int) 5 RX9 (dC, dI) (tyl cI cC cZ cB cJ) A p s m args meth c) {K33 : Int32 -> Int32 -> Int32 -> Int32 -> Int32 -> Int32 -> Int32 -> (Nat -> Int32) -> (Nat -> Int32) -> (Nat -> Int32) -> (Nat -> Int32) -> (Nat -> Int32) -> Int32 -> (Nat -> Int32) -> Prop} (hK33 : ∀ (x1 : Int32) (x2 : Int32) (x3 : Int32) (oY : Int32) (rJ : Int32) (pX : Int32) (rO : Int32) (rD : Nat -> Int32) (sG : Nat -> Int32) (vQ : Nat -> Int32) (qY : Nat -> Int32) (qU : Nat -> Int32) (qB : Int32) (jK : Nat -> Int32) (H : Heap) (locs : List Loc) (ls : Array Slot), K33 x1 x2 x3 oY rJ pX rO rD sG vQ qY qU qB jK -> va_P (dC, dI) classes (aHd cI cC cZ cB cJ a_x xI xH xB vI wY xX yA xY uD uJ rW uQ uP uO xO tJ jJ mY pG pD pE eO uS tX uR rY tY rG oY rJ pX rO rD sG vQ dN bD bJ aI uU gF pL qF mX oE dY jE eW eY dU fY gJ jG nU pQ qI sY uG pY nJ qY qU pN qB jK) H -> va_D A (aHd cI cC cZ cB cJ a_x xI xH xB vI wY xX yA xY uD uJ rW uQ uP uO xO tJ jJ mY pG pD pE eO uS tX uR rY tY rG oY rJ pX rO rD sG vQ dN bD bJ aI uU gF pL qF mX oE dY jE eW eY dU fY gJ jG nU pQ qI sY uG pY nJ qY qU pN qB jK) -> va_S A s.heap H locs -> lv_has ls 5 [(0, .ref a_x), (1, .int x1), (2, .int x2), (3, .int x3)] -> W p l e rm_X9_soonest s m args below meth c H locs 0 0 (MQ below (q_X9_soonest dC dI cI cC cZ cB cJ A a_x xI xH xB vI wY xX yA xY uD uJ rW uQ uP uO xO tJ jJ mY pG pD pE eO uS tX uR rY tY rG dN bD bJ aI uU gF pL qF mX oE dY jE eW eY dU fY gJ jG nU pQ qI sY uG pY nJ pN post) args s 0 0 A) (F0 m 33 ls [])) : ∀ (x1 x2 x3 oY rJ pX rO : Int32) (rD sG vQ qY qU : Nat -> Int32) (qB : Int32) (jK : Nat -> Int32) (H : Heap) (locs : List Loc) (ls : Array Slot), (ws_X9_soonest_100 post K33 dN bD uU gF pL qF mX oE dY jE eW eY dU fY gJ jG pQ pN) x1 x2 x3 oY rJ pX rO rD sG vQ qY qU qB jK -> va_P (dC, dI) classes (aHd cI cC cZ cB cJ a_x xI xH xB vI wY xX yA xY uD uJ rW uQ uP uO xO tJ jJ mY pG pD pE eO uS tX uR rY tY rG oY rJ pX rO rD sG vQ dN bD bJ aI uU gF pL qF mX oE dY jE eW eY dU fY gJ jG nU pQ qI sY uG pY nJ qY qU pN qB jK) H -> va_D A (aHd cI cC cZ cB cJ a_x xI xH xB vI wY xX yA xY uD uJ rW uQ uP uO xO tJ jJ mY pG pD pE eO uS tX uR rY tY rG oY rJ pX rO rD sG vQ dN bD bJ aI uU gF pL qF mX oE dY jE eW eY dU fY gJ jG nU pQ qI sY uG pY nJ qY qU pN qB jK) -> va_S A s.heap H locs -> lv_has ls 5 [(0, .ref a_x), (1, .int x1), (2, .int x2), (3, .int x3)] -> W p l e rm_X9_soonest s m args below meth c H locs 0 0 (MQ below (q_X9_soonest dC dI cI cC cZ cB cJ A a_x xI xH xB vI wY xX yA xY uD uJ rW uQ uP uO xO tJ jJ mY pG pD pE eO uS tX uR rY tY rG dN bD bJ aI uU gF pL qF mX oE dY jE eW eY dU fY gJ jG nU pQ qI sY uG pY nJ pN post) args s 0 0 A) (F0 m 100 ls []) := by
  obtain ⟨hx, hb, hr, hml, hown, hts, hlocks, hA, hK, hN, tL, tM, hZL, hTL, hZM, hTM, hZX⟩ := id C0
  intro x1 x2 x3 oY rJ pX rO rD sG vQ qY qU qB jK H locs ls hp hP hD hS hl
  unfold ws_X9_soonest_100 at hp
  obtain ⟨aHb, ev_16⟩ : ∃ y : Int32, y = x3 + 1 := ⟨_, rfl⟩
  refine lv_iinc (v := aHb) (lv' := [(3, .int aHb), (0, .ref a_x), (1, .int x1), (2, .int x2)]) hx hb bBf.2.2.2.2.1 hl (k := 3) rfl (by rw [ev_16]; rfl) (by decide) rfl (fun ls hl => ?_)
  have hp := hp aHb ev_16
  refine lv_goto (tgt := 33) hx hb bBf.2.2.2.2.2.1 (by decide) ?_
  exact hK33 x1 x2 aHb oY rJ pX rO rD sG vQ qY qU qB jK H locs ls hp hP hD hS (lv_sub hl [1, 2, 3, 0] rfl)
def ws_X9_soonest_95 (post : Int32 -> Int32 -> Int32 -> Int32 -> Int32 -> (Nat -> Int32) -> (Nat -> Int32) -> (Nat -> Int32) -> (Nat -> Int32) -> (Nat -> Int32) -> Int32 -> (Nat -> Int32) -> Prop) (K33 : Int32 -> Int32 -> Int32 -> Int32 -> Int32 -> Int32 -> Int32 -> (Nat -> Int32) -> (Nat -> Int32) -> (Nat -> Int32) -> (Nat -> Int32) -> (Nat -> Int32) -> Int32 -> (Nat -> Int32) -> Prop) (dN bD : Int32) (uU gF pL qF mX oE dY : Nat -> Int32) (jE eW eY dU fY gJ jG pQ : Int32) (pN : Nat -> Int32) (x3 x4 oY rJ pX rO : Int32) (rD sG vQ qY qU : Nat -> Int32) (qB : Int32) (jK : Nat -> Int32) : Prop := ws_X9_soonest_100 post K33 dN bD uU gF pL qF mX oE dY jE eW eY dU fY gJ jG pQ pN x3 x4 x3 oY rJ pX rO rD sG vQ qY qU qB jK
set_option maxHeartbeats 4000000 in
set_option maxRecDepth 100000 in
theorem ks_X9_soonest_95 (C0 : gc aDF (some .int) 5 RX9 (dC, dI) (tyl cI cC cZ cB cJ) A p s m args meth c) {K33 : Int32 -> Int32 -> Int32 -> Int32 -> Int32 -> Int32 -> Int32 -> (Nat -> Int32) -> (Nat -> Int32) -> (Nat -> Int32) -> (Nat -> Int32) -> (Nat -> Int32) -> Int32 -> (Nat -> Int32) -> Prop} (hK33 : ∀ (x1 : Int32) (x2 : Int32) (x3 : Int32) (oY : Int32) (rJ : Int32) (pX : Int32) (rO : Int32) (rD : Nat -> Int32) (sG : Nat -> Int32) (vQ : Nat -> Int32) (qY : Nat -> Int32) (qU : Nat -> Int32) (qB : Int32) (jK : Nat -> Int32) (H : Heap) (locs : List Loc) (ls : Array Slot), K33 x1 x2 x3 oY rJ pX rO rD sG vQ qY qU qB jK -> va_P (dC, dI) classes (aHd cI cC cZ cB cJ a_x xI xH xB vI wY xX yA xY uD uJ rW uQ uP uO xO tJ jJ mY pG pD pE eO uS tX uR rY tY rG oY rJ pX rO rD sG vQ dN bD bJ aI uU gF pL qF mX oE dY jE eW eY dU fY gJ jG nU pQ qI sY uG pY nJ qY qU pN qB jK) H -> va_D A (aHd cI cC cZ cB cJ a_x xI xH xB vI wY xX yA xY uD uJ rW uQ uP uO xO tJ jJ mY pG pD pE eO uS tX uR rY tY rG oY rJ pX rO rD sG vQ dN bD bJ aI uU gF pL qF mX oE dY jE eW eY dU fY gJ jG nU pQ qI sY uG pY nJ qY qU pN qB jK) -> va_S A s.heap H locs -> lv_has ls 5 [(0, .ref a_x), (1, .int x1), (2, .int x2), (3, .int x3)] -> W p l e rm_X9_soonest s m args below meth c H locs 0 0 (MQ below (q_X9_soonest dC dI cI cC cZ cB cJ A a_x xI xH xB vI wY xX yA xY uD uJ rW uQ uP uO xO tJ jJ mY pG pD pE eO uS tX uR rY tY rG dN bD bJ aI uU gF pL qF mX oE dY jE eW eY dU fY gJ jG nU pQ qI sY uG pY nJ pN post) args s 0 0 A) (F0 m 33 ls [])) : ∀ (x3 x4 oY rJ pX rO : Int32) (rD sG vQ qY qU : Nat -> Int32) (qB : Int32) (jK : Nat -> Int32) (H : Heap) (locs : List Loc) (ls : Array Slot), (ws_X9_soonest_95 post K33 dN bD uU gF pL qF mX oE dY jE eW eY dU fY gJ jG pQ pN) x3 x4 oY rJ pX rO rD sG vQ qY qU qB jK -> va_P (dC, dI) classes (aHd cI cC cZ cB cJ a_x xI xH xB vI wY xX yA xY uD uJ rW uQ uP uO xO tJ jJ mY pG pD pE eO uS tX uR rY tY rG oY rJ pX rO rD sG vQ dN bD bJ aI uU gF pL qF mX oE dY jE eW eY dU fY gJ jG nU pQ qI sY uG pY nJ qY qU pN qB jK) H -> va_D A (aHd cI cC cZ cB cJ a_x xI xH xB vI wY xX yA xY uD uJ rW uQ uP uO xO tJ jJ mY pG pD pE eO uS tX uR rY tY rG oY rJ pX rO rD sG vQ dN bD bJ aI uU gF pL qF mX oE dY jE eW eY dU fY gJ jG nU pQ qI sY uG pY nJ qY qU pN qB jK) -> va_S A s.heap H locs -> lv_has ls 5 [(0, .ref a_x), (3, .int x3), (4, .int x4)] -> W p l e rm_X9_soonest s m args below meth c H locs 0 0 (MQ below (q_X9_soonest dC dI cI cC cZ cB cJ A a_x xI xH xB vI wY xX yA xY uD uJ rW uQ uP uO xO tJ jJ mY pG pD pE eO uS tX uR rY tY rG dN bD bJ aI uU gF pL qF mX oE dY jE eW eY dU fY gJ jG nU pQ qI sY uG pY nJ pN post) args s 0 0 A) (F0 m 95 ls []) := by
  obtain ⟨hx, hb, hr, hml, hown, hts, hlocks, hA, hK, hN, tL, tM, hZL, hTL, hZM, hTM, hZX⟩ := id C0
  intro x3 x4 oY rJ pX rO rD sG vQ qY qU qB jK H locs ls hp hP hD hS hl
  unfold ws_X9_soonest_95 at hp
  refine lv_iload_n hx hb bBf.1 rfl (lv_at hl 1 rfl) ?_
  refine lv_istore_n (lv' := [(1, .int x3), (0, .ref a_x), (3, .int x3), (4, .int x4)]) hx hb bBf.2.1 rfl hl (by decide) rfl (fun ls hl => ?_)
  refine lv_iload hx hb bBf.2.2.1 (lv_at hl 3 rfl) ?_
  refine lv_istore_n (lv' := [(2, .int x4), (1, .int x3), (0, .ref a_x), (3, .int x3), (4, .int x4)]) hx hb bBf.2.2.2.1 rfl hl (by decide) rfl (fun ls hl => ?_)
  exact ks_X9_soonest_100 C0 hK33 x3 x4 x3 oY rJ pX rO rD sG vQ qY qU qB jK H locs ls hp hP hD hS (lv_sub hl [2, 1, 0, 3] rfl)
def ws_X9_soonest_33 (post : Int32 -> Int32 -> Int32 -> Int32 -> Int32 -> (Nat -> Int32) -> (Nat -> Int32) -> (Nat -> Int32) -> (Nat -> Int32) -> (Nat -> Int32) -> Int32 -> (Nat -> Int32) -> Prop) (next : Int32 -> Int32 -> Int32 -> Int32 -> Int32 -> Int32 -> Int32 -> (Nat -> Int32) -> (Nat -> Int32) -> (Nat -> Int32) -> (Nat -> Int32) -> (Nat -> Int32) -> Int32 -> (Nat -> Int32) -> Prop) (dN bD : Int32) (uU gF pL qF mX oE dY : Nat -> Int32) (jE eW eY dU fY gJ jG pQ : Int32) (pN : Nat -> Int32) (x1 x2 x3 oY rJ pX rO : Int32) (rD sG vQ qY qU : Nat -> Int32) (qB : Int32) (jK : Nat -> Int32) : Prop := aHs (fun r_12 => (r_12 <= x3 -> aYk (fun ro_size_13 ro_numbers_14 => post x2 oY rJ pX rO rD sG vQ qY qU ro_size_13 ro_numbers_14) x1 qB jK) /\ (¬ r_12 <= x3 -> aPV (fun r_15 => (¬ (oY &&& (r_15 ^^^ (-1))) = 0 -> ws_X9_soonest_100 post next dN bD uU gF pL qF mX oE dY jE eW eY dU fY gJ jG pQ pN x1 x2 x3 oY rJ pX rO rD sG vQ qY qU qB jK) /\ ((oY &&& (r_15 ^^^ (-1))) = 0 -> wp_X5_workSeconds (fun r_17 pl_moves_18 pl_picking_19 pl_downs_20 pl_many_21 => (r_17 < x2 -> ws_X9_soonest_95 post next dN bD uU gF pL qF mX oE dY jE eW eY dU fY gJ jG pQ pN x3 r_17 oY pl_moves_18 pl_picking_19 pl_downs_20 rD sG pl_many_21 qY qU qB jK) /\ (¬ r_17 < x2 -> (¬ r_17 = x2 -> ws_X9_soonest_100 post next dN bD uU gF pL qF mX oE dY jE eW eY dU fY gJ jG pQ pN x1 x2 x3 oY pl_moves_18 pl_picking_19 pl_downs_20 rD sG pl_many_21 qY qU qB jK) /\ (r_17 = x2 -> wp_X9_isFewer (fun r_22 => (r_22 = 0 -> ws_X9_soonest_100 post next dN bD uU gF pL qF mX oE dY jE eW eY dU fY gJ jG pQ pN x1 x2 x3 oY pl_moves_18 pl_picking_19 pl_downs_20 rD sG pl_many_21 qY qU qB jK) /\ (¬ r_22 = 0 -> ws_X9_soonest_95 post next dN bD uU gF pL qF mX oE dY jE eW eY dU fY gJ jG pQ pN x3 r_17 oY pl_moves_18 pl_picking_19 pl_downs_20 rD sG pl_many_21 qY qU qB jK)) x3 x1))) x3 oY rJ pX rO rD sG vQ dN bD mX oE dY fY)) x3 rD bD)) bD
noncomputable def wb_X9_soonest_33 (post : Int32 -> Int32 -> Int32 -> Int32 -> Int32 -> (Nat -> Int32) -> (Nat -> Int32) -> (Nat -> Int32) -> (Nat -> Int32) -> (Nat -> Int32) -> Int32 -> (Nat -> Int32) -> Prop) (dN bD : Int32) (uU gF pL qF mX oE dY : Nat -> Int32) (jE eW eY dU fY gJ jG pQ : Int32) (pN : Nat -> Int32) : Nat -> Int32 -> Int32 -> Int32 -> Int32 -> Int32 -> Int32 -> Int32 -> (Nat -> Int32) -> (Nat -> Int32) -> (Nat -> Int32) -> (Nat -> Int32) -> (Nat -> Int32) -> Int32 -> (Nat -> Int32) -> Prop := fun n => Nat.rec (motive := fun _ => Int32 -> Int32 -> Int32 -> Int32 -> Int32 -> Int32 -> Int32 -> (Nat -> Int32) -> (Nat -> Int32) -> (Nat -> Int32) -> (Nat -> Int32) -> (Nat -> Int32) -> Int32 -> (Nat -> Int32) -> Prop) (fun _ _ _ _ _ _ _ _ _ _ _ _ _ _ => False) (fun _ ih => ws_X9_soonest_33 post ih dN bD uU gF pL qF mX oE dY jE eW eY dU fY gJ jG pQ pN) n
set_option maxHeartbeats 4000000 in
set_option maxRecDepth 100000 in
theorem ks_X9_soonest_33 (C0 : gc aDF (some .int) 5 RX9 (dC, dI) (tyl cI cC cZ cB cJ) A p s m args meth c) {next : Int32 -> Int32 -> Int32 -> Int32 -> Int32 -> Int32 -> Int32 -> (Nat -> Int32) -> (Nat -> Int32) -> (Nat -> Int32) -> (Nat -> Int32) -> (Nat -> Int32) -> Int32 -> (Nat -> Int32) -> Prop} (hKn : ∀ (x1 : Int32) (x2 : Int32) (x3 : Int32) (oY : Int32) (rJ : Int32) (pX : Int32) (rO : Int32) (rD : Nat -> Int32) (sG : Nat -> Int32) (vQ : Nat -> Int32) (qY : Nat -> Int32) (qU : Nat -> Int32) (qB : Int32) (jK : Nat -> Int32) (H : Heap) (locs : List Loc) (ls : Array Slot), next x1 x2 x3 oY rJ pX rO rD sG vQ qY qU qB jK -> va_P (dC, dI) classes (aHd cI cC cZ cB cJ a_x xI xH xB vI wY xX yA xY uD uJ rW uQ uP uO xO tJ jJ mY pG pD pE eO uS tX uR rY tY rG oY rJ pX rO rD sG vQ dN bD bJ aI uU gF pL qF mX oE dY jE eW eY dU fY gJ jG nU pQ qI sY uG pY nJ qY qU pN qB jK) H -> va_D A (aHd cI cC cZ cB cJ a_x xI xH xB vI wY xX yA xY uD uJ rW uQ uP uO xO tJ jJ mY pG pD pE eO uS tX uR rY tY rG oY rJ pX rO rD sG vQ dN bD bJ aI uU gF pL qF mX oE dY jE eW eY dU fY gJ jG nU pQ qI sY uG pY nJ qY qU pN qB jK) -> va_S A s.heap H locs -> lv_has ls 5 [(0, .ref a_x), (1, .int x1), (2, .int x2), (3, .int x3)] -> W p l e rm_X9_soonest s m args below meth c H locs 0 0 (MQ below (q_X9_soonest dC dI cI cC cZ cB cJ A a_x xI xH xB vI wY xX yA xY uD uJ rW uQ uP uO xO tJ jJ mY pG pD pE eO uS tX uR rY tY rG dN bD bJ aI uU gF pL qF mX oE dY jE eW eY dU fY gJ jG nU pQ qI sY uG pY nJ pN post) args s 0 0 A) (F0 m 33 ls [])) : ∀ (x1 x2 x3 oY rJ pX rO : Int32) (rD sG vQ qY qU : Nat -> Int32) (qB : Int32) (jK : Nat -> Int32) (H : Heap) (locs : List Loc) (ls : Array Slot), (ws_X9_soonest_33 post next dN bD uU gF pL qF mX oE dY jE eW eY dU fY gJ jG pQ pN) x1 x2 x3 oY rJ pX rO rD sG vQ qY qU qB jK -> va_P (dC, dI) classes (aHd cI cC cZ cB cJ a_x xI xH xB vI wY xX yA xY uD uJ rW uQ uP uO xO tJ jJ mY pG pD pE eO uS tX uR rY tY rG oY rJ pX rO rD sG vQ dN bD bJ aI uU gF pL qF mX oE dY jE eW eY dU fY gJ jG nU pQ qI sY uG pY nJ qY qU pN qB jK) H -> va_D A (aHd cI cC cZ cB cJ a_x xI xH xB vI wY xX yA xY uD uJ rW uQ uP uO xO tJ jJ mY pG pD pE eO uS tX uR rY tY rG oY rJ pX rO rD sG vQ dN bD bJ aI uU gF pL qF mX oE dY jE eW eY dU fY gJ jG nU pQ qI sY uG pY nJ qY qU pN qB jK) -> va_S A s.heap H locs -> lv_has ls 5 [(0, .ref a_x), (1, .int x1), (2, .int x2), (3, .int x3)] -> W p l e rm_X9_soonest s m args below meth c H locs 0 0 (MQ below (q_X9_soonest dC dI cI cC cZ cB cJ A a_x xI xH xB vI wY xX yA xY uD uJ rW uQ uP uO xO tJ jJ mY pG pD pE eO uS tX uR rY tY rG dN bD bJ aI uU gF pL qF mX oE dY jE eW eY dU fY gJ jG nU pQ qI sY uG pY nJ pN post) args s 0 0 A) (F0 m 33 ls []) := by
  obtain ⟨hx, hb, hr, hml, hown, hts, hlocks, hA, hK, hN, tL, tM, hZL, hTL, hZM, hTM, hZX⟩ := id C0
  intro x1 x2 x3 oY rJ pX rO rD sG vQ qY qU qB jK H locs ls hp hP hD hS hl
  unfold ws_X9_soonest_33 at hp
  refine lv_iload_n hx hb aQz.2.1 rfl (lv_at hl 3 rfl) ?_
  refine lv_aload_n hx hb aQz.2.2.1 rfl (lv_at hl 0 rfl) ?_
  refine va_get (D := (dC, dI)) (ci := 9) (v := .ref vI) (C := RX9) (T := TX9) (N := 9) hx hb hts aC3 hown hK hP 0 rfl rfl 3 (lbz rfl) (hts _ q_74) (fun _ h9 => h9) rfl aQz.2.2.2.1 ?_
  have hm := mgk (wc := (aHS cI cC cZ cB cJ vI tJ jJ mY pG pD pE eO dN bD bJ aI)) hP mk_142 21 rfl rfl rfl
  refine yW hP hD hS hA (yS mk_142) (aAi mk_142) hm.1 hm.2 (aAk _) (zW _) (zF (As := []) (rest := [.int x3]) C0 hP hD hS (yS mk_142) hm.1 (aAl _) 6 3 rfl rfl (aLl l dC dI cI cC cZ cB cJ vI tJ jJ mY pG pD pE eO H.size dN bD bJ aI _ hp) q_426 q_463 q_427 q_428 q_48 aLo rfl rfl ⟨lbz rfl, lbz rfl⟩ rfl rfl hl.1 rfl (lv_room (lbz rfl)) aQz.2.2.2.2.1 ⟨Nat.zero_le _, Nat.zero_le _⟩) (fun r_12 u H locs hp hP hD hS => ?_)
  have hPD := PDm (ws' := (aHd cI cC cZ cB cJ a_x xI xH xB vI wY xX yA xY uD uJ rW uQ uP uO xO tJ jJ mY pG pD pE eO uS tX uR rY tY rG oY rJ pX rO rD sG vQ dN bD bJ aI uU gF pL qF mX oE dY jE eW eY dU fY gJ jG nU pQ qI sY uG pY nJ qY qU pN qB jK)) hP hD 21 rfl rfl rfl
  have hP := hPD.1
  have hD := hPD.2
  refine lv_icmp_ge (tgt := 106) hx hb aQz.2.2.2.2.2.1 (by decide) (fun hc => ?_) (fun hc => ?_)
  · have hp := hp.1 hc
    refine lv_aload_n hx hb bBf.2.2.2.2.2.2.1 rfl (lv_at hl 0 rfl) ?_
    refine lv_iload_n hx hb bBf.2.2.2.2.2.2.2.1 rfl (lv_at hl 1 rfl) ?_
    have hm := mgk (wc := (wd_X9_tell cI cC cZ cB cJ a_x xI xH xB vI wY xX yA xY uD rG qB jK)) hP mk_146 21 rfl rfl rfl
    refine aBn hP hD hS hA (yS mk_146) (aAi mk_146) hm.1 hm.2 (aAk _) (zW _) (zF (As := [.int x1]) (rest := []) C0 hP hD hS (yS mk_146) hm.1 (aAl _) 0 9 rfl rfl (c_X9_tell l dC dI cI cC cZ cB cJ a_x xI xH xB vI wY xX yA xY uD rG H.size x1 qB jK _ hp) q_373 q_376 q_374 q_375 aIl h_X9_tell rfl rfl ⟨lbz rfl, lbz rfl⟩ rfl rfl hl.1 rfl (lv_room (lbz rfl)) bBf.2.2.2.2.2.2.2.2.1 ⟨Nat.zero_le _, Nat.zero_le _⟩) (fun u H locs hp hP hD hS => ?_)
    obtain ⟨ro_size_13, ro_numbers_14⟩ := u
    have hPD := PDm (ws' := (aHd cI cC cZ cB cJ a_x xI xH xB vI wY xX yA xY uD uJ rW uQ uP uO xO tJ jJ mY pG pD pE eO uS tX uR rY tY rG oY rJ pX rO rD sG vQ dN bD bJ aI uU gF pL qF mX oE dY jE eW eY dU fY gJ jG nU pQ qI sY uG pY nJ qY qU pN ro_size_13 ro_numbers_14)) hP hD 21 rfl rfl rfl
    have hP := hPD.1
    have hD := hPD.2
    refine lv_iload_n hx hb bBf.2.2.2.2.2.2.2.2.2.1 rfl (lv_at hl 2 rfl) ?_
    exact W.iret (v := x2) hx hb hr (fun t ht hW => ⟨⟨x2, (oY, rJ, pX, rO, rD, sG, vQ, qY, qU, ro_size_13, ro_numbers_14), rfl, hp, by rw [ht]; exact hP, va_K.moved hW.alike hK, hD⟩, hS.F ht⟩) hS.2.2 bBf.2.2.2.2.2.2.2.2.2.2
  · have hp := hp.2 hc
    refine lv_aload_n hx hb aQz.2.2.2.2.2.2.1 rfl (lv_at hl 0 rfl) ?_
    refine va_get (D := (dC, dI)) (ci := 9) (v := .ref xH) (C := RX9) (T := TX9) (N := 9) hx hb hts aC3 hown hK hP 0 rfl rfl 1 (lbz rfl) (hts _ aOt) (fun _ h9 => h9) rfl aQz.2.2.2.2.2.2.2.1 ?_
    refine va_get (D := (dC, dI)) (ci := 5) (v := .int oY) (C := RX5) (T := TX5) (N := 11) hx hb hts i_X5 hown hK hP 1 rfl rfl 7 (lbz rfl) (hts _ q_462) (fun _ h9 => h9) rfl aQz.2.2.2.2.2.2.2.2.1 ?_
    refine lv_aload_n hx hb aQz.2.2.2.2.2.2.2.2.2.1 rfl (lv_at hl 0 rfl) ?_
    refine va_get (D := (dC, dI)) (ci := 9) (v := .ref xH) (C := RX9) (T := TX9) (N := 9) hx hb hts aC3 hown hK hP 0 rfl rfl 1 (lbz rfl) (hts _ aOt) (fun _ h9 => h9) rfl aQz.2.2.2.2.2.2.2.2.2.2.1 ?_
    refine lv_iload_n hx hb aQz.2.2.2.2.2.2.2.2.2.2.2.1 rfl (lv_at hl 3 rfl) ?_
    have hm := mgk (wc := (aHK cI cC cZ cB cJ xH xB vI uJ rW uQ uP uO tJ jJ mY pG pD pE eO oY rJ pX rO rD dN bD bJ aI)) hP mk_147 21 rfl rfl rfl
    refine yW hP hD hS hA (yS mk_147) (aAi mk_147) hm.1 hm.2 (aAk _) (zW _) (zF (As := [.int x3]) (rest := [.int oY]) C0 hP hD hS (yS mk_147) hm.1 (aAl _) 1 5 rfl rfl (c_X5_reachedBy l dC dI cI cC cZ cB cJ xH xB vI uJ rW uQ uP uO tJ jJ mY pG pD pE eO H.size x3 oY rJ pX rO rD dN bD bJ aI _ hp) q_430 q_472 q_432 q_433 aRn h_X5_reachedBy rfl rfl ⟨lbz rfl, lbz rfl⟩ rfl rfl hl.1 rfl (lv_room (lbz rfl)) aQz.2.2.2.2.2.2.2.2.2.2.2.2.1 ⟨Nat.zero_le _, Nat.zero_le _⟩) (fun r_15 u H locs hp hP hD hS => ?_)
    have hPD := PDm (ws' := (aHd cI cC cZ cB cJ a_x xI xH xB vI wY xX yA xY uD uJ rW uQ uP uO xO tJ jJ mY pG pD pE eO uS tX uR rY tY rG oY rJ pX rO rD sG vQ dN bD bJ aI uU gF pL qF mX oE dY jE eW eY dU fY gJ jG nU pQ qI sY uG pY nJ qY qU pN qB jK)) hP hD 21 rfl rfl rfl
    have hP := hPD.1
    have hD := hPD.2
    refine lv_iconst (v := (-1)) hx hb aQz.2.2.2.2.2.2.2.2.2.2.2.2.2.1 aEJ ?_
    refine lv_ixor hx hb aQz.2.2.2.2.2.2.2.2.2.2.2.2.2.2.1 ?_
    refine lv_iand hx hb aQz.2.2.2.2.2.2.2.2.2.2.2.2.2.2.2 ?_
    refine lv_if_ne (tgt := 100) hx hb aQ0.1 (by decide) (fun hc => ?_) (fun hc => ?_)
    · have hp := hp.1 hc
      exact ks_X9_soonest_100 C0 hKn x1 x2 x3 oY rJ pX rO rD sG vQ qY qU qB jK H locs ls hp hP hD hS (lv_sub hl [0, 1, 2, 3] rfl)
    · have hp := hp.2 hc
      refine lv_aload_n hx hb aQ0.2.1 rfl (lv_at hl 0 rfl) ?_
      refine va_get (D := (dC, dI)) (ci := 9) (v := .ref xH) (C := RX9) (T := TX9) (N := 9) hx hb hts aC3 hown hK hP 0 rfl rfl 1 (lbz rfl) (hts _ aOt) (fun _ h9 => h9) rfl aQ0.2.2.1 ?_
      refine lv_iload_n hx hb aQ0.2.2.2.1 rfl (lv_at hl 3 rfl) ?_
      have hm := mgk (wc := (aCM cI cC cZ cB cJ xH xB vI uJ rW uQ uP uO wY xO tJ jJ mY pG pD pE eO oY rJ pX rO rD sG vQ dN bD bJ aI mX oE dY jE eW eY dU fY gJ jG nU)) hP mk_145 21 rfl rfl rfl
      refine yW hP hD hS hA (yS mk_145) (aAi mk_145) hm.1 hm.2 (aAk _) (zW _) (zF (As := [.int x3]) (rest := []) C0 hP hD hS (yS mk_145) hm.1 (aAl _) 1 5 rfl rfl (c_X5_workSeconds l dC dI cI cC cZ cB cJ xH xB vI uJ rW uQ uP uO wY xO tJ jJ mY pG pD pE eO H.size x3 oY rJ pX rO rD sG vQ dN bD bJ aI mX oE dY jE eW eY dU fY gJ jG nU _ hp) q_528 q_531 q_529 q_530 aRn h_X5_workSeconds rfl rfl ⟨lbz rfl, lbz rfl⟩ rfl rfl hl.1 rfl (lv_room (lbz rfl)) aQ0.2.2.2.2.1 ⟨Nat.zero_le _, Nat.zero_le _⟩) (fun r_17 u H locs hp hP hD hS => ?_)
      obtain ⟨pl_moves_18, pl_picking_19, pl_downs_20, pl_many_21⟩ := u
      have hPD := PDm (ws' := (aHd cI cC cZ cB cJ a_x xI xH xB vI wY xX yA xY uD uJ rW uQ uP uO xO tJ jJ mY pG pD pE eO uS tX uR rY tY rG oY pl_moves_18 pl_picking_19 pl_downs_20 rD sG pl_many_21 dN bD bJ aI uU gF pL qF mX oE dY jE eW eY dU fY gJ jG nU pQ qI sY uG pY nJ qY qU pN qB jK)) hP hD 21 rfl rfl rfl
      have hP := hPD.1
      have hD := hPD.2
      refine lv_istore (lv' := [(4, .int r_17), (0, .ref a_x), (1, .int x1), (2, .int x2), (3, .int x3)]) hx hb aQ0.2.2.2.2.2.1 hl (by decide) rfl (fun ls hl => ?_)
      refine lv_iload hx hb aQ0.2.2.2.2.2.2.1 (lv_at hl 0 rfl) ?_
      refine lv_iload_n hx hb aQ0.2.2.2.2.2.2.2.1 rfl (lv_at hl 3 rfl) ?_
      refine lv_icmp_lt (tgt := 95) hx hb aQ0.2.2.2.2.2.2.2.2.1 (by decide) (fun hc => ?_) (fun hc => ?_)
      · have hp := hp.1 hc
        exact ks_X9_soonest_95 C0 hKn x3 r_17 oY pl_moves_18 pl_picking_19 pl_downs_20 rD sG pl_many_21 qY qU qB jK H locs ls hp hP hD hS (lv_sub hl [1, 4, 0] rfl)
      · have hp := hp.2 hc
        refine lv_iload hx hb aQ0.2.2.2.2.2.2.2.2.2.1 (lv_at hl 0 rfl) ?_
        refine lv_iload_n hx hb aQ0.2.2.2.2.2.2.2.2.2.2.1 rfl (lv_at hl 3 rfl) ?_
        refine lv_icmp_ne (tgt := 100) hx hb aQ0.2.2.2.2.2.2.2.2.2.2.2.1 (by decide) (fun hc => ?_) (fun hc => ?_)
        · have hp := hp.1 hc
          exact ks_X9_soonest_100 C0 hKn x1 x2 x3 oY pl_moves_18 pl_picking_19 pl_downs_20 rD sG pl_many_21 qY qU qB jK H locs ls hp hP hD hS (lv_sub hl [1, 2, 3, 4] rfl)
        · have hp := hp.2 hc
          refine lv_iload_n hx hb aQ0.2.2.2.2.2.2.2.2.2.2.2.2.1 rfl (lv_at hl 4 rfl) ?_
          refine lv_iload_n hx hb aQ0.2.2.2.2.2.2.2.2.2.2.2.2.2.1 rfl (lv_at hl 2 rfl) ?_
          have hm := mgk (wc := (wd_X9_isFewer cI cC cZ cB cJ)) hP mk_148 21 rfl rfl rfl
          refine yW hP hD hS hA (yS mk_148) (aAi mk_148) hm.1 hm.2 (aAk _) (zW _) (aDn (As := [.int x3, .int x1]) (rest := []) C0 hP hD hS (yS mk_148) hm.1 (aAl _) (c_X9_isFewer l dC dI cI cC cZ cB cJ H.size x3 x1 _ hp) q_479 q_481 q_480 aIl h_X9_isFewer rfl rfl ⟨lbz rfl, lbz rfl⟩ rfl rfl hl.1 rfl (lv_room (lbz rfl)) aQ0.2.2.2.2.2.2.2.2.2.2.2.2.2.2.1 ⟨Nat.zero_le _, Nat.zero_le _⟩) (fun r_22 u H locs hp hP hD hS => ?_)
          have hPD := PDm (ws' := (aHd cI cC cZ cB cJ a_x xI xH xB vI wY xX yA xY uD uJ rW uQ uP uO xO tJ jJ mY pG pD pE eO uS tX uR rY tY rG oY pl_moves_18 pl_picking_19 pl_downs_20 rD sG pl_many_21 dN bD bJ aI uU gF pL qF mX oE dY jE eW eY dU fY gJ jG nU pQ qI sY uG pY nJ qY qU pN qB jK)) hP hD 21 rfl rfl rfl
          have hP := hPD.1
          have hD := hPD.2
          refine lv_if_eq (tgt := 100) hx hb aQ0.2.2.2.2.2.2.2.2.2.2.2.2.2.2.2 (by decide) (fun hc => ?_) (fun hc => ?_)
          · have hp := hp.1 hc
            exact ks_X9_soonest_100 C0 hKn x1 x2 x3 oY pl_moves_18 pl_picking_19 pl_downs_20 rD sG pl_many_21 qY qU qB jK H locs ls hp hP hD hS (lv_sub hl [1, 2, 3, 4] rfl)
          · have hp := hp.2 hc
            exact ks_X9_soonest_95 C0 hKn x3 r_17 oY pl_moves_18 pl_picking_19 pl_downs_20 rD sG pl_many_21 qY qU qB jK H locs ls hp hP hD hS (lv_sub hl [1, 4, 0] rfl)
set_option maxHeartbeats 4000000 in
set_option maxRecDepth 100000 in
theorem kb_X9_soonest_33 (C0 : gc aDF (some .int) 5 RX9 (dC, dI) (tyl cI cC cZ cB cJ) A p s m args meth c) : ∀ (n : Nat), ∀ (x1 x2 x3 oY rJ pX rO : Int32) (rD sG vQ qY qU : Nat -> Int32) (qB : Int32) (jK : Nat -> Int32) (H : Heap) (locs : List Loc) (ls : Array Slot), (wb_X9_soonest_33 post dN bD uU gF pL qF mX oE dY jE eW eY dU fY gJ jG pQ pN n) x1 x2 x3 oY rJ pX rO rD sG vQ qY qU qB jK -> va_P (dC, dI) classes (aHd cI cC cZ cB cJ a_x xI xH xB vI wY xX yA xY uD uJ rW uQ uP uO xO tJ jJ mY pG pD pE eO uS tX uR rY tY rG oY rJ pX rO rD sG vQ dN bD bJ aI uU gF pL qF mX oE dY jE eW eY dU fY gJ jG nU pQ qI sY uG pY nJ qY qU pN qB jK) H -> va_D A (aHd cI cC cZ cB cJ a_x xI xH xB vI wY xX yA xY uD uJ rW uQ uP uO xO tJ jJ mY pG pD pE eO uS tX uR rY tY rG oY rJ pX rO rD sG vQ dN bD bJ aI uU gF pL qF mX oE dY jE eW eY dU fY gJ jG nU pQ qI sY uG pY nJ qY qU pN qB jK) -> va_S A s.heap H locs -> lv_has ls 5 [(0, .ref a_x), (1, .int x1), (2, .int x2), (3, .int x3)] -> W p l e rm_X9_soonest s m args below meth c H locs 0 0 (MQ below (q_X9_soonest dC dI cI cC cZ cB cJ A a_x xI xH xB vI wY xX yA xY uD uJ rW uQ uP uO xO tJ jJ mY pG pD pE eO uS tX uR rY tY rG dN bD bJ aI uU gF pL qF mX oE dY jE eW eY dU fY gJ jG nU pQ qI sY uG pY nJ pN post) args s 0 0 A) (F0 m 33 ls []) := by
  intro n
  induction n with
  | zero =>
    intro x1 x2 x3 oY rJ pX rO rD sG vQ qY qU qB jK H locs ls hp
    exact False.elim hp
  | succ n ih =>
    intro x1 x2 x3 oY rJ pX rO rD sG vQ qY qU qB jK H locs ls hp
    exact ks_X9_soonest_33 C0 ih x1 x2 x3 oY rJ pX rO rD sG vQ qY qU qB jK H locs ls hp
end S_X9_soonest
def wp_X9_soonest (post : Int32 -> Int32 -> Int32 -> Int32 -> Int32 -> (Nat -> Int32) -> (Nat -> Int32) -> (Nat -> Int32) -> (Nat -> Int32) -> (Nat -> Int32) -> Int32 -> (Nat -> Int32) -> Prop) (oY rJ pX rO : Int32) (rD sG vQ : Nat -> Int32) (dN bD : Int32) (uU gF pL qF mX oE dY : Nat -> Int32) (jE eW eY dU fY gJ jG pQ : Int32) (qY qU pN : Nat -> Int32) (qB : Int32) (jK : Nat -> Int32) : Prop := aZL (fun aBo aCo => wp_X5_timeAll (fun bBK ru_given_4 ru_stack_5 => aHs (fun r_6 => wp_X5_workSeconds (fun r_7 pl_moves_8 bBJ pl_downs_10 pl_many_11 => ∃ n : Nat, wb_X9_soonest_33 post dN bD uU gF pL qF mX oE dY jE eW eY dU fY gJ jG pQ pN n r_6 r_7 0 aBo pl_moves_8 bBJ pl_downs_10 aCo bBK pl_many_11 ru_given_4 ru_stack_5 qB jK) r_6 aBo rJ pX rO aCo bBK vQ dN bD mX oE dY fY) bD) aBo aCo sG dN bD uU gF pL mX oE dU pQ qY qU pN) oY rD dN bD uU gF qF mX oE dY jE eW eY gJ jG
set_option maxHeartbeats 4000000 in
set_option maxRecDepth 100000 in
theorem c_X9_soonest (l : Launch) (dC : Nat -> ClassId) (dI : Nat -> Nat -> Nat) (cI cC cZ cB cJ : ClassId) (a_x xI xH xB vI wY xX yA xY uD uJ rW uQ uP uO xO tJ jJ mY pG pD pE eO uS tX uR rY tY rG sz : Nat) (oY rJ pX rO : Int32) (rD sG vQ : Nat -> Int32) (dN bD bJ aI : Int32) (uU gF pL qF mX oE dY : Nat -> Int32) (jE eW eY dU fY gJ jG nU pQ qI sY uG pY nJ : Int32) (qY qU pN : Nat -> Int32) (qB : Int32) (jK : Nat -> Int32) (post : Int32 -> Int32 -> Int32 -> Int32 -> Int32 -> (Nat -> Int32) -> (Nat -> Int32) -> (Nat -> Int32) -> (Nat -> Int32) -> (Nat -> Int32) -> Int32 -> (Nat -> Int32) -> Prop) (hw : wp_X9_soonest post oY rJ pX rO rD sG vQ dN bD uU gF pL qF mX oE dY jE eW eY dU fY gJ jG pQ qY qU pN qB jK) : Met l yX9_soonest (gw yX9_soonest aDF 5 (some .int)) rm_X9_soonest (va_Pc [.ref a_x] (gPre (dC, dI) (tyl cI cC cZ cB cJ) (aHd cI cC cZ cB cJ a_x xI xH xB vI wY xX yA xY uD uJ rW uQ uP uO xO tJ jJ mY pG pD pE eO uS tX uR rY tY rG oY rJ pX rO rD sG vQ dN bD bJ aI uU gF pL qF mX oE dY jE eW eY dU fY gJ jG nU pQ qI sY uG pY nJ qY qU pN qB jK) sz)) (q_X9_soonest dC dI cI cC cZ cB cJ (va_A (aHd cI cC cZ cB cJ a_x xI xH xB vI wY xX yA xY uD uJ rW uQ uP uO xO tJ jJ mY pG pD pE eO uS tX uR rY tY rG oY rJ pX rO rD sG vQ dN bD bJ aI uU gF pL qF mX oE dY jE eW eY dU fY gJ jG nU pQ qI sY uG pY nJ qY qU pN qB jK) sz) a_x xI xH xB vI wY xX yA xY uD uJ rW uQ uP uO xO tJ jJ mY pG pD pE eO uS tX uR rY tY rG dN bD bJ aI uU gF pL qF mX oE dY jE eW eY dU fY gJ jG nU pQ qI sY uG pY nJ pN post) 0 0 (va_A (aHd cI cC cZ cB cJ a_x xI xH xB vI wY xX yA xY uD uJ rW uQ uP uO xO tJ jJ mY pG pD pE eO uS tX uR rY tY rG oY rJ pX rO rD sG vQ dN bD bJ aI uU gF pL qF mX oE dY jE eW eY dU fY gJ jG nU pQ qI sY uG pY nJ qY qU pN qB jK) sz) := by
  refine aBJ (own := RX9) (dC, dI) (tyl cI cC cZ cB cJ) (aHd cI cC cZ cB cJ a_x xI xH xB vI wY xX yA xY uD uJ rW uQ uP uO xO tJ jJ mY pG pD pE eO uS tX uR rY tY rG oY rJ pX rO rD sG vQ dN bD bJ aI uU gF pL qF mX oE dY jE eW eY dU fY gJ jG nU pQ qI sY uG pY nJ qY qU pN qB jK) sz [.ref a_x] (fun A => q_X9_soonest dC dI cI cC cZ cB cJ A a_x xI xH xB vI wY xX yA xY uD uJ rW uQ uP uO xO tJ jJ mY pG pD pE eO uS tX uR rY tY rG dN bD bJ aI uU gF pL qF mX oE dY jE eW eY dU fY gJ jG nU pQ qI sY uG pY nJ pN post) pn_RX9 rfl (lbz rfl) ?_
  intro p e s m args below meth c A H locs ls C0 hP hD hS hl
  have hl : lv_has ls 5 [(0, .ref a_x)] := hl
  obtain ⟨hx, hb, hr, hml, hown, hts, hlocks, hA, hK, hN, tL, tM, hZL, hTL, hZM, hTM, hZX⟩ := id C0
  have hp := hw
  unfold wp_X9_soonest at hp
  refine lv_aload_n hx hb aT7.1 rfl (lv_at hl 0 rfl) ?_
  refine va_get (D := (dC, dI)) (ci := 9) (v := .ref xH) (C := RX9) (T := TX9) (N := 9) hx hb hts aC3 hown hK hP 0 rfl rfl 1 (lbz rfl) (hts _ aOt) (fun _ h9 => h9) rfl aT7.2.1 ?_
  have hm := mgk (wc := (aVN cI cC cZ cB cJ xH xB vI uJ rW uQ uP uO wY xO tJ jJ mY pG pD pE eO oY rJ pX rO rD dN bD bJ aI uU gF qF mX oE dY jE eW eY dU fY gJ jG nU)) hP mk_143 21 rfl rfl rfl
  refine aBn hP hD hS hA (yS mk_143) (aAi mk_143) hm.1 hm.2 (aAk _) (zW _) (zF (As := []) (rest := []) C0 hP hD hS (yS mk_143) hm.1 (aAl _) 1 5 rfl rfl (c_X5_look l dC dI cI cC cZ cB cJ xH xB vI uJ rW uQ uP uO wY xO tJ jJ mY pG pD pE eO H.size oY rJ pX rO rD dN bD bJ aI uU gF qF mX oE dY jE eW eY dU fY gJ jG nU _ hp) q_445 q_448 q_446 q_447 aRn h_X5_look rfl rfl ⟨lbz rfl, lbz rfl⟩ rfl rfl hl.1 rfl (lv_room (lbz rfl)) aT7.2.2.1 ⟨Nat.zero_le _, Nat.zero_le _⟩) (fun u H locs hp hP hD hS => ?_)
  obtain ⟨aBo, aCo⟩ := u
  have hPD := PDm (ws' := (aHd cI cC cZ cB cJ a_x xI xH xB vI wY xX yA xY uD uJ rW uQ uP uO xO tJ jJ mY pG pD pE eO uS tX uR rY tY rG aBo rJ pX rO aCo sG vQ dN bD bJ aI uU gF pL qF mX oE dY jE eW eY dU fY gJ jG nU pQ qI sY uG pY nJ qY qU pN qB jK)) hP hD 21 rfl rfl rfl
  have hP := hPD.1
  have hD := hPD.2
  refine lv_aload_n hx hb aT7.2.2.2.1 rfl (lv_at hl 0 rfl) ?_
  refine va_get (D := (dC, dI)) (ci := 9) (v := .ref xH) (C := RX9) (T := TX9) (N := 9) hx hb hts aC3 hown hK hP 0 rfl rfl 1 (lbz rfl) (hts _ aOt) (fun _ h9 => h9) rfl aT7.2.2.2.2.1 ?_
  have hm := mgk (wc := (aF4 cI cC cZ cB cJ xH xB vI uJ rW uQ uP uO wY xO tJ jJ mY pG pD pE eO uS tX uR rY tY aBo rJ pX rO aCo sG dN bD bJ aI uU gF pL mX oE jE eW eY dU fY gJ jG nU pQ qI sY uG pY nJ qY qU pN)) hP mk_144 21 rfl rfl rfl
  refine aBn hP hD hS hA (yS mk_144) (aAi mk_144) hm.1 hm.2 (aAk _) (zW _) (zF (As := []) (rest := []) C0 hP hD hS (yS mk_144) hm.1 (aAl _) 1 5 rfl rfl (c_X5_timeAll l dC dI cI cC cZ cB cJ xH xB vI uJ rW uQ uP uO wY xO tJ jJ mY pG pD pE eO uS tX uR rY tY H.size aBo rJ pX rO aCo sG dN bD bJ aI uU gF pL mX oE jE eW eY dU fY gJ jG nU pQ qI sY uG pY nJ qY qU pN _ hp) q_524 q_527 q_525 q_526 aRn h_X5_timeAll rfl rfl ⟨lbz rfl, lbz rfl⟩ rfl rfl hl.1 rfl (lv_room (lbz rfl)) aT7.2.2.2.2.2.1 ⟨Nat.zero_le _, Nat.zero_le _⟩) (fun u H locs hp hP hD hS => ?_)
  obtain ⟨bBK, ru_given_4, ru_stack_5⟩ := u
  have hPD := PDm (ws' := (aHd cI cC cZ cB cJ a_x xI xH xB vI wY xX yA xY uD uJ rW uQ uP uO xO tJ jJ mY pG pD pE eO uS tX uR rY tY rG aBo rJ pX rO aCo bBK vQ dN bD bJ aI uU gF pL qF mX oE dY jE eW eY dU fY gJ jG nU pQ qI sY uG pY nJ ru_given_4 ru_stack_5 pN qB jK)) hP hD 21 rfl rfl rfl
  have hP := hPD.1
  have hD := hPD.2
  refine lv_aload_n hx hb aT7.2.2.2.2.2.2.1 rfl (lv_at hl 0 rfl) ?_
  refine va_get (D := (dC, dI)) (ci := 9) (v := .ref vI) (C := RX9) (T := TX9) (N := 9) hx hb hts aC3 hown hK hP 0 rfl rfl 3 (lbz rfl) (hts _ q_74) (fun _ h9 => h9) rfl aT7.2.2.2.2.2.2.2.1 ?_
  have hm := mgk (wc := (aHS cI cC cZ cB cJ vI tJ jJ mY pG pD pE eO dN bD bJ aI)) hP mk_142 21 rfl rfl rfl
  refine yW hP hD hS hA (yS mk_142) (aAi mk_142) hm.1 hm.2 (aAk _) (zW _) (zF (As := []) (rest := []) C0 hP hD hS (yS mk_142) hm.1 (aAl _) 6 3 rfl rfl (aLl l dC dI cI cC cZ cB cJ vI tJ jJ mY pG pD pE eO H.size dN bD bJ aI _ hp) q_426 q_463 q_427 q_428 q_48 aLo rfl rfl ⟨lbz rfl, lbz rfl⟩ rfl rfl hl.1 rfl (lv_room (lbz rfl)) aT7.2.2.2.2.2.2.2.2.1 ⟨Nat.zero_le _, Nat.zero_le _⟩) (fun r_6 u H locs hp hP hD hS => ?_)
  have hPD := PDm (ws' := (aHd cI cC cZ cB cJ a_x xI xH xB vI wY xX yA xY uD uJ rW uQ uP uO xO tJ jJ mY pG pD pE eO uS tX uR rY tY rG aBo rJ pX rO aCo bBK vQ dN bD bJ aI uU gF pL qF mX oE dY jE eW eY dU fY gJ jG nU pQ qI sY uG pY nJ ru_given_4 ru_stack_5 pN qB jK)) hP hD 21 rfl rfl rfl
  have hP := hPD.1
  have hD := hPD.2
  refine lv_istore_n (lv' := [(1, .int r_6), (0, .ref a_x)]) hx hb aT7.2.2.2.2.2.2.2.2.2.1 rfl hl (by decide) rfl (fun ls hl => ?_)
  refine lv_aload_n hx hb aT7.2.2.2.2.2.2.2.2.2.2.1 rfl (lv_at hl 1 rfl) ?_
  refine va_get (D := (dC, dI)) (ci := 9) (v := .ref xH) (C := RX9) (T := TX9) (N := 9) hx hb hts aC3 hown hK hP 0 rfl rfl 1 (lbz rfl) (hts _ aOt) (fun _ h9 => h9) rfl aT7.2.2.2.2.2.2.2.2.2.2.2.1 ?_
  refine lv_iload_n hx hb aT7.2.2.2.2.2.2.2.2.2.2.2.2.1 rfl (lv_at hl 0 rfl) ?_
  have hm := mgk (wc := (aCM cI cC cZ cB cJ xH xB vI uJ rW uQ uP uO wY xO tJ jJ mY pG pD pE eO aBo rJ pX rO aCo bBK vQ dN bD bJ aI mX oE dY jE eW eY dU fY gJ jG nU)) hP mk_145 21 rfl rfl rfl
  refine yW hP hD hS hA (yS mk_145) (aAi mk_145) hm.1 hm.2 (aAk _) (zW _) (zF (As := [.int r_6]) (rest := []) C0 hP hD hS (yS mk_145) hm.1 (aAl _) 1 5 rfl rfl (c_X5_workSeconds l dC dI cI cC cZ cB cJ xH xB vI uJ rW uQ uP uO wY xO tJ jJ mY pG pD pE eO H.size r_6 aBo rJ pX rO aCo bBK vQ dN bD bJ aI mX oE dY jE eW eY dU fY gJ jG nU _ hp) q_528 q_531 q_529 q_530 aRn h_X5_workSeconds rfl rfl ⟨lbz rfl, lbz rfl⟩ rfl rfl hl.1 rfl (lv_room (lbz rfl)) aT7.2.2.2.2.2.2.2.2.2.2.2.2.2.1 ⟨Nat.zero_le _, Nat.zero_le _⟩) (fun r_7 u H locs hp hP hD hS => ?_)
  obtain ⟨pl_moves_8, bBJ, pl_downs_10, pl_many_11⟩ := u
  have hPD := PDm (ws' := (aHd cI cC cZ cB cJ a_x xI xH xB vI wY xX yA xY uD uJ rW uQ uP uO xO tJ jJ mY pG pD pE eO uS tX uR rY tY rG aBo pl_moves_8 bBJ pl_downs_10 aCo bBK pl_many_11 dN bD bJ aI uU gF pL qF mX oE dY jE eW eY dU fY gJ jG nU pQ qI sY uG pY nJ ru_given_4 ru_stack_5 pN qB jK)) hP hD 21 rfl rfl rfl
  have hP := hPD.1
  have hD := hPD.2
  refine lv_istore_n (lv' := [(2, .int r_7), (1, .int r_6), (0, .ref a_x)]) hx hb aT7.2.2.2.2.2.2.2.2.2.2.2.2.2.2.1 rfl hl (by decide) rfl (fun ls hl => ?_)
  refine lv_iconst (v := 0) hx hb aT7.2.2.2.2.2.2.2.2.2.2.2.2.2.2.2 aCi ?_
  refine lv_istore_n (lv' := [(3, .int 0), (2, .int r_7), (1, .int r_6), (0, .ref a_x)]) hx hb aQz.1 rfl hl (by decide) rfl (fun ls hl => ?_)
  obtain ⟨n9, hp⟩ := hp
  exact kb_X9_soonest_33 C0 n9 r_6 r_7 0 aBo pl_moves_8 bBJ pl_downs_10 aCo bBK pl_many_11 ru_given_4 ru_stack_5 qB jK H locs ls hp hP hD hS (lv_sub hl [3, 2, 1, 0] rfl)
abbrev aNX (cI cC cZ cB cJ : ClassId) (a_x xI xH xB vI wY xX yA xY uD uJ rW uQ uP uO xO tJ jJ mY pG pD pE eO uS tX uR rY tY rG : Nat) (oY rJ pX rO : Int32) (rD : Nat -> Int32) (dN bD bJ aI : Int32) (uU gF pL qF mX oE dY : Nat -> Int32) (jE eW eY dU fY gJ jG nU pQ qI sY uG pY nJ : Int32) (qY qU pN : Nat -> Int32) (qB : Int32) (jK : Nat -> Int32) : va_W := [(a_x, .inr (9, [.ref xI, .ref xH, .ref xB, .ref vI, .ref wY, .ref xX, .ref yA, .ref xY, .ref uD])), (xH, .inr (5, [.ref xB, .ref vI, .ref uJ, .ref rW, .ref uQ, .ref uP, .ref uO, .int oY, .int rJ, .int pX, .int rO])), (uJ, .inl (cI, 8, .inl rD)), (xB, .inr (0, [.ref vI, .ref wY, .ref xO])), (vI, .inr (3, [.ref tJ, .ref jJ, .ref mY, .ref pG, .ref pD, .ref pE, .ref eO, .int dN, .int bD, .int bJ, .int aI])), (tJ, .inl (cI, 16, .inl uU)), (jJ, .inl (cI, 16, .inl gF)), (mY, .inl (cI, 16, .inl pL)), (pG, .inl (cI, 16, .inl qF)), (pD, .inl (cI, 8, .inl mX)), (pE, .inl (cI, 8, .inl oE)), (eO, .inl (cI, 5, .inl dY)), (wY, .inr (2, [.int jE, .int eW, .int eY, .int dU, .int fY, .int gJ, .int jG, .int nU])), (xO, .inr (7, [.ref uS, .ref tX, .ref uR, .ref rY, .ref tY, .int pQ, .int qI, .int sY, .int uG, .int pY, .int nJ])), (uS, .inl (cI, 7, .inl qY)), (uR, .inl (cI, 40, .inl qU)), (rY, .inl (cI, 40, .inl pN)), (yA, .inr (6, [.ref rG, .int qB])), (rG, .inl (cI, 16, .inl jK))]
abbrev q_X9_pays (dC : Nat -> ClassId) (dI : Nat -> Nat -> Nat) (cI cC cZ cB cJ : ClassId) (A : Nat -> Prop) (a_x xI xH xB vI wY xX yA xY uD uJ rW uQ uP uO xO tJ jJ mY pG pD pE eO uS tX uR rY tY rG : Nat) (rJ pX rO dN bD bJ aI : Int32) (uU gF pL qF mX oE dY : Nat -> Int32) (jE eW eY dU fY gJ jG nU pQ qI sY uG pY nJ : Int32) (pN : Nat -> Int32) (post : Int32 -> Int32 -> (Nat -> Int32) -> (Nat -> Int32) -> (Nat -> Int32) -> Int32 -> (Nat -> Int32) -> Prop) : Array Value -> State -> Outcome -> State -> Prop := va_Qi (fun (r : Int32) (u : Int32 × (Nat -> Int32) × (Nat -> Int32) × (Nat -> Int32) × Int32 × (Nat -> Int32)) => post r u.1 u.2.1 u.2.2.1 u.2.2.2.1 u.2.2.2.2.1 u.2.2.2.2.2) (fun u t => gB (dC, dI) (tyl cI cC cZ cB cJ) A (aNX cI cC cZ cB cJ a_x xI xH xB vI wY xX yA xY uD uJ rW uQ uP uO xO tJ jJ mY pG pD pE eO uS tX uR rY tY rG u.1 rJ pX rO u.2.1 dN bD bJ aI uU gF pL qF mX oE dY jE eW eY dU fY gJ jG nU pQ qI sY uG pY nJ u.2.2.1 u.2.2.2.1 pN u.2.2.2.2.1 u.2.2.2.2.2) t) A
abbrev rm_X9_pays : Room := { frames := 5, cells := 0, slots := 0, locals := 115 }
section S_X9_pays
variable {p : Program} {l : Launch} {e : Env} {s : State} {m : MethodId} {args : Array Value} {below : List Frame} {meth : Method} {c : Code} {dC : Nat -> ClassId} {dI : Nat -> Nat -> Nat} {cI cC cZ cB cJ : ClassId} {A : Nat -> Prop} {a_x xI xH xB vI wY xX yA xY uD uJ rW uQ uP uO xO tJ jJ mY pG pD pE eO uS tX uR rY tY rG : Nat} {rJ pX rO dN bD bJ aI : Int32} {uU gF pL qF mX oE dY : Nat -> Int32} {jE eW eY dU fY gJ jG nU pQ qI sY uG pY nJ : Int32} {pN : Nat -> Int32} {post : Int32 -> Int32 -> (Nat -> Int32) -> (Nat -> Int32) -> (Nat -> Int32) -> Int32 -> (Nat -> Int32) -> Prop}
def ws_X9_pays_104 (post : Int32 -> Int32 -> (Nat -> Int32) -> (Nat -> Int32) -> (Nat -> Int32) -> Int32 -> (Nat -> Int32) -> Prop) (K66 : Int32 -> Int32 -> Int32 -> Int32 -> Int32 -> Int32 -> (Nat -> Int32) -> (Nat -> Int32) -> (Nat -> Int32) -> Int32 -> (Nat -> Int32) -> Prop) (dN bD : Int32) (uU gF pL qF mX oE dY : Nat -> Int32) (jE eW eY dU fY gJ jG pQ : Int32) (pN : Nat -> Int32) (x1 x2 x3 x4 x5 oY : Int32) (rD qY qU : Nat -> Int32) (qB : Int32) (jK : Nat -> Int32) : Prop := ∀ aEp : Int32, aEp = x5 + 1 -> K66 x1 x2 x3 x4 aEp oY rD qY qU qB jK
set_option maxHeartbeats 4000000 in
set_option maxRecDepth 100000 in
theorem ks_X9_pays_104 (C0 : gc aEU (some .int) 6 RX9 (dC, dI) (tyl cI cC cZ cB cJ) A p s m args meth c) {K66 : Int32 -> Int32 -> Int32 -> Int32 -> Int32 -> Int32 -> (Nat -> Int32) -> (Nat -> Int32) -> (Nat -> Int32) -> Int32 -> (Nat -> Int32) -> Prop} (hK66 : ∀ (x1 : Int32) (x2 : Int32) (x3 : Int32) (x4 : Int32) (x5 : Int32) (oY : Int32) (rD : Nat -> Int32) (qY : Nat -> Int32) (qU : Nat -> Int32) (qB : Int32) (jK : Nat -> Int32) (H : Heap) (locs : List Loc) (ls : Array Slot), K66 x1 x2 x3 x4 x5 oY rD qY qU qB jK -> va_P (dC, dI) classes (aNX cI cC cZ cB cJ a_x xI xH xB vI wY xX yA xY uD uJ rW uQ uP uO xO tJ jJ mY pG pD pE eO uS tX uR rY tY rG oY rJ pX rO rD dN bD bJ aI uU gF pL qF mX oE dY jE eW eY dU fY gJ jG nU pQ qI sY uG pY nJ qY qU pN qB jK) H -> va_D A (aNX cI cC cZ cB cJ a_x xI xH xB vI wY xX yA xY uD uJ rW uQ uP uO xO tJ jJ mY pG pD pE eO uS tX uR rY tY rG oY rJ pX rO rD dN bD bJ aI uU gF pL qF mX oE dY jE eW eY dU fY gJ jG nU pQ qI sY uG pY nJ qY qU pN qB jK) -> va_S A s.heap H locs -> lv_has ls 6 [(0, .ref a_x), (1, .int x1), (2, .int x2), (3, .int x3), (4, .int x4), (5, .int x5)] -> W p l e rm_X9_pays s m args below meth c H locs 0 0 (MQ below (q_X9_pays dC dI cI cC cZ cB cJ A a_x xI xH xB vI wY xX yA xY uD uJ rW uQ uP uO xO tJ jJ mY pG pD pE eO uS tX uR rY tY rG rJ pX rO dN bD bJ aI uU gF pL qF mX oE dY jE eW eY dU fY gJ jG nU pQ qI sY uG pY nJ pN post) args s 0 0 A) (F0 m 66 ls [])) : ∀ (x1 x2 x3 x4 x5 oY : Int32) (rD qY qU : Nat -> Int32) (qB : Int32) (jK : Nat -> Int32) (H : Heap) (locs : List Loc) (ls : Array Slot), (ws_X9_pays_104 post K66 dN bD uU gF pL qF mX oE dY jE eW eY dU fY gJ jG pQ pN) x1 x2 x3 x4 x5 oY rD qY qU qB jK -> va_P (dC, dI) classes (aNX cI cC cZ cB cJ a_x xI xH xB vI wY xX yA xY uD uJ rW uQ uP uO xO tJ jJ mY pG pD pE eO uS tX uR rY tY rG oY rJ pX rO rD dN bD bJ aI uU gF pL qF mX oE dY jE eW eY dU fY gJ jG nU pQ qI sY uG pY nJ qY qU pN qB jK) H -> va_D A (aNX cI cC cZ cB cJ a_x xI xH xB vI wY xX yA xY uD uJ rW uQ uP uO xO tJ jJ mY pG pD pE eO uS tX uR rY tY rG oY rJ pX rO rD dN bD bJ aI uU gF pL qF mX oE dY jE eW eY dU fY gJ jG nU pQ qI sY uG pY nJ qY qU pN qB jK) -> va_S A s.heap H locs -> lv_has ls 6 [(0, .ref a_x), (1, .int x1), (2, .int x2), (3, .int x3), (4, .int x4), (5, .int x5)] -> W p l e rm_X9_pays s m args below meth c H locs 0 0 (MQ below (q_X9_pays dC dI cI cC cZ cB cJ A a_x xI xH xB vI wY xX yA xY uD uJ rW uQ uP uO xO tJ jJ mY pG pD pE eO uS tX uR rY tY rG rJ pX rO dN bD bJ aI uU gF pL qF mX oE dY jE eW eY dU fY gJ jG nU pQ qI sY uG pY nJ pN post) args s 0 0 A) (F0 m 104 ls []) := by
  obtain ⟨hx, hb, hr, hml, hown, hts, hlocks, hA, hK, hN, tL, tM, hZL, hTL, hZM, hTM, hZX⟩ := id C0
  intro x1 x2 x3 x4 x5 oY rD qY qU qB jK H locs ls hp hP hD hS hl
  unfold ws_X9_pays_104 at hp
  obtain ⟨aEp, ev_12⟩ : ∃ y : Int32, y = x5 + 1 := ⟨_, rfl⟩
  refine lv_iinc (v := aEp) (lv' := [(5, .int aEp), (0, .ref a_x), (1, .int x1), (2, .int x2), (3, .int x3), (4, .int x4)]) hx hb bAq.2.2.2.2.2.2.2.1 hl (k := 5) rfl (by rw [ev_12]; rfl) (by decide) rfl (fun ls hl => ?_)
  have hp := hp aEp ev_12
  refine lv_goto (tgt := 66) hx hb bAq.2.2.2.2.2.2.2.2.1 (by decide) ?_
  exact hK66 x1 x2 x3 x4 aEp oY rD qY qU qB jK H locs ls hp hP hD hS (lv_sub hl [1, 2, 3, 4, 5, 0] rfl)
def ws_X9_pays_66 (post : Int32 -> Int32 -> (Nat -> Int32) -> (Nat -> Int32) -> (Nat -> Int32) -> Int32 -> (Nat -> Int32) -> Prop) (next : Int32 -> Int32 -> Int32 -> Int32 -> Int32 -> Int32 -> (Nat -> Int32) -> (Nat -> Int32) -> (Nat -> Int32) -> Int32 -> (Nat -> Int32) -> Prop) (dN bD : Int32) (uU gF pL qF mX oE dY : Nat -> Int32) (jE eW eY dU fY gJ jG pQ : Int32) (pN : Nat -> Int32) (x1 x2 x3 x4 x5 oY : Int32) (rD qY qU : Nat -> Int32) (qB : Int32) (jK : Nat -> Int32) : Prop := (dN <= x5 -> aBb (fun r_6 => wp_X3_downsSeconds (fun r_7 => wp_X9_tell__ (fun ro_size_8 ro_numbers_9 => aVC (fun r_10 => post r_10 oY rD qY qU ro_size_8 ro_numbers_9) x2 dN pL dU) x3 x4 r_7 qB jK) x1 r_6 oE dY) x2) /\ (¬ dN <= x5 -> ∀ aGH : Int32, aGH = x2 >>> (x5 &&& 31) -> ((aGH &&& 1) = 0 -> ws_X9_pays_104 post next dN bD uU gF pL qF mX oE dY jE eW eY dU fY gJ jG pQ pN x1 x2 x3 x4 x5 oY rD qY qU qB jK) /\ (¬ (aGH &&& 1) = 0 -> aSP (fun r_13 ru_given_14 ru_stack_15 => ∀ aHb : Int32, aHb = x4 + r_13 -> ws_X9_pays_104 post next dN bD uU gF pL qF mX oE dY jE eW eY dU fY gJ jG pQ pN x1 x2 x3 aHb x5 oY rD ru_given_14 ru_stack_15 qB jK) x5 x1 0 0 dN uU gF pL mX oE dU pQ qY qU pN))
noncomputable def wb_X9_pays_66 (post : Int32 -> Int32 -> (Nat -> Int32) -> (Nat -> Int32) -> (Nat -> Int32) -> Int32 -> (Nat -> Int32) -> Prop) (dN bD : Int32) (uU gF pL qF mX oE dY : Nat -> Int32) (jE eW eY dU fY gJ jG pQ : Int32) (pN : Nat -> Int32) : Nat -> Int32 -> Int32 -> Int32 -> Int32 -> Int32 -> Int32 -> (Nat -> Int32) -> (Nat -> Int32) -> (Nat -> Int32) -> Int32 -> (Nat -> Int32) -> Prop := fun n => Nat.rec (motive := fun _ => Int32 -> Int32 -> Int32 -> Int32 -> Int32 -> Int32 -> (Nat -> Int32) -> (Nat -> Int32) -> (Nat -> Int32) -> Int32 -> (Nat -> Int32) -> Prop) (fun _ _ _ _ _ _ _ _ _ _ _ => False) (fun _ ih => ws_X9_pays_66 post ih dN bD uU gF pL qF mX oE dY jE eW eY dU fY gJ jG pQ pN) n
set_option maxHeartbeats 4000000 in
set_option maxRecDepth 100000 in
theorem ks_X9_pays_66 (C0 : gc aEU (some .int) 6 RX9 (dC, dI) (tyl cI cC cZ cB cJ) A p s m args meth c) {next : Int32 -> Int32 -> Int32 -> Int32 -> Int32 -> Int32 -> (Nat -> Int32) -> (Nat -> Int32) -> (Nat -> Int32) -> Int32 -> (Nat -> Int32) -> Prop} (hKn : ∀ (x1 : Int32) (x2 : Int32) (x3 : Int32) (x4 : Int32) (x5 : Int32) (oY : Int32) (rD : Nat -> Int32) (qY : Nat -> Int32) (qU : Nat -> Int32) (qB : Int32) (jK : Nat -> Int32) (H : Heap) (locs : List Loc) (ls : Array Slot), next x1 x2 x3 x4 x5 oY rD qY qU qB jK -> va_P (dC, dI) classes (aNX cI cC cZ cB cJ a_x xI xH xB vI wY xX yA xY uD uJ rW uQ uP uO xO tJ jJ mY pG pD pE eO uS tX uR rY tY rG oY rJ pX rO rD dN bD bJ aI uU gF pL qF mX oE dY jE eW eY dU fY gJ jG nU pQ qI sY uG pY nJ qY qU pN qB jK) H -> va_D A (aNX cI cC cZ cB cJ a_x xI xH xB vI wY xX yA xY uD uJ rW uQ uP uO xO tJ jJ mY pG pD pE eO uS tX uR rY tY rG oY rJ pX rO rD dN bD bJ aI uU gF pL qF mX oE dY jE eW eY dU fY gJ jG nU pQ qI sY uG pY nJ qY qU pN qB jK) -> va_S A s.heap H locs -> lv_has ls 6 [(0, .ref a_x), (1, .int x1), (2, .int x2), (3, .int x3), (4, .int x4), (5, .int x5)] -> W p l e rm_X9_pays s m args below meth c H locs 0 0 (MQ below (q_X9_pays dC dI cI cC cZ cB cJ A a_x xI xH xB vI wY xX yA xY uD uJ rW uQ uP uO xO tJ jJ mY pG pD pE eO uS tX uR rY tY rG rJ pX rO dN bD bJ aI uU gF pL qF mX oE dY jE eW eY dU fY gJ jG nU pQ qI sY uG pY nJ pN post) args s 0 0 A) (F0 m 66 ls [])) : ∀ (x1 x2 x3 x4 x5 oY : Int32) (rD qY qU : Nat -> Int32) (qB : Int32) (jK : Nat -> Int32) (H : Heap) (locs : List Loc) (ls : Array Slot), (ws_X9_pays_66 post next dN bD uU gF pL qF mX oE dY jE eW eY dU fY gJ jG pQ pN) x1 x2 x3 x4 x5 oY rD qY qU qB jK -> va_P (dC, dI) classes (aNX cI cC cZ cB cJ a_x xI xH xB vI wY xX yA xY uD uJ rW uQ uP uO xO tJ jJ mY pG pD pE eO uS tX uR rY tY rG oY rJ pX rO rD dN bD bJ aI uU gF pL qF mX oE dY jE eW eY dU fY gJ jG nU pQ qI sY uG pY nJ qY qU pN qB jK) H -> va_D A (aNX cI cC cZ cB cJ a_x xI xH xB vI wY xX yA xY uD uJ rW uQ uP uO xO tJ jJ mY pG pD pE eO uS tX uR rY tY rG oY rJ pX rO rD dN bD bJ aI uU gF pL qF mX oE dY jE eW eY dU fY gJ jG nU pQ qI sY uG pY nJ qY qU pN qB jK) -> va_S A s.heap H locs -> lv_has ls 6 [(0, .ref a_x), (1, .int x1), (2, .int x2), (3, .int x3), (4, .int x4), (5, .int x5)] -> W p l e rm_X9_pays s m args below meth c H locs 0 0 (MQ below (q_X9_pays dC dI cI cC cZ cB cJ A a_x xI xH xB vI wY xX yA xY uD uJ rW uQ uP uO xO tJ jJ mY pG pD pE eO uS tX uR rY tY rG rJ pX rO dN bD bJ aI uU gF pL qF mX oE dY jE eW eY dU fY gJ jG nU pQ qI sY uG pY nJ pN post) args s 0 0 A) (F0 m 66 ls []) := by
  obtain ⟨hx, hb, hr, hml, hown, hts, hlocks, hA, hK, hN, tL, tM, hZL, hTL, hZM, hTM, hZX⟩ := id C0
  intro x1 x2 x3 x4 x5 oY rD qY qU qB jK H locs ls hp hP hD hS hl
  unfold ws_X9_pays_66 at hp
  refine lv_iload hx hb bAp.2.2.1 (lv_at hl 5 rfl) ?_
  refine lv_aload_n hx hb bAp.2.2.2.1 rfl (lv_at hl 0 rfl) ?_
  refine va_get (D := (dC, dI)) (ci := 9) (v := .ref vI) (C := RX9) (T := TX9) (N := 9) hx hb hts aC3 hown hK hP 0 rfl rfl 3 (lbz rfl) (hts _ q_74) (fun _ h9 => h9) rfl bAp.2.2.2.2.1 ?_
  refine va_get (D := (dC, dI)) (ci := 3) (v := .int dN) (C := RX3) (T := TX3) (N := 11) hx hb hts i_X3 hown hK hP 4 rfl rfl 7 (lbz rfl) (hts _ q_539) (fun _ h9 => h9) rfl bAp.2.2.2.2.2.1 ?_
  refine lv_icmp_ge (tgt := 110) hx hb bAp.2.2.2.2.2.2.1 (by decide) (fun hc => ?_) (fun hc => ?_)
  · have hp := hp.1 hc
    refine lv_aload_n hx hb bAq.2.2.2.2.2.2.2.2.2.1 rfl (lv_at hl 0 rfl) ?_
    refine lv_iload_n hx hb bAq.2.2.2.2.2.2.2.2.2.2.1 rfl (lv_at hl 3 rfl) ?_
    refine lv_iload hx hb bAq.2.2.2.2.2.2.2.2.2.2.2.1 (lv_at hl 4 rfl) ?_
    refine lv_aload_n hx hb bAq.2.2.2.2.2.2.2.2.2.2.2.2.1 rfl (lv_at hl 0 rfl) ?_
    refine va_get (D := (dC, dI)) (ci := 9) (v := .ref vI) (C := RX9) (T := TX9) (N := 9) hx hb hts aC3 hown hK hP 0 rfl rfl 3 (lbz rfl) (hts _ q_74) (fun _ h9 => h9) rfl bAq.2.2.2.2.2.2.2.2.2.2.2.2.2.1 ?_
    refine lv_iload_n hx hb bAq.2.2.2.2.2.2.2.2.2.2.2.2.2.2.1 rfl (lv_at hl 1 rfl) ?_
    refine lv_iload_n hx hb bAq.2.2.2.2.2.2.2.2.2.2.2.2.2.2.2 rfl (lv_at hl 2 rfl) ?_
    have hm := mgk (wc := (aBh cI cC cZ cB cJ)) hP mk_149 19 rfl rfl rfl
    refine yW hP hD hS hA (yS mk_149) (aAi mk_149) hm.1 hm.2 (aAk _) (zW _) (aDn (As := [.int x2]) (rest := [.int x1, .ref vI, .int x4, .int x3, .ref a_x]) C0 hP hD hS (yS mk_149) hm.1 (aAl _) (aBv l dC dI cI cC cZ cB cJ H.size x2 _ hp) q_320 q_474 q_322 q_321 aBw rfl rfl ⟨lbz rfl, lbz rfl⟩ rfl rfl hl.1 rfl (lv_room (lbz rfl)) eX9_pays_120.1 ⟨Nat.zero_le _, Nat.zero_le _⟩) (fun r_6 u H locs hp hP hD hS => ?_)
    have hPD := PDm (ws' := (aNX cI cC cZ cB cJ a_x xI xH xB vI wY xX yA xY uD uJ rW uQ uP uO xO tJ jJ mY pG pD pE eO uS tX uR rY tY rG oY rJ pX rO rD dN bD bJ aI uU gF pL qF mX oE dY jE eW eY dU fY gJ jG nU pQ qI sY uG pY nJ qY qU pN qB jK)) hP hD 19 rfl rfl rfl
    have hP := hPD.1
    have hD := hPD.2
    have hm := mgk (wc := (bBq cI cC cZ cB cJ vI tJ jJ mY pG pD pE eO dN bD bJ aI oE dY)) hP mk_150 19 rfl rfl rfl
    refine yW hP hD hS hA (yS mk_150) (aAi mk_150) hm.1 hm.2 (aAk _) (zW _) (zF (As := [.int x1, .int r_6]) (rest := [.int x4, .int x3, .ref a_x]) C0 hP hD hS (yS mk_150) hm.1 (aAl _) 4 3 rfl rfl (c_X3_downsSeconds l dC dI cI cC cZ cB cJ vI tJ jJ mY pG pD pE eO H.size x1 r_6 dN bD bJ aI oE dY _ hp) q_516 q_540 q_517 q_518 q_48 h_X3_downsSeconds rfl rfl ⟨lbz rfl, lbz rfl⟩ rfl rfl hl.1 rfl (lv_room (lbz rfl)) eX9_pays_120.2.1 ⟨Nat.zero_le _, Nat.zero_le _⟩) (fun r_7 u H locs hp hP hD hS => ?_)
    have hPD := PDm (ws' := (aNX cI cC cZ cB cJ a_x xI xH xB vI wY xX yA xY uD uJ rW uQ uP uO xO tJ jJ mY pG pD pE eO uS tX uR rY tY rG oY rJ pX rO rD dN bD bJ aI uU gF pL qF mX oE dY jE eW eY dU fY gJ jG nU pQ qI sY uG pY nJ qY qU pN qB jK)) hP hD 19 rfl rfl rfl
    have hP := hPD.1
    have hD := hPD.2
    have hm := mgk (wc := (wd_X9_tell__ cI cC cZ cB cJ a_x xI xH xB vI wY xX yA xY uD rG qB jK)) hP mk_151 19 rfl rfl rfl
    refine aBn hP hD hS hA (yS mk_151) (aAi mk_151) hm.1 hm.2 (aAk _) (zW _) (zF (As := [.int x3, .int x4, .int r_7]) (rest := []) C0 hP hD hS (yS mk_151) hm.1 (aAl _) 0 9 rfl rfl (c_X9_tell__ l dC dI cI cC cZ cB cJ a_x xI xH xB vI wY xX yA xY uD rG H.size x3 x4 r_7 qB jK _ hp) q_535 q_538 q_536 q_537 aIl h_X9_tell__ rfl rfl ⟨lbz rfl, lbz rfl⟩ rfl rfl hl.1 rfl (lv_room (lbz rfl)) eX9_pays_120.2.2.1 ⟨Nat.zero_le _, Nat.zero_le _⟩) (fun u H locs hp hP hD hS => ?_)
    obtain ⟨ro_size_8, ro_numbers_9⟩ := u
    have hPD := PDm (ws' := (aNX cI cC cZ cB cJ a_x xI xH xB vI wY xX yA xY uD uJ rW uQ uP uO xO tJ jJ mY pG pD pE eO uS tX uR rY tY rG oY rJ pX rO rD dN bD bJ aI uU gF pL qF mX oE dY jE eW eY dU fY gJ jG nU pQ qI sY uG pY nJ qY qU pN ro_size_8 ro_numbers_9)) hP hD 19 rfl rfl rfl
    have hP := hPD.1
    have hD := hPD.2
    refine lv_aload_n hx hb eX9_pays_120.2.2.2.1 rfl (lv_at hl 0 rfl) ?_
    refine va_get (D := (dC, dI)) (ci := 9) (v := .ref xB) (C := RX9) (T := TX9) (N := 9) hx hb hts aC3 hown hK hP 0 rfl rfl 2 (lbz rfl) (hts _ q_146) (fun _ h9 => h9) rfl eX9_pays_120.2.2.2.2.1 ?_
    refine lv_iload_n hx hb eX9_pays_120.2.2.2.2.2.1 rfl (lv_at hl 2 rfl) ?_
    have hm := mgk (wc := (aT8 cI cC cZ cB cJ xB vI wY xO tJ jJ mY pG pD pE eO dN bD bJ aI pL jE eW eY dU fY gJ jG nU)) hP mk_152 19 rfl rfl rfl
    refine yW hP hD hS hA (yS mk_152) (aAi mk_152) hm.1 hm.2 (aAk _) (zW _) (zF (As := [.int x2]) (rest := []) C0 hP hD hS (yS mk_152) hm.1 (aAl _) 3 0 rfl rfl (c_X0_worthOf l dC dI cI cC cZ cB cJ xB vI wY xO tJ jJ mY pG pD pE eO H.size x2 dN bD bJ aI pL jE eW eY dU fY gJ jG nU _ hp) q_297 q_417 q_298 q_299 q_187 h_X0_worthOf rfl rfl ⟨lbz rfl, lbz rfl⟩ rfl rfl hl.1 rfl (lv_room (lbz rfl)) eX9_pays_120.2.2.2.2.2.2.1 ⟨Nat.zero_le _, Nat.zero_le _⟩) (fun r_10 u H locs hp hP hD hS => ?_)
    have hPD := PDm (ws' := (aNX cI cC cZ cB cJ a_x xI xH xB vI wY xX yA xY uD uJ rW uQ uP uO xO tJ jJ mY pG pD pE eO uS tX uR rY tY rG oY rJ pX rO rD dN bD bJ aI uU gF pL qF mX oE dY jE eW eY dU fY gJ jG nU pQ qI sY uG pY nJ qY qU pN ro_size_8 ro_numbers_9)) hP hD 19 rfl rfl rfl
    have hP := hPD.1
    have hD := hPD.2
    exact W.iret (v := r_10) hx hb hr (fun t ht hW => ⟨⟨r_10, (oY, rD, qY, qU, ro_size_8, ro_numbers_9), rfl, hp, by rw [ht]; exact hP, va_K.moved hW.alike hK, hD⟩, hS.F ht⟩) hS.2.2 eX9_pays_120.2.2.2.2.2.2.2
  · have hp := hp.2 hc
    refine lv_iload_n hx hb bAp.2.2.2.2.2.2.2.1 rfl (lv_at hl 2 rfl) ?_
    refine lv_iload hx hb bAp.2.2.2.2.2.2.2.2.1 (lv_at hl 5 rfl) ?_
    refine lv_ishr hx hb bAp.2.2.2.2.2.2.2.2.2.1 ?_
    refine lv_topi (fun aGH ev_11 => ?_)
    have hp := hp aGH ev_11
    refine lv_iconst (v := 1) hx hb bAp.2.2.2.2.2.2.2.2.2.2.1 aDx ?_
    refine lv_iand hx hb bAp.2.2.2.2.2.2.2.2.2.2.2.1 ?_
    refine lv_if_eq (tgt := 104) hx hb bAp.2.2.2.2.2.2.2.2.2.2.2.2.1 (by decide) (fun hc => ?_) (fun hc => ?_)
    · have hp := hp.1 hc
      exact ks_X9_pays_104 C0 hKn x1 x2 x3 x4 x5 oY rD qY qU qB jK H locs ls hp hP hD hS (lv_sub hl [0, 1, 2, 3, 4, 5] rfl)
    · have hp := hp.2 hc
      refine lv_iload hx hb bAp.2.2.2.2.2.2.2.2.2.2.2.2.2.1 (lv_at hl 4 rfl) ?_
      refine lv_aload_n hx hb bAp.2.2.2.2.2.2.2.2.2.2.2.2.2.2.1 rfl (lv_at hl 0 rfl) ?_
      refine va_get (D := (dC, dI)) (ci := 9) (v := .ref xB) (C := RX9) (T := TX9) (N := 9) hx hb hts aC3 hown hK hP 0 rfl rfl 2 (lbz rfl) (hts _ q_146) (fun _ h9 => h9) rfl bAp.2.2.2.2.2.2.2.2.2.2.2.2.2.2.2 ?_
      refine lv_iload hx hb bAq.1 (lv_at hl 5 rfl) ?_
      refine lv_iload_n hx hb bAq.2.1 rfl (lv_at hl 1 rfl) ?_
      refine lv_iconst (v := 0) hx hb bAq.2.2.1 aCi ?_
      refine lv_iconst (v := 0) hx hb bAq.2.2.2.1 aCi ?_
      have hm := mgk (wc := (aDu cI cC cZ cB cJ xB vI wY xO tJ jJ mY pG pD pE eO uS tX uR rY tY dN bD bJ aI uU gF pL mX oE jE eW eY dU fY gJ jG nU pQ qI sY uG pY nJ qY qU pN)) hP mk_153 19 rfl rfl rfl
      refine yW hP hD hS hA (yS mk_153) (aAi mk_153) hm.1 hm.2 (aAk _) (zW _) (zF (As := [.int x5, .int x1, .int 0, .int 0]) (rest := [.int x4]) C0 hP hD hS (yS mk_153) hm.1 (aAl _) 3 0 rfl rfl (c_X0_pickSeconds l dC dI cI cC cZ cB cJ xB vI wY xO tJ jJ mY pG pD pE eO uS tX uR rY tY H.size x5 x1 0 0 dN bD bJ aI uU gF pL mX oE jE eW eY dU fY gJ jG nU pQ qI sY uG pY nJ qY qU pN _ hp) q_325 q_418 q_326 q_327 q_187 h_X0_pickSeconds rfl rfl ⟨lbz rfl, lbz rfl⟩ rfl rfl hl.1 rfl (lv_room (lbz rfl)) bAq.2.2.2.2.1 ⟨Nat.zero_le _, Nat.zero_le _⟩) (fun r_13 u H locs hp hP hD hS => ?_)
      obtain ⟨ru_given_14, ru_stack_15⟩ := u
      have hPD := PDm (ws' := (aNX cI cC cZ cB cJ a_x xI xH xB vI wY xX yA xY uD uJ rW uQ uP uO xO tJ jJ mY pG pD pE eO uS tX uR rY tY rG oY rJ pX rO rD dN bD bJ aI uU gF pL qF mX oE dY jE eW eY dU fY gJ jG nU pQ qI sY uG pY nJ ru_given_14 ru_stack_15 pN qB jK)) hP hD 19 rfl rfl rfl
      have hP := hPD.1
      have hD := hPD.2
      refine lv_iadd hx hb bAq.2.2.2.2.2.1 ?_
      refine lv_topi (fun aHb ev_16 => ?_)
      have hp := hp aHb ev_16
      refine lv_istore (lv' := [(4, .int aHb), (0, .ref a_x), (1, .int x1), (2, .int x2), (3, .int x3), (5, .int x5)]) hx hb bAq.2.2.2.2.2.2.1 hl (by decide) rfl (fun ls hl => ?_)
      exact ks_X9_pays_104 C0 hKn x1 x2 x3 aHb x5 oY rD ru_given_14 ru_stack_15 qB jK H locs ls hp hP hD hS (lv_sub hl [1, 2, 3, 4, 0, 5] rfl)
set_option maxHeartbeats 4000000 in
set_option maxRecDepth 100000 in
theorem kb_X9_pays_66 (C0 : gc aEU (some .int) 6 RX9 (dC, dI) (tyl cI cC cZ cB cJ) A p s m args meth c) : ∀ (n : Nat), ∀ (x1 x2 x3 x4 x5 oY : Int32) (rD qY qU : Nat -> Int32) (qB : Int32) (jK : Nat -> Int32) (H : Heap) (locs : List Loc) (ls : Array Slot), (wb_X9_pays_66 post dN bD uU gF pL qF mX oE dY jE eW eY dU fY gJ jG pQ pN n) x1 x2 x3 x4 x5 oY rD qY qU qB jK -> va_P (dC, dI) classes (aNX cI cC cZ cB cJ a_x xI xH xB vI wY xX yA xY uD uJ rW uQ uP uO xO tJ jJ mY pG pD pE eO uS tX uR rY tY rG oY rJ pX rO rD dN bD bJ aI uU gF pL qF mX oE dY jE eW eY dU fY gJ jG nU pQ qI sY uG pY nJ qY qU pN qB jK) H -> va_D A (aNX cI cC cZ cB cJ a_x xI xH xB vI wY xX yA xY uD uJ rW uQ uP uO xO tJ jJ mY pG pD pE eO uS tX uR rY tY rG oY rJ pX rO rD dN bD bJ aI uU gF pL qF mX oE dY jE eW eY dU fY gJ jG nU pQ qI sY uG pY nJ qY qU pN qB jK) -> va_S A s.heap H locs -> lv_has ls 6 [(0, .ref a_x), (1, .int x1), (2, .int x2), (3, .int x3), (4, .int x4), (5, .int x5)] -> W p l e rm_X9_pays s m args below meth c H locs 0 0 (MQ below (q_X9_pays dC dI cI cC cZ cB cJ A a_x xI xH xB vI wY xX yA xY uD uJ rW uQ uP uO xO tJ jJ mY pG pD pE eO uS tX uR rY tY rG rJ pX rO dN bD bJ aI uU gF pL qF mX oE dY jE eW eY dU fY gJ jG nU pQ qI sY uG pY nJ pN post) args s 0 0 A) (F0 m 66 ls []) := by
  intro n
  induction n with
  | zero =>
    intro x1 x2 x3 x4 x5 oY rD qY qU qB jK H locs ls hp
    exact False.elim hp
  | succ n ih =>
    intro x1 x2 x3 x4 x5 oY rD qY qU qB jK H locs ls hp
    exact ks_X9_pays_66 C0 ih x1 x2 x3 x4 x5 oY rD qY qU qB jK H locs ls hp
def ws_X9_pays_59 (post : Int32 -> Int32 -> (Nat -> Int32) -> (Nat -> Int32) -> (Nat -> Int32) -> Int32 -> (Nat -> Int32) -> Prop) (dN bD : Int32) (uU gF pL qF mX oE dY : Nat -> Int32) (jE eW eY dU fY gJ jG pQ : Int32) (pN : Nat -> Int32) (x1 x2 k0 oY : Int32) (rD qY qU : Nat -> Int32) (qB : Int32) (jK : Nat -> Int32) : Prop := ∃ n : Nat, wb_X9_pays_66 post dN bD uU gF pL qF mX oE dY jE eW eY dU fY gJ jG pQ pN n x1 x2 k0 0 0 oY rD qY qU qB jK
set_option maxHeartbeats 4000000 in
set_option maxRecDepth 100000 in
theorem ks_X9_pays_59 (C0 : gc aEU (some .int) 6 RX9 (dC, dI) (tyl cI cC cZ cB cJ) A p s m args meth c) : ∀ (x1 x2 k0 oY : Int32) (rD qY qU : Nat -> Int32) (qB : Int32) (jK : Nat -> Int32) (H : Heap) (locs : List Loc) (ls : Array Slot), (ws_X9_pays_59 post dN bD uU gF pL qF mX oE dY jE eW eY dU fY gJ jG pQ pN) x1 x2 k0 oY rD qY qU qB jK -> va_P (dC, dI) classes (aNX cI cC cZ cB cJ a_x xI xH xB vI wY xX yA xY uD uJ rW uQ uP uO xO tJ jJ mY pG pD pE eO uS tX uR rY tY rG oY rJ pX rO rD dN bD bJ aI uU gF pL qF mX oE dY jE eW eY dU fY gJ jG nU pQ qI sY uG pY nJ qY qU pN qB jK) H -> va_D A (aNX cI cC cZ cB cJ a_x xI xH xB vI wY xX yA xY uD uJ rW uQ uP uO xO tJ jJ mY pG pD pE eO uS tX uR rY tY rG oY rJ pX rO rD dN bD bJ aI uU gF pL qF mX oE dY jE eW eY dU fY gJ jG nU pQ qI sY uG pY nJ qY qU pN qB jK) -> va_S A s.heap H locs -> lv_has ls 6 [(0, .ref a_x), (1, .int x1), (2, .int x2)] -> W p l e rm_X9_pays s m args below meth c H locs 0 0 (MQ below (q_X9_pays dC dI cI cC cZ cB cJ A a_x xI xH xB vI wY xX yA xY uD uJ rW uQ uP uO xO tJ jJ mY pG pD pE eO uS tX uR rY tY rG rJ pX rO dN bD bJ aI uU gF pL qF mX oE dY jE eW eY dU fY gJ jG nU pQ qI sY uG pY nJ pN post) args s 0 0 A) (F0 m 59 ls [.int k0]) := by
  obtain ⟨hx, hb, hr, hml, hown, hts, hlocks, hA, hK, hN, tL, tM, hZL, hTL, hZM, hTM, hZX⟩ := id C0
  intro x1 x2 k0 oY rD qY qU qB jK H locs ls hp hP hD hS hl
  unfold ws_X9_pays_59 at hp
  refine lv_istore_n (lv' := [(3, .int k0), (0, .ref a_x), (1, .int x1), (2, .int x2)]) hx hb bAo.2.2.2.2.2.2.2.2.2.2.2.2.2.1 rfl hl (by decide) rfl (fun ls hl => ?_)
  refine lv_iconst (v := 0) hx hb bAo.2.2.2.2.2.2.2.2.2.2.2.2.2.2.1 aCi ?_
  refine lv_istore (lv' := [(4, .int 0), (3, .int k0), (0, .ref a_x), (1, .int x1), (2, .int x2)]) hx hb bAo.2.2.2.2.2.2.2.2.2.2.2.2.2.2.2 hl (by decide) rfl (fun ls hl => ?_)
  refine lv_iconst (v := 0) hx hb bAp.1 aCi ?_
  refine lv_istore (lv' := [(5, .int 0), (4, .int 0), (3, .int k0), (0, .ref a_x), (1, .int x1), (2, .int x2)]) hx hb bAp.2.1 hl (by decide) rfl (fun ls hl => ?_)
  obtain ⟨n9, hp⟩ := hp
  exact kb_X9_pays_66 C0 n9 x1 x2 k0 0 0 oY rD qY qU qB jK H locs ls hp hP hD hS (lv_sub hl [3, 4, 5, 2, 1, 0] rfl)
end S_X9_pays
def wp_X9_pays (post : Int32 -> Int32 -> (Nat -> Int32) -> (Nat -> Int32) -> (Nat -> Int32) -> Int32 -> (Nat -> Int32) -> Prop) (p0 oY : Int32) (rD : Nat -> Int32) (dN bD : Int32) (uU gF pL qF mX oE dY : Nat -> Int32) (jE eW eY dU fY gJ jG pQ : Int32) (qY qU pN : Nat -> Int32) (qB : Int32) (jK : Nat -> Int32) : Prop := aK6 (fun r_1 => (¬ r_1 = 0 -> aZL (fun aCw aEE => wp_X5_wantedFrom (fun r_4 => (¬ fY = p0 -> bBZ (fun r_5 => ws_X9_pays_59 post dN bD uU gF pL qF mX oE dY jE eW eY dU fY gJ jG pQ pN p0 r_4 r_5 aCw aEE qY qU qB jK) fY p0 mX dY) /\ (fY = p0 -> ws_X9_pays_59 post dN bD uU gF pL qF mX oE dY jE eW eY dU fY gJ jG pQ pN p0 r_4 0 aCw aEE qY qU qB jK)) p0 aCw aEE) oY rD dN bD uU gF qF mX oE dY jE eW eY gJ jG) /\ (r_1 = 0 -> post (-1) oY rD qY qU qB jK)) p0 bD
set_option maxHeartbeats 4000000 in
set_option maxRecDepth 100000 in
theorem c_X9_pays (l : Launch) (dC : Nat -> ClassId) (dI : Nat -> Nat -> Nat) (cI cC cZ cB cJ : ClassId) (a_x xI xH xB vI wY xX yA xY uD uJ rW uQ uP uO xO tJ jJ mY pG pD pE eO uS tX uR rY tY rG sz : Nat) (p0 oY rJ pX rO : Int32) (rD : Nat -> Int32) (dN bD bJ aI : Int32) (uU gF pL qF mX oE dY : Nat -> Int32) (jE eW eY dU fY gJ jG nU pQ qI sY uG pY nJ : Int32) (qY qU pN : Nat -> Int32) (qB : Int32) (jK : Nat -> Int32) (post : Int32 -> Int32 -> (Nat -> Int32) -> (Nat -> Int32) -> (Nat -> Int32) -> Int32 -> (Nat -> Int32) -> Prop) (hw : wp_X9_pays post p0 oY rD dN bD uU gF pL qF mX oE dY jE eW eY dU fY gJ jG pQ qY qU pN qB jK) : Met l yX9_pays (gw yX9_pays aEU 6 (some .int)) rm_X9_pays (va_Pc [.ref a_x, .int p0] (gPre (dC, dI) (tyl cI cC cZ cB cJ) (aNX cI cC cZ cB cJ a_x xI xH xB vI wY xX yA xY uD uJ rW uQ uP uO xO tJ jJ mY pG pD pE eO uS tX uR rY tY rG oY rJ pX rO rD dN bD bJ aI uU gF pL qF mX oE dY jE eW eY dU fY gJ jG nU pQ qI sY uG pY nJ qY qU pN qB jK) sz)) (q_X9_pays dC dI cI cC cZ cB cJ (va_A (aNX cI cC cZ cB cJ a_x xI xH xB vI wY xX yA xY uD uJ rW uQ uP uO xO tJ jJ mY pG pD pE eO uS tX uR rY tY rG oY rJ pX rO rD dN bD bJ aI uU gF pL qF mX oE dY jE eW eY dU fY gJ jG nU pQ qI sY uG pY nJ qY qU pN qB jK) sz) a_x xI xH xB vI wY xX yA xY uD uJ rW uQ uP uO xO tJ jJ mY pG pD pE eO uS tX uR rY tY rG rJ pX rO dN bD bJ aI uU gF pL qF mX oE dY jE eW eY dU fY gJ jG nU pQ qI sY uG pY nJ pN post) 0 0 (va_A (aNX cI cC cZ cB cJ a_x xI xH xB vI wY xX yA xY uD uJ rW uQ uP uO xO tJ jJ mY pG pD pE eO uS tX uR rY tY rG oY rJ pX rO rD dN bD bJ aI uU gF pL qF mX oE dY jE eW eY dU fY gJ jG nU pQ qI sY uG pY nJ qY qU pN qB jK) sz) := by
  refine aBJ (own := RX9) (dC, dI) (tyl cI cC cZ cB cJ) (aNX cI cC cZ cB cJ a_x xI xH xB vI wY xX yA xY uD uJ rW uQ uP uO xO tJ jJ mY pG pD pE eO uS tX uR rY tY rG oY rJ pX rO rD dN bD bJ aI uU gF pL qF mX oE dY jE eW eY dU fY gJ jG nU pQ qI sY uG pY nJ qY qU pN qB jK) sz [.ref a_x, .int p0] (fun A => q_X9_pays dC dI cI cC cZ cB cJ A a_x xI xH xB vI wY xX yA xY uD uJ rW uQ uP uO xO tJ jJ mY pG pD pE eO uS tX uR rY tY rG rJ pX rO dN bD bJ aI uU gF pL qF mX oE dY jE eW eY dU fY gJ jG nU pQ qI sY uG pY nJ pN post) pn_RX9 rfl (lbz rfl) ?_
  intro p e s m args below meth c A H locs ls C0 hP hD hS hl
  have hl : lv_has ls 6 [(0, .ref a_x), (1, .int p0)] := hl
  obtain ⟨hx, hb, hr, hml, hown, hts, hlocks, hA, hK, hN, tL, tM, hZL, hTL, hZM, hTM, hZX⟩ := id C0
  have hp := hw
  unfold wp_X9_pays at hp
  refine lv_aload_n hx hb eX9_pays_0.1 rfl (lv_at hl 0 rfl) ?_
  refine va_get (D := (dC, dI)) (ci := 9) (v := .ref vI) (C := RX9) (T := TX9) (N := 9) hx hb hts aC3 hown hK hP 0 rfl rfl 3 (lbz rfl) (hts _ q_74) (fun _ h9 => h9) rfl eX9_pays_0.2.1 ?_
  refine lv_iload_n hx hb eX9_pays_0.2.2.1 rfl (lv_at hl 1 rfl) ?_
  have hm := mgk (wc := (aLv cI cC cZ cB cJ vI tJ jJ mY pG pD pE eO dN bD bJ aI)) hP mk_154 19 rfl rfl rfl
  refine yW hP hD hS hA (yS mk_154) (aAi mk_154) hm.1 hm.2 (aAk _) (zW _) (zF (As := [.int p0]) (rest := []) C0 hP hD hS (yS mk_154) hm.1 (aAl _) 4 3 rfl rfl (aZS l dC dI cI cC cZ cB cJ vI tJ jJ mY pG pD pE eO H.size p0 dN bD bJ aI _ hp) q_195 q_198 q_196 q_197 q_48 aZZ rfl rfl ⟨lbz rfl, lbz rfl⟩ rfl rfl hl.1 rfl (lv_room (lbz rfl)) eX9_pays_0.2.2.2.1 ⟨Nat.zero_le _, Nat.zero_le _⟩) (fun r_1 u H locs hp hP hD hS => ?_)
  have hPD := PDm (ws' := (aNX cI cC cZ cB cJ a_x xI xH xB vI wY xX yA xY uD uJ rW uQ uP uO xO tJ jJ mY pG pD pE eO uS tX uR rY tY rG oY rJ pX rO rD dN bD bJ aI uU gF pL qF mX oE dY jE eW eY dU fY gJ jG nU pQ qI sY uG pY nJ qY qU pN qB jK)) hP hD 19 rfl rfl rfl
  have hP := hPD.1
  have hD := hPD.2
  refine lv_if_ne (tgt := 13) hx hb eX9_pays_0.2.2.2.2.1 (by decide) (fun hc => ?_) (fun hc => ?_)
  · have hp := hp.1 hc
    refine lv_aload_n hx hb eX9_pays_0.2.2.2.2.2.2.2.1 rfl (lv_at hl 0 rfl) ?_
    refine va_get (D := (dC, dI)) (ci := 9) (v := .ref xH) (C := RX9) (T := TX9) (N := 9) hx hb hts aC3 hown hK hP 0 rfl rfl 1 (lbz rfl) (hts _ aOt) (fun _ h9 => h9) rfl eX9_pays_0.2.2.2.2.2.2.2.2.1 ?_
    have hm := mgk (wc := (aVN cI cC cZ cB cJ xH xB vI uJ rW uQ uP uO wY xO tJ jJ mY pG pD pE eO oY rJ pX rO rD dN bD bJ aI uU gF qF mX oE dY jE eW eY dU fY gJ jG nU)) hP mk_155 19 rfl rfl rfl
    refine aBn hP hD hS hA (yS mk_155) (aAi mk_155) hm.1 hm.2 (aAk _) (zW _) (zF (As := []) (rest := []) C0 hP hD hS (yS mk_155) hm.1 (aAl _) 1 5 rfl rfl (c_X5_look l dC dI cI cC cZ cB cJ xH xB vI uJ rW uQ uP uO wY xO tJ jJ mY pG pD pE eO H.size oY rJ pX rO rD dN bD bJ aI uU gF qF mX oE dY jE eW eY dU fY gJ jG nU _ hp) q_445 q_448 q_446 q_447 aRn h_X5_look rfl rfl ⟨lbz rfl, lbz rfl⟩ rfl rfl hl.1 rfl (lv_room (lbz rfl)) eX9_pays_0.2.2.2.2.2.2.2.2.2.1 ⟨Nat.zero_le _, Nat.zero_le _⟩) (fun u H locs hp hP hD hS => ?_)
    obtain ⟨aCw, aEE⟩ := u
    have hPD := PDm (ws' := (aNX cI cC cZ cB cJ a_x xI xH xB vI wY xX yA xY uD uJ rW uQ uP uO xO tJ jJ mY pG pD pE eO uS tX uR rY tY rG aCw rJ pX rO aEE dN bD bJ aI uU gF pL qF mX oE dY jE eW eY dU fY gJ jG nU pQ qI sY uG pY nJ qY qU pN qB jK)) hP hD 19 rfl rfl rfl
    have hP := hPD.1
    have hD := hPD.2
    refine lv_aload_n hx hb eX9_pays_0.2.2.2.2.2.2.2.2.2.2.1 rfl (lv_at hl 0 rfl) ?_
    refine va_get (D := (dC, dI)) (ci := 9) (v := .ref xH) (C := RX9) (T := TX9) (N := 9) hx hb hts aC3 hown hK hP 0 rfl rfl 1 (lbz rfl) (hts _ aOt) (fun _ h9 => h9) rfl eX9_pays_0.2.2.2.2.2.2.2.2.2.2.2.1 ?_
    refine lv_iload_n hx hb eX9_pays_0.2.2.2.2.2.2.2.2.2.2.2.2.1 rfl (lv_at hl 1 rfl) ?_
    have hm := mgk (wc := (aZe cI cC cZ cB cJ xH xB vI uJ rW uQ uP uO aCw rJ pX rO aEE)) hP mk_156 19 rfl rfl rfl
    refine yW hP hD hS hA (yS mk_156) (aAi mk_156) hm.1 hm.2 (aAk _) (zW _) (zF (As := [.int p0]) (rest := []) C0 hP hD hS (yS mk_156) hm.1 (aAl _) 1 5 rfl rfl (c_X5_wantedFrom l dC dI cI cC cZ cB cJ xH xB vI uJ rW uQ uP uO H.size p0 aCw rJ pX rO aEE _ hp) q_449 q_452 q_450 q_451 aRn h_X5_wantedFrom rfl rfl ⟨lbz rfl, lbz rfl⟩ rfl rfl hl.1 rfl (lv_room (lbz rfl)) eX9_pays_0.2.2.2.2.2.2.2.2.2.2.2.2.2.1 ⟨Nat.zero_le _, Nat.zero_le _⟩) (fun r_4 u H locs hp hP hD hS => ?_)
    have hPD := PDm (ws' := (aNX cI cC cZ cB cJ a_x xI xH xB vI wY xX yA xY uD uJ rW uQ uP uO xO tJ jJ mY pG pD pE eO uS tX uR rY tY rG aCw rJ pX rO aEE dN bD bJ aI uU gF pL qF mX oE dY jE eW eY dU fY gJ jG nU pQ qI sY uG pY nJ qY qU pN qB jK)) hP hD 19 rfl rfl rfl
    have hP := hPD.1
    have hD := hPD.2
    refine lv_istore_n (lv' := [(2, .int r_4), (0, .ref a_x), (1, .int p0)]) hx hb eX9_pays_0.2.2.2.2.2.2.2.2.2.2.2.2.2.2.1 rfl hl (by decide) rfl (fun ls hl => ?_)
    refine lv_aload_n hx hb eX9_pays_0.2.2.2.2.2.2.2.2.2.2.2.2.2.2.2 rfl (lv_at hl 1 rfl) ?_
    refine va_get (D := (dC, dI)) (ci := 9) (v := .ref wY) (C := RX9) (T := TX9) (N := 9) hx hb hts aC3 hown hK hP 0 rfl rfl 4 (lbz rfl) (hts _ q_179) (fun _ h9 => h9) rfl bAo.1 ?_
    refine va_get (D := (dC, dI)) (ci := 2) (v := .int fY) (C := RX2) (T := TX2) (N := 8) hx hb hts i_X2 hown hK hP 12 rfl rfl 4 (lbz rfl) (hts _ q_497) (fun _ h9 => h9) rfl bAo.2.1 ?_
    refine lv_iload_n hx hb bAo.2.2.1 rfl (lv_at hl 2 rfl) ?_
    refine lv_icmp_ne (tgt := 44) hx hb bAo.2.2.2.1 (by decide) (fun hc => ?_) (fun hc => ?_)
    · have hp := hp.1 hc
      refine lv_aload_n hx hb bAo.2.2.2.2.2.2.1 rfl (lv_at hl 1 rfl) ?_
      refine va_get (D := (dC, dI)) (ci := 9) (v := .ref vI) (C := RX9) (T := TX9) (N := 9) hx hb hts aC3 hown hK hP 0 rfl rfl 3 (lbz rfl) (hts _ q_74) (fun _ h9 => h9) rfl bAo.2.2.2.2.2.2.2.1 ?_
      refine lv_aload_n hx hb bAo.2.2.2.2.2.2.2.2.1 rfl (lv_at hl 1 rfl) ?_
      refine va_get (D := (dC, dI)) (ci := 9) (v := .ref wY) (C := RX9) (T := TX9) (N := 9) hx hb hts aC3 hown hK hP 0 rfl rfl 4 (lbz rfl) (hts _ q_179) (fun _ h9 => h9) rfl bAo.2.2.2.2.2.2.2.2.2.1 ?_
      refine va_get (D := (dC, dI)) (ci := 2) (v := .int fY) (C := RX2) (T := TX2) (N := 8) hx hb hts i_X2 hown hK hP 12 rfl rfl 4 (lbz rfl) (hts _ q_497) (fun _ h9 => h9) rfl bAo.2.2.2.2.2.2.2.2.2.2.1 ?_
      refine lv_iload_n hx hb bAo.2.2.2.2.2.2.2.2.2.2.2.1 rfl (lv_at hl 2 rfl) ?_
      have hm := mgk (wc := (bBP cI cC cZ cB cJ vI tJ jJ mY pG pD pE eO dN bD bJ aI mX dY)) hP mk_157 19 rfl rfl rfl
      refine yW hP hD hS hA (yS mk_157) (aAi mk_157) hm.1 hm.2 (aAk _) (zW _) (zF (As := [.int fY, .int p0]) (rest := []) C0 hP hD hS (yS mk_157) hm.1 (aAl _) 4 3 rfl rfl (c_X3_moveSeconds l dC dI cI cC cZ cB cJ vI tJ jJ mY pG pD pE eO H.size fY p0 dN bD bJ aI mX dY _ hp) q_229 q_503 q_230 q_231 q_48 h_X3_moveSeconds rfl rfl ⟨lbz rfl, lbz rfl⟩ rfl rfl hl.1 rfl (lv_room (lbz rfl)) bAo.2.2.2.2.2.2.2.2.2.2.2.2.1 ⟨Nat.zero_le _, Nat.zero_le _⟩) (fun r_5 u H locs hp hP hD hS => ?_)
      have hPD := PDm (ws' := (aNX cI cC cZ cB cJ a_x xI xH xB vI wY xX yA xY uD uJ rW uQ uP uO xO tJ jJ mY pG pD pE eO uS tX uR rY tY rG aCw rJ pX rO aEE dN bD bJ aI uU gF pL qF mX oE dY jE eW eY dU fY gJ jG nU pQ qI sY uG pY nJ qY qU pN qB jK)) hP hD 19 rfl rfl rfl
      have hP := hPD.1
      have hD := hPD.2
      exact ks_X9_pays_59 C0 p0 r_4 r_5 aCw aEE qY qU qB jK H locs ls hp hP hD hS (lv_sub hl [1, 2, 0] rfl)
    · have hp := hp.2 hc
      refine lv_iconst (v := 0) hx hb bAo.2.2.2.2.1 aCi ?_
      refine lv_goto (tgt := 59) hx hb bAo.2.2.2.2.2.1 (by decide) ?_
      exact ks_X9_pays_59 C0 p0 r_4 0 aCw aEE qY qU qB jK H locs ls hp hP hD hS (lv_sub hl [1, 2, 0] rfl)
  · have hp := hp.2 hc
    refine lv_iconst (v := (-1)) hx hb eX9_pays_0.2.2.2.2.2.1 aEJ ?_
    exact W.iret (v := (-1)) hx hb hr (fun t ht hW => ⟨⟨(-1), (oY, rD, qY, qU, qB, jK), rfl, hp, by rw [ht]; exact hP, va_K.moved hW.alike hK, hD⟩, hS.F ht⟩) hS.2.2 eX9_pays_0.2.2.2.2.2.2.1
abbrev aNL (cI cC cZ cB cJ : ClassId) (a_x xI xH xB vI wY xX yA xY uD uJ rW uQ uP uO xO tJ jJ mY pG pD pE eO rG : Nat) (oY rJ pX rO : Int32) (rD : Nat -> Int32) (dN bD bJ aI : Int32) (uU gF qF mX oE dY : Nat -> Int32) (jE eW eY dU fY gJ jG nU qB : Int32) (jK : Nat -> Int32) : va_W := [(a_x, .inr (9, [.ref xI, .ref xH, .ref xB, .ref vI, .ref wY, .ref xX, .ref yA, .ref xY, .ref uD])), (xH, .inr (5, [.ref xB, .ref vI, .ref uJ, .ref rW, .ref uQ, .ref uP, .ref uO, .int oY, .int rJ, .int pX, .int rO])), (uJ, .inl (cI, 8, .inl rD)), (xB, .inr (0, [.ref vI, .ref wY, .ref xO])), (vI, .inr (3, [.ref tJ, .ref jJ, .ref mY, .ref pG, .ref pD, .ref pE, .ref eO, .int dN, .int bD, .int bJ, .int aI])), (tJ, .inl (cI, 16, .inl uU)), (jJ, .inl (cI, 16, .inl gF)), (pG, .inl (cI, 16, .inl qF)), (pD, .inl (cI, 8, .inl mX)), (pE, .inl (cI, 8, .inl oE)), (eO, .inl (cI, 5, .inl dY)), (wY, .inr (2, [.int jE, .int eW, .int eY, .int dU, .int fY, .int gJ, .int jG, .int nU])), (yA, .inr (6, [.ref rG, .int qB])), (rG, .inl (cI, 16, .inl jK))]
abbrev q_X9_trips (dC : Nat -> ClassId) (dI : Nat -> Nat -> Nat) (cI cC cZ cB cJ : ClassId) (A : Nat -> Prop) (a_x xI xH xB vI wY xX yA xY uD uJ rW uQ uP uO xO tJ jJ mY pG pD pE eO rG : Nat) (rJ pX rO dN bD bJ aI : Int32) (uU gF qF mX oE dY : Nat -> Int32) (jE eW eY dU fY gJ jG nU : Int32) (post : Int32 -> Int32 -> (Nat -> Int32) -> Int32 -> (Nat -> Int32) -> Prop) : Array Value -> State -> Outcome -> State -> Prop := va_Qi (fun (r : Int32) (u : Int32 × (Nat -> Int32) × Int32 × (Nat -> Int32)) => post r u.1 u.2.1 u.2.2.1 u.2.2.2) (fun u t => gB (dC, dI) (tyl cI cC cZ cB cJ) A (aNL cI cC cZ cB cJ a_x xI xH xB vI wY xX yA xY uD uJ rW uQ uP uO xO tJ jJ mY pG pD pE eO rG u.1 rJ pX rO u.2.1 dN bD bJ aI uU gF qF mX oE dY jE eW eY dU fY gJ jG nU u.2.2.1 u.2.2.2) t) A
abbrev rm_X9_trips : Room := { frames := 5, cells := 0, slots := 0, locals := 115 }
section S_X9_trips
variable {p : Program} {l : Launch} {e : Env} {s : State} {m : MethodId} {args : Array Value} {below : List Frame} {meth : Method} {c : Code} {dC : Nat -> ClassId} {dI : Nat -> Nat -> Nat} {cI cC cZ cB cJ : ClassId} {A : Nat -> Prop} {a_x xI xH xB vI wY xX yA xY uD uJ rW uQ uP uO xO tJ jJ mY pG pD pE eO rG : Nat} {rJ pX rO dN bD bJ aI : Int32} {uU gF qF mX oE dY : Nat -> Int32} {jE eW eY dU fY gJ jG nU : Int32} {post : Int32 -> Int32 -> (Nat -> Int32) -> Int32 -> (Nat -> Int32) -> Prop}
def ws_X9_trips_89 (post : Int32 -> Int32 -> (Nat -> Int32) -> Int32 -> (Nat -> Int32) -> Prop) (K64 : Int32 -> Int32 -> Int32 -> Int32 -> Int32 -> (Nat -> Int32) -> Int32 -> (Nat -> Int32) -> Prop) (dN bD : Int32) (uU gF qF mX oE dY : Nat -> Int32) (jE eW eY fY gJ jG x2 x3 x4 x5 oY : Int32) (rD : Nat -> Int32) (qB : Int32) (jK : Nat -> Int32) : Prop := ∀ v_8 : Int32, v_8 = x2 + 1 -> ∀ v_9 : Int32, v_9 = x5 + 1 -> K64 v_8 x3 x4 v_9 oY rD qB jK
set_option maxHeartbeats 4000000 in
set_option maxRecDepth 100000 in
theorem ks_X9_trips_89 (C0 : gc aFN (some .int) 6 RX9 (dC, dI) (tyl cI cC cZ cB cJ) A p s m args meth c) {K64 : Int32 -> Int32 -> Int32 -> Int32 -> Int32 -> (Nat -> Int32) -> Int32 -> (Nat -> Int32) -> Prop} (hK64 : ∀ (x2 : Int32) (x3 : Int32) (x4 : Int32) (x5 : Int32) (oY : Int32) (rD : Nat -> Int32) (qB : Int32) (jK : Nat -> Int32) (H : Heap) (locs : List Loc) (ls : Array Slot), K64 x2 x3 x4 x5 oY rD qB jK -> va_P (dC, dI) classes (aNL cI cC cZ cB cJ a_x xI xH xB vI wY xX yA xY uD uJ rW uQ uP uO xO tJ jJ mY pG pD pE eO rG oY rJ pX rO rD dN bD bJ aI uU gF qF mX oE dY jE eW eY dU fY gJ jG nU qB jK) H -> va_D A (aNL cI cC cZ cB cJ a_x xI xH xB vI wY xX yA xY uD uJ rW uQ uP uO xO tJ jJ mY pG pD pE eO rG oY rJ pX rO rD dN bD bJ aI uU gF qF mX oE dY jE eW eY dU fY gJ jG nU qB jK) -> va_S A s.heap H locs -> lv_has ls 6 [(0, .ref a_x), (2, .int x2), (3, .int x3), (4, .int x4), (5, .int x5)] -> W p l e rm_X9_trips s m args below meth c H locs 0 0 (MQ below (q_X9_trips dC dI cI cC cZ cB cJ A a_x xI xH xB vI wY xX yA xY uD uJ rW uQ uP uO xO tJ jJ mY pG pD pE eO rG rJ pX rO dN bD bJ aI uU gF qF mX oE dY jE eW eY dU fY gJ jG nU post) args s 0 0 A) (F0 m 64 ls [])) : ∀ (x2 x3 x4 x5 oY : Int32) (rD : Nat -> Int32) (qB : Int32) (jK : Nat -> Int32) (H : Heap) (locs : List Loc) (ls : Array Slot), (ws_X9_trips_89 post K64 dN bD uU gF qF mX oE dY jE eW eY fY gJ jG) x2 x3 x4 x5 oY rD qB jK -> va_P (dC, dI) classes (aNL cI cC cZ cB cJ a_x xI xH xB vI wY xX yA xY uD uJ rW uQ uP uO xO tJ jJ mY pG pD pE eO rG oY rJ pX rO rD dN bD bJ aI uU gF qF mX oE dY jE eW eY dU fY gJ jG nU qB jK) H -> va_D A (aNL cI cC cZ cB cJ a_x xI xH xB vI wY xX yA xY uD uJ rW uQ uP uO xO tJ jJ mY pG pD pE eO rG oY rJ pX rO rD dN bD bJ aI uU gF qF mX oE dY jE eW eY dU fY gJ jG nU qB jK) -> va_S A s.heap H locs -> lv_has ls 6 [(0, .ref a_x), (2, .int x2), (3, .int x3), (4, .int x4), (5, .int x5)] -> W p l e rm_X9_trips s m args below meth c H locs 0 0 (MQ below (q_X9_trips dC dI cI cC cZ cB cJ A a_x xI xH xB vI wY xX yA xY uD uJ rW uQ uP uO xO tJ jJ mY pG pD pE eO rG rJ pX rO dN bD bJ aI uU gF qF mX oE dY jE eW eY dU fY gJ jG nU post) args s 0 0 A) (F0 m 89 ls []) := by
  obtain ⟨hx, hb, hr, hml, hown, hts, hlocks, hA, hK, hN, tL, tM, hZL, hTL, hZM, hTM, hZX⟩ := id C0
  intro x2 x3 x4 x5 oY rD qB jK H locs ls hp hP hD hS hl
  unfold ws_X9_trips_89 at hp
  obtain ⟨v_8, ev_8⟩ : ∃ y : Int32, y = x2 + 1 := ⟨_, rfl⟩
  refine lv_iinc (v := v_8) (lv' := [(2, .int v_8), (0, .ref a_x), (3, .int x3), (4, .int x4), (5, .int x5)]) hx hb aW7.2.2.2.2.2.2.2.2.1 hl (k := 1) rfl (by rw [ev_8]; rfl) (by decide) rfl (fun ls hl => ?_)
  have hp := hp v_8 ev_8
  obtain ⟨v_9, ev_9⟩ : ∃ y : Int32, y = x5 + 1 := ⟨_, rfl⟩
  refine lv_iinc (v := v_9) (lv' := [(5, .int v_9), (2, .int v_8), (0, .ref a_x), (3, .int x3), (4, .int x4)]) hx hb aW7.2.2.2.2.2.2.2.2.2.1 hl (k := 4) rfl (by rw [ev_9]; rfl) (by decide) rfl (fun ls hl => ?_)
  have hp := hp v_9 ev_9
  refine lv_goto (tgt := 64) hx hb aW7.2.2.2.2.2.2.2.2.2.2.1 (by decide) ?_
  exact hK64 v_8 x3 x4 v_9 oY rD qB jK H locs ls hp hP hD hS (lv_sub hl [2, 1, 3, 4, 0] rfl)
def ws_X9_trips_64 (post : Int32 -> Int32 -> (Nat -> Int32) -> Int32 -> (Nat -> Int32) -> Prop) (next : Int32 -> Int32 -> Int32 -> Int32 -> Int32 -> (Nat -> Int32) -> Int32 -> (Nat -> Int32) -> Prop) (dN bD : Int32) (uU gF qF mX oE dY : Nat -> Int32) (jE eW eY fY gJ jG x2 x3 x4 x5 oY : Int32) (rD : Nat -> Int32) (qB : Int32) (jK : Nat -> Int32) : Prop := (x4 <= x5 -> aYk (fun aKD aF9 => post x3 oY rD aKD aF9) x2 qB jK) /\ (¬ x4 <= x5 -> (x2 < (dY (4 : Int32).toNatClampNeg) -> ws_X9_trips_89 post next dN bD uU gF qF mX oE dY jE eW eY fY gJ jG x2 x3 x4 x5 oY rD qB jK) /\ (¬ x2 < (dY (4 : Int32).toNatClampNeg) -> ∀ aEr : Int32, aEr = x3 + 1 -> ws_X9_trips_89 post next dN bD uU gF qF mX oE dY jE eW eY fY gJ jG 0 aEr x4 x5 oY rD qB jK))
noncomputable def wb_X9_trips_64 (post : Int32 -> Int32 -> (Nat -> Int32) -> Int32 -> (Nat -> Int32) -> Prop) (dN bD : Int32) (uU gF qF mX oE dY : Nat -> Int32) (jE eW eY fY gJ jG : Int32) : Nat -> Int32 -> Int32 -> Int32 -> Int32 -> Int32 -> (Nat -> Int32) -> Int32 -> (Nat -> Int32) -> Prop := fun n => Nat.rec (motive := fun _ => Int32 -> Int32 -> Int32 -> Int32 -> Int32 -> (Nat -> Int32) -> Int32 -> (Nat -> Int32) -> Prop) (fun _ _ _ _ _ _ _ _ => False) (fun _ ih => ws_X9_trips_64 post ih dN bD uU gF qF mX oE dY jE eW eY fY gJ jG) n
set_option maxHeartbeats 4000000 in
set_option maxRecDepth 100000 in
theorem ks_X9_trips_64 (C0 : gc aFN (some .int) 6 RX9 (dC, dI) (tyl cI cC cZ cB cJ) A p s m args meth c) {next : Int32 -> Int32 -> Int32 -> Int32 -> Int32 -> (Nat -> Int32) -> Int32 -> (Nat -> Int32) -> Prop} (hKn : ∀ (x2 : Int32) (x3 : Int32) (x4 : Int32) (x5 : Int32) (oY : Int32) (rD : Nat -> Int32) (qB : Int32) (jK : Nat -> Int32) (H : Heap) (locs : List Loc) (ls : Array Slot), next x2 x3 x4 x5 oY rD qB jK -> va_P (dC, dI) classes (aNL cI cC cZ cB cJ a_x xI xH xB vI wY xX yA xY uD uJ rW uQ uP uO xO tJ jJ mY pG pD pE eO rG oY rJ pX rO rD dN bD bJ aI uU gF qF mX oE dY jE eW eY dU fY gJ jG nU qB jK) H -> va_D A (aNL cI cC cZ cB cJ a_x xI xH xB vI wY xX yA xY uD uJ rW uQ uP uO xO tJ jJ mY pG pD pE eO rG oY rJ pX rO rD dN bD bJ aI uU gF qF mX oE dY jE eW eY dU fY gJ jG nU qB jK) -> va_S A s.heap H locs -> lv_has ls 6 [(0, .ref a_x), (2, .int x2), (3, .int x3), (4, .int x4), (5, .int x5)] -> W p l e rm_X9_trips s m args below meth c H locs 0 0 (MQ below (q_X9_trips dC dI cI cC cZ cB cJ A a_x xI xH xB vI wY xX yA xY uD uJ rW uQ uP uO xO tJ jJ mY pG pD pE eO rG rJ pX rO dN bD bJ aI uU gF qF mX oE dY jE eW eY dU fY gJ jG nU post) args s 0 0 A) (F0 m 64 ls [])) : ∀ (x2 x3 x4 x5 oY : Int32) (rD : Nat -> Int32) (qB : Int32) (jK : Nat -> Int32) (H : Heap) (locs : List Loc) (ls : Array Slot), (ws_X9_trips_64 post next dN bD uU gF qF mX oE dY jE eW eY fY gJ jG) x2 x3 x4 x5 oY rD qB jK -> va_P (dC, dI) classes (aNL cI cC cZ cB cJ a_x xI xH xB vI wY xX yA xY uD uJ rW uQ uP uO xO tJ jJ mY pG pD pE eO rG oY rJ pX rO rD dN bD bJ aI uU gF qF mX oE dY jE eW eY dU fY gJ jG nU qB jK) H -> va_D A (aNL cI cC cZ cB cJ a_x xI xH xB vI wY xX yA xY uD uJ rW uQ uP uO xO tJ jJ mY pG pD pE eO rG oY rJ pX rO rD dN bD bJ aI uU gF qF mX oE dY jE eW eY dU fY gJ jG nU qB jK) -> va_S A s.heap H locs -> lv_has ls 6 [(0, .ref a_x), (2, .int x2), (3, .int x3), (4, .int x4), (5, .int x5)] -> W p l e rm_X9_trips s m args below meth c H locs 0 0 (MQ below (q_X9_trips dC dI cI cC cZ cB cJ A a_x xI xH xB vI wY xX yA xY uD uJ rW uQ uP uO xO tJ jJ mY pG pD pE eO rG rJ pX rO dN bD bJ aI uU gF qF mX oE dY jE eW eY dU fY gJ jG nU post) args s 0 0 A) (F0 m 64 ls []) := by
  obtain ⟨hx, hb, hr, hml, hown, hts, hlocks, hA, hK, hN, tL, tM, hZL, hTL, hZM, hTM, hZX⟩ := id C0
  intro x2 x3 x4 x5 oY rD qB jK H locs ls hp hP hD hS hl
  unfold ws_X9_trips_64 at hp
  refine lv_iload hx hb aW6.2.2.2.2.2.2.2.2.2.2.2.1 (lv_at hl 4 rfl) ?_
  refine lv_iload hx hb aW6.2.2.2.2.2.2.2.2.2.2.2.2.1 (lv_at hl 3 rfl) ?_
  refine lv_icmp_ge (tgt := 98) hx hb aW6.2.2.2.2.2.2.2.2.2.2.2.2.2.1 (by decide) (fun hc => ?_) (fun hc => ?_)
  · have hp := hp.1 hc
    refine lv_aload_n hx hb aW7.2.2.2.2.2.2.2.2.2.2.2.1 rfl (lv_at hl 0 rfl) ?_
    refine lv_iload_n hx hb aW7.2.2.2.2.2.2.2.2.2.2.2.2.1 rfl (lv_at hl 1 rfl) ?_
    have hm := mgk (wc := (wd_X9_tell cI cC cZ cB cJ a_x xI xH xB vI wY xX yA xY uD rG qB jK)) hP mk_121 14 rfl rfl rfl
    refine aBn hP hD hS hA (yS mk_121) (aAi mk_121) hm.1 hm.2 (aAk _) (zW _) (zF (As := [.int x2]) (rest := []) C0 hP hD hS (yS mk_121) hm.1 (aAl _) 0 9 rfl rfl (c_X9_tell l dC dI cI cC cZ cB cJ a_x xI xH xB vI wY xX yA xY uD rG H.size x2 qB jK _ hp) q_373 q_376 q_374 q_375 aIl h_X9_tell rfl rfl ⟨lbz rfl, lbz rfl⟩ rfl rfl hl.1 rfl (lv_room (lbz rfl)) aW7.2.2.2.2.2.2.2.2.2.2.2.2.2.1 ⟨Nat.zero_le _, Nat.zero_le _⟩) (fun u H locs hp hP hD hS => ?_)
    obtain ⟨aKD, aF9⟩ := u
    have hPD := PDm (ws' := (aNL cI cC cZ cB cJ a_x xI xH xB vI wY xX yA xY uD uJ rW uQ uP uO xO tJ jJ mY pG pD pE eO rG oY rJ pX rO rD dN bD bJ aI uU gF qF mX oE dY jE eW eY dU fY gJ jG nU aKD aF9)) hP hD 14 rfl rfl rfl
    have hP := hPD.1
    have hD := hPD.2
    refine lv_iload_n hx hb aW7.2.2.2.2.2.2.2.2.2.2.2.2.2.2.1 rfl (lv_at hl 2 rfl) ?_
    exact W.iret (v := x3) hx hb hr (fun t ht hW => ⟨⟨x3, (oY, rD, aKD, aF9), rfl, hp, by rw [ht]; exact hP, va_K.moved hW.alike hK, hD⟩, hS.F ht⟩) hS.2.2 aW7.2.2.2.2.2.2.2.2.2.2.2.2.2.2.2
  · have hp := hp.2 hc
    refine lv_iload_n hx hb aW6.2.2.2.2.2.2.2.2.2.2.2.2.2.2.1 rfl (lv_at hl 1 rfl) ?_
    refine lv_aload_n hx hb aW6.2.2.2.2.2.2.2.2.2.2.2.2.2.2.2 rfl (lv_at hl 0 rfl) ?_
    refine va_get (D := (dC, dI)) (ci := 9) (v := .ref vI) (C := RX9) (T := TX9) (N := 9) hx hb hts aC3 hown hK hP 0 rfl rfl 3 (lbz rfl) (hts _ q_74) (fun _ h9 => h9) rfl aW7.1 ?_
    refine va_get (D := (dC, dI)) (ci := 3) (v := .ref eO) (C := RX3) (T := TX3) (N := 11) hx hb hts i_X3 hown hK hP 4 rfl rfl 6 (lbz rfl) (hts _ q_207) (fun _ h9 => h9) rfl aW7.2.1 ?_
    refine lv_iconst (v := 4) hx hb aW7.2.2.1 ic_4 ?_
    refine va_iald hx hb hK hP 10 0 rfl rfl (g_in rfl) aW7.2.2.2.1 ?_
    refine lv_icmp_lt (tgt := 89) hx hb aW7.2.2.2.2.1 (by decide) (fun hc => ?_) (fun hc => ?_)
    · have hp := hp.1 hc
      exact ks_X9_trips_89 C0 hKn x2 x3 x4 x5 oY rD qB jK H locs ls hp hP hD hS (lv_sub hl [0, 1, 2, 3, 4] rfl)
    · have hp := hp.2 hc
      obtain ⟨aEr, aNB⟩ : ∃ y : Int32, y = x3 + 1 := ⟨_, rfl⟩
      refine lv_iinc (v := aEr) (lv' := [(3, .int aEr), (0, .ref a_x), (2, .int x2), (4, .int x4), (5, .int x5)]) hx hb aW7.2.2.2.2.2.1 hl (k := 2) rfl (by rw [aNB]; rfl) (by decide) rfl (fun ls hl => ?_)
      have hp := hp aEr aNB
      refine lv_iconst (v := 0) hx hb aW7.2.2.2.2.2.2.1 aCi ?_
      refine lv_istore_n (lv' := [(2, .int 0), (3, .int aEr), (0, .ref a_x), (4, .int x4), (5, .int x5)]) hx hb aW7.2.2.2.2.2.2.2.1 rfl hl (by decide) rfl (fun ls hl => ?_)
      exact ks_X9_trips_89 C0 hKn 0 aEr x4 x5 oY rD qB jK H locs ls hp hP hD hS (lv_sub hl [2, 0, 1, 3, 4] rfl)
set_option maxHeartbeats 4000000 in
set_option maxRecDepth 100000 in
theorem kb_X9_trips_64 (C0 : gc aFN (some .int) 6 RX9 (dC, dI) (tyl cI cC cZ cB cJ) A p s m args meth c) : ∀ (n : Nat), ∀ (x2 x3 x4 x5 oY : Int32) (rD : Nat -> Int32) (qB : Int32) (jK : Nat -> Int32) (H : Heap) (locs : List Loc) (ls : Array Slot), (wb_X9_trips_64 post dN bD uU gF qF mX oE dY jE eW eY fY gJ jG n) x2 x3 x4 x5 oY rD qB jK -> va_P (dC, dI) classes (aNL cI cC cZ cB cJ a_x xI xH xB vI wY xX yA xY uD uJ rW uQ uP uO xO tJ jJ mY pG pD pE eO rG oY rJ pX rO rD dN bD bJ aI uU gF qF mX oE dY jE eW eY dU fY gJ jG nU qB jK) H -> va_D A (aNL cI cC cZ cB cJ a_x xI xH xB vI wY xX yA xY uD uJ rW uQ uP uO xO tJ jJ mY pG pD pE eO rG oY rJ pX rO rD dN bD bJ aI uU gF qF mX oE dY jE eW eY dU fY gJ jG nU qB jK) -> va_S A s.heap H locs -> lv_has ls 6 [(0, .ref a_x), (2, .int x2), (3, .int x3), (4, .int x4), (5, .int x5)] -> W p l e rm_X9_trips s m args below meth c H locs 0 0 (MQ below (q_X9_trips dC dI cI cC cZ cB cJ A a_x xI xH xB vI wY xX yA xY uD uJ rW uQ uP uO xO tJ jJ mY pG pD pE eO rG rJ pX rO dN bD bJ aI uU gF qF mX oE dY jE eW eY dU fY gJ jG nU post) args s 0 0 A) (F0 m 64 ls []) := by
  intro n
  induction n with
  | zero =>
    intro x2 x3 x4 x5 oY rD qB jK H locs ls hp
    exact False.elim hp
  | succ n ih =>
    intro x2 x3 x4 x5 oY rD qB jK H locs ls hp
    exact ks_X9_trips_64 C0 ih x2 x3 x4 x5 oY rD qB jK H locs ls hp
def ws_X9_trips_45 (post : Int32 -> Int32 -> (Nat -> Int32) -> Int32 -> (Nat -> Int32) -> Prop) (dN bD : Int32) (uU gF qF mX oE dY : Nat -> Int32) (jE eW eY fY gJ jG x1 k0 oY : Int32) (rD : Nat -> Int32) (qB : Int32) (jK : Nat -> Int32) : Prop := wp_X5_wantedFrom (fun r_4 => aBb (fun r_5 => ∃ n : Nat, wb_X9_trips_64 post dN bD uU gF qF mX oE dY jE eW eY fY gJ jG n k0 0 r_5 0 oY rD qB jK) r_4) x1 oY rD
set_option maxHeartbeats 4000000 in
set_option maxRecDepth 100000 in
theorem ks_X9_trips_45 (C0 : gc aFN (some .int) 6 RX9 (dC, dI) (tyl cI cC cZ cB cJ) A p s m args meth c) : ∀ (x1 k0 oY : Int32) (rD : Nat -> Int32) (qB : Int32) (jK : Nat -> Int32) (H : Heap) (locs : List Loc) (ls : Array Slot), (ws_X9_trips_45 post dN bD uU gF qF mX oE dY jE eW eY fY gJ jG) x1 k0 oY rD qB jK -> va_P (dC, dI) classes (aNL cI cC cZ cB cJ a_x xI xH xB vI wY xX yA xY uD uJ rW uQ uP uO xO tJ jJ mY pG pD pE eO rG oY rJ pX rO rD dN bD bJ aI uU gF qF mX oE dY jE eW eY dU fY gJ jG nU qB jK) H -> va_D A (aNL cI cC cZ cB cJ a_x xI xH xB vI wY xX yA xY uD uJ rW uQ uP uO xO tJ jJ mY pG pD pE eO rG oY rJ pX rO rD dN bD bJ aI uU gF qF mX oE dY jE eW eY dU fY gJ jG nU qB jK) -> va_S A s.heap H locs -> lv_has ls 6 [(0, .ref a_x), (1, .int x1)] -> W p l e rm_X9_trips s m args below meth c H locs 0 0 (MQ below (q_X9_trips dC dI cI cC cZ cB cJ A a_x xI xH xB vI wY xX yA xY uD uJ rW uQ uP uO xO tJ jJ mY pG pD pE eO rG rJ pX rO dN bD bJ aI uU gF qF mX oE dY jE eW eY dU fY gJ jG nU post) args s 0 0 A) (F0 m 45 ls [.int k0]) := by
  obtain ⟨hx, hb, hr, hml, hown, hts, hlocks, hA, hK, hN, tL, tM, hZL, hTL, hZM, hTM, hZX⟩ := id C0
  intro x1 k0 oY rD qB jK H locs ls hp hP hD hS hl
  unfold ws_X9_trips_45 at hp
  refine lv_istore_n (lv' := [(2, .int k0), (0, .ref a_x), (1, .int x1)]) hx hb aW6.1 rfl hl (by decide) rfl (fun ls hl => ?_)
  refine lv_iconst (v := 0) hx hb aW6.2.1 aCi ?_
  refine lv_istore_n (lv' := [(3, .int 0), (2, .int k0), (0, .ref a_x), (1, .int x1)]) hx hb aW6.2.2.1 rfl hl (by decide) rfl (fun ls hl => ?_)
  refine lv_aload_n hx hb aW6.2.2.2.1 rfl (lv_at hl 2 rfl) ?_
  refine va_get (D := (dC, dI)) (ci := 9) (v := .ref xH) (C := RX9) (T := TX9) (N := 9) hx hb hts aC3 hown hK hP 0 rfl rfl 1 (lbz rfl) (hts _ aOt) (fun _ h9 => h9) rfl aW6.2.2.2.2.1 ?_
  refine lv_iload_n hx hb aW6.2.2.2.2.2.1 rfl (lv_at hl 3 rfl) ?_
  have hm := mgk (wc := (aZe cI cC cZ cB cJ xH xB vI uJ rW uQ uP uO oY rJ pX rO rD)) hP mk_120 14 rfl rfl rfl
  refine yW hP hD hS hA (yS mk_120) (aAi mk_120) hm.1 hm.2 (aAk _) (zW _) (zF (As := [.int x1]) (rest := []) C0 hP hD hS (yS mk_120) hm.1 (aAl _) 1 5 rfl rfl (c_X5_wantedFrom l dC dI cI cC cZ cB cJ xH xB vI uJ rW uQ uP uO H.size x1 oY rJ pX rO rD _ hp) q_449 q_452 q_450 q_451 aRn h_X5_wantedFrom rfl rfl ⟨lbz rfl, lbz rfl⟩ rfl rfl hl.1 rfl (lv_room (lbz rfl)) aW6.2.2.2.2.2.2.1 ⟨Nat.zero_le _, Nat.zero_le _⟩) (fun r_4 u H locs hp hP hD hS => ?_)
  have hPD := PDm (ws' := (aNL cI cC cZ cB cJ a_x xI xH xB vI wY xX yA xY uD uJ rW uQ uP uO xO tJ jJ mY pG pD pE eO rG oY rJ pX rO rD dN bD bJ aI uU gF qF mX oE dY jE eW eY dU fY gJ jG nU qB jK)) hP hD 14 rfl rfl rfl
  have hP := hPD.1
  have hD := hPD.2
  have hm := mgk (wc := (aBh cI cC cZ cB cJ)) hP aJ7 14 rfl rfl rfl
  refine yW hP hD hS hA (yS aJ7) (aAi aJ7) hm.1 hm.2 (aAk _) (zW _) (aDn (As := [.int r_4]) (rest := []) C0 hP hD hS (yS aJ7) hm.1 (aAl _) (aBv l dC dI cI cC cZ cB cJ H.size r_4 _ hp) q_320 q_474 q_322 q_321 aBw rfl rfl ⟨lbz rfl, lbz rfl⟩ rfl rfl hl.1 rfl (lv_room (lbz rfl)) aW6.2.2.2.2.2.2.2.1 ⟨Nat.zero_le _, Nat.zero_le _⟩) (fun r_5 u H locs hp hP hD hS => ?_)
  have hPD := PDm (ws' := (aNL cI cC cZ cB cJ a_x xI xH xB vI wY xX yA xY uD uJ rW uQ uP uO xO tJ jJ mY pG pD pE eO rG oY rJ pX rO rD dN bD bJ aI uU gF qF mX oE dY jE eW eY dU fY gJ jG nU qB jK)) hP hD 14 rfl rfl rfl
  have hP := hPD.1
  have hD := hPD.2
  refine lv_istore (lv' := [(4, .int r_5), (3, .int 0), (2, .int k0), (0, .ref a_x), (1, .int x1)]) hx hb aW6.2.2.2.2.2.2.2.2.1 hl (by decide) rfl (fun ls hl => ?_)
  refine lv_iconst (v := 0) hx hb aW6.2.2.2.2.2.2.2.2.2.1 aCi ?_
  refine lv_istore (lv' := [(5, .int 0), (4, .int r_5), (3, .int 0), (2, .int k0), (0, .ref a_x), (1, .int x1)]) hx hb aW6.2.2.2.2.2.2.2.2.2.2.1 hl (by decide) rfl (fun ls hl => ?_)
  obtain ⟨n9, hp⟩ := hp
  exact kb_X9_trips_64 C0 n9 k0 0 r_5 0 oY rD qB jK H locs ls hp hP hD hS (lv_sub hl [4, 3, 2, 1, 0] rfl)
end S_X9_trips
def wp_X9_trips (post : Int32 -> Int32 -> (Nat -> Int32) -> Int32 -> (Nat -> Int32) -> Prop) (p0 oY : Int32) (rD : Nat -> Int32) (dN bD : Int32) (uU gF qF mX oE dY : Nat -> Int32) (jE eW eY fY gJ jG qB : Int32) (jK : Nat -> Int32) : Prop := aK6 (fun r_1 => (¬ r_1 = 0 -> aZL (fun aCw aEE => (¬ fY = p0 -> ws_X9_trips_45 post dN bD uU gF qF mX oE dY jE eW eY fY gJ jG p0 0 aCw aEE qB jK) /\ (fY = p0 -> aBb (fun r_11 => ws_X9_trips_45 post dN bD uU gF qF mX oE dY jE eW eY fY gJ jG p0 r_11 aCw aEE qB jK) jE)) oY rD dN bD uU gF qF mX oE dY jE eW eY gJ jG) /\ (r_1 = 0 -> post (-1) oY rD qB jK)) p0 bD
set_option maxHeartbeats 4000000 in
set_option maxRecDepth 100000 in
theorem c_X9_trips (l : Launch) (dC : Nat -> ClassId) (dI : Nat -> Nat -> Nat) (cI cC cZ cB cJ : ClassId) (a_x xI xH xB vI wY xX yA xY uD uJ rW uQ uP uO xO tJ jJ mY pG pD pE eO rG sz : Nat) (p0 oY rJ pX rO : Int32) (rD : Nat -> Int32) (dN bD bJ aI : Int32) (uU gF qF mX oE dY : Nat -> Int32) (jE eW eY dU fY gJ jG nU qB : Int32) (jK : Nat -> Int32) (post : Int32 -> Int32 -> (Nat -> Int32) -> Int32 -> (Nat -> Int32) -> Prop) (hw : wp_X9_trips post p0 oY rD dN bD uU gF qF mX oE dY jE eW eY fY gJ jG qB jK) : Met l yX9_trips (gw yX9_trips aFN 6 (some .int)) rm_X9_trips (va_Pc [.ref a_x, .int p0] (gPre (dC, dI) (tyl cI cC cZ cB cJ) (aNL cI cC cZ cB cJ a_x xI xH xB vI wY xX yA xY uD uJ rW uQ uP uO xO tJ jJ mY pG pD pE eO rG oY rJ pX rO rD dN bD bJ aI uU gF qF mX oE dY jE eW eY dU fY gJ jG nU qB jK) sz)) (q_X9_trips dC dI cI cC cZ cB cJ (va_A (aNL cI cC cZ cB cJ a_x xI xH xB vI wY xX yA xY uD uJ rW uQ uP uO xO tJ jJ mY pG pD pE eO rG oY rJ pX rO rD dN bD bJ aI uU gF qF mX oE dY jE eW eY dU fY gJ jG nU qB jK) sz) a_x xI xH xB vI wY xX yA xY uD uJ rW uQ uP uO xO tJ jJ mY pG pD pE eO rG rJ pX rO dN bD bJ aI uU gF qF mX oE dY jE eW eY dU fY gJ jG nU post) 0 0 (va_A (aNL cI cC cZ cB cJ a_x xI xH xB vI wY xX yA xY uD uJ rW uQ uP uO xO tJ jJ mY pG pD pE eO rG oY rJ pX rO rD dN bD bJ aI uU gF qF mX oE dY jE eW eY dU fY gJ jG nU qB jK) sz) := by
  refine aBJ (own := RX9) (dC, dI) (tyl cI cC cZ cB cJ) (aNL cI cC cZ cB cJ a_x xI xH xB vI wY xX yA xY uD uJ rW uQ uP uO xO tJ jJ mY pG pD pE eO rG oY rJ pX rO rD dN bD bJ aI uU gF qF mX oE dY jE eW eY dU fY gJ jG nU qB jK) sz [.ref a_x, .int p0] (fun A => q_X9_trips dC dI cI cC cZ cB cJ A a_x xI xH xB vI wY xX yA xY uD uJ rW uQ uP uO xO tJ jJ mY pG pD pE eO rG rJ pX rO dN bD bJ aI uU gF qF mX oE dY jE eW eY dU fY gJ jG nU post) pn_RX9 rfl (lbz rfl) ?_
  intro p e s m args below meth c A H locs ls C0 hP hD hS hl
  have hl : lv_has ls 6 [(0, .ref a_x), (1, .int p0)] := hl
  obtain ⟨hx, hb, hr, hml, hown, hts, hlocks, hA, hK, hN, tL, tM, hZL, hTL, hZM, hTM, hZX⟩ := id C0
  have hp := hw
  unfold wp_X9_trips at hp
  refine lv_aload_n hx hb eX9_trips_0.1 rfl (lv_at hl 0 rfl) ?_
  refine va_get (D := (dC, dI)) (ci := 9) (v := .ref vI) (C := RX9) (T := TX9) (N := 9) hx hb hts aC3 hown hK hP 0 rfl rfl 3 (lbz rfl) (hts _ q_74) (fun _ h9 => h9) rfl eX9_trips_0.2.1 ?_
  refine lv_iload_n hx hb eX9_trips_0.2.2.1 rfl (lv_at hl 1 rfl) ?_
  have hm := mgk (wc := (aLv cI cC cZ cB cJ vI tJ jJ mY pG pD pE eO dN bD bJ aI)) hP aNG 14 rfl rfl rfl
  refine yW hP hD hS hA (yS aNG) (aAi aNG) hm.1 hm.2 (aAk _) (zW _) (zF (As := [.int p0]) (rest := []) C0 hP hD hS (yS aNG) hm.1 (aAl _) 4 3 rfl rfl (aZS l dC dI cI cC cZ cB cJ vI tJ jJ mY pG pD pE eO H.size p0 dN bD bJ aI _ hp) q_195 q_198 q_196 q_197 q_48 aZZ rfl rfl ⟨lbz rfl, lbz rfl⟩ rfl rfl hl.1 rfl (lv_room (lbz rfl)) eX9_trips_0.2.2.2.1 ⟨Nat.zero_le _, Nat.zero_le _⟩) (fun r_1 u H locs hp hP hD hS => ?_)
  have hPD := PDm (ws' := (aNL cI cC cZ cB cJ a_x xI xH xB vI wY xX yA xY uD uJ rW uQ uP uO xO tJ jJ mY pG pD pE eO rG oY rJ pX rO rD dN bD bJ aI uU gF qF mX oE dY jE eW eY dU fY gJ jG nU qB jK)) hP hD 14 rfl rfl rfl
  have hP := hPD.1
  have hD := hPD.2
  refine lv_if_ne (tgt := 13) hx hb eX9_trips_0.2.2.2.2 (by decide) (fun hc => ?_) (fun hc => ?_)
  · have hp := hp.1 hc
    refine lv_aload_n hx hb aW5.2.2.1 rfl (lv_at hl 0 rfl) ?_
    refine va_get (D := (dC, dI)) (ci := 9) (v := .ref xH) (C := RX9) (T := TX9) (N := 9) hx hb hts aC3 hown hK hP 0 rfl rfl 1 (lbz rfl) (hts _ aOt) (fun _ h9 => h9) rfl aW5.2.2.2.1 ?_
    have hm := mgk (wc := (aVN cI cC cZ cB cJ xH xB vI uJ rW uQ uP uO wY xO tJ jJ mY pG pD pE eO oY rJ pX rO rD dN bD bJ aI uU gF qF mX oE dY jE eW eY dU fY gJ jG nU)) hP aUu 14 rfl rfl rfl
    refine aBn hP hD hS hA (yS aUu) (aAi aUu) hm.1 hm.2 (aAk _) (zW _) (zF (As := []) (rest := []) C0 hP hD hS (yS aUu) hm.1 (aAl _) 1 5 rfl rfl (c_X5_look l dC dI cI cC cZ cB cJ xH xB vI uJ rW uQ uP uO wY xO tJ jJ mY pG pD pE eO H.size oY rJ pX rO rD dN bD bJ aI uU gF qF mX oE dY jE eW eY dU fY gJ jG nU _ hp) q_445 q_448 q_446 q_447 aRn h_X5_look rfl rfl ⟨lbz rfl, lbz rfl⟩ rfl rfl hl.1 rfl (lv_room (lbz rfl)) aW5.2.2.2.2.1 ⟨Nat.zero_le _, Nat.zero_le _⟩) (fun u H locs hp hP hD hS => ?_)
    obtain ⟨aCw, aEE⟩ := u
    have hPD := PDm (ws' := (aNL cI cC cZ cB cJ a_x xI xH xB vI wY xX yA xY uD uJ rW uQ uP uO xO tJ jJ mY pG pD pE eO rG aCw rJ pX rO aEE dN bD bJ aI uU gF qF mX oE dY jE eW eY dU fY gJ jG nU qB jK)) hP hD 14 rfl rfl rfl
    have hP := hPD.1
    have hD := hPD.2
    refine lv_aload_n hx hb aW5.2.2.2.2.2.1 rfl (lv_at hl 0 rfl) ?_
    refine va_get (D := (dC, dI)) (ci := 9) (v := .ref wY) (C := RX9) (T := TX9) (N := 9) hx hb hts aC3 hown hK hP 0 rfl rfl 4 (lbz rfl) (hts _ q_179) (fun _ h9 => h9) rfl aW5.2.2.2.2.2.2.1 ?_
    refine va_get (D := (dC, dI)) (ci := 2) (v := .int fY) (C := RX2) (T := TX2) (N := 8) hx hb hts i_X2 hown hK hP 11 rfl rfl 4 (lbz rfl) (hts _ q_497) (fun _ h9 => h9) rfl aW5.2.2.2.2.2.2.2.1 ?_
    refine lv_iload_n hx hb aW5.2.2.2.2.2.2.2.2.1 rfl (lv_at hl 1 rfl) ?_
    refine lv_icmp_ne (tgt := 44) hx hb aW5.2.2.2.2.2.2.2.2.2.1 (by decide) (fun hc => ?_) (fun hc => ?_)
    · have hp := hp.1 hc
      refine lv_iconst (v := 0) hx hb aW5.2.2.2.2.2.2.2.2.2.2.2.2.2.2.2 aCi ?_
      exact ks_X9_trips_45 C0 p0 0 aCw aEE qB jK H locs ls hp hP hD hS (lv_sub hl [0, 1] rfl)
    · have hp := hp.2 hc
      refine lv_aload_n hx hb aW5.2.2.2.2.2.2.2.2.2.2.1 rfl (lv_at hl 0 rfl) ?_
      refine va_get (D := (dC, dI)) (ci := 9) (v := .ref wY) (C := RX9) (T := TX9) (N := 9) hx hb hts aC3 hown hK hP 0 rfl rfl 4 (lbz rfl) (hts _ q_179) (fun _ h9 => h9) rfl aW5.2.2.2.2.2.2.2.2.2.2.2.1 ?_
      refine va_get (D := (dC, dI)) (ci := 2) (v := .int jE) (C := RX2) (T := TX2) (N := 8) hx hb hts i_X2 hown hK hP 11 rfl rfl 0 (lbz rfl) (hts _ q_541) (fun _ h9 => h9) rfl aW5.2.2.2.2.2.2.2.2.2.2.2.2.1 ?_
      have hm := mgk (wc := (aBh cI cC cZ cB cJ)) hP aJ7 14 rfl rfl rfl
      refine yW hP hD hS hA (yS aJ7) (aAi aJ7) hm.1 hm.2 (aAk _) (zW _) (aDn (As := [.int jE]) (rest := []) C0 hP hD hS (yS aJ7) hm.1 (aAl _) (aBv l dC dI cI cC cZ cB cJ H.size jE _ hp) q_320 q_474 q_322 q_321 aBw rfl rfl ⟨lbz rfl, lbz rfl⟩ rfl rfl hl.1 rfl (lv_room (lbz rfl)) aW5.2.2.2.2.2.2.2.2.2.2.2.2.2.1 ⟨Nat.zero_le _, Nat.zero_le _⟩) (fun r_11 u H locs hp hP hD hS => ?_)
      have hPD := PDm (ws' := (aNL cI cC cZ cB cJ a_x xI xH xB vI wY xX yA xY uD uJ rW uQ uP uO xO tJ jJ mY pG pD pE eO rG aCw rJ pX rO aEE dN bD bJ aI uU gF qF mX oE dY jE eW eY dU fY gJ jG nU qB jK)) hP hD 14 rfl rfl rfl
      have hP := hPD.1
      have hD := hPD.2
      refine lv_goto (tgt := 45) hx hb aW5.2.2.2.2.2.2.2.2.2.2.2.2.2.2.1 (by decide) ?_
      exact ks_X9_trips_45 C0 p0 r_11 aCw aEE qB jK H locs ls hp hP hD hS (lv_sub hl [0, 1] rfl)
  · have hp := hp.2 hc
    refine lv_iconst (v := (-1)) hx hb aW5.1 aEJ ?_
    exact W.iret (v := (-1)) hx hb hr (fun t ht hW => ⟨⟨(-1), (oY, rD, qB, jK), rfl, hp, by rw [ht]; exact hP, va_K.moved hW.alike hK, hD⟩, hS.F ht⟩) hS.2.2 aW5.2.1
abbrev aYP (cI cC cZ cB cJ : ClassId) (a_x xI xH xB vI wY xX yA xY uD uJ rW uQ uP uO xO tJ jJ mY pG pD pE eO rG : Nat) (oY rJ pX rO : Int32) (rD : Nat -> Int32) (dN bD bJ aI : Int32) (uU gF qF mX oE dY : Nat -> Int32) (jE eW eY dU fY gJ jG nU qB : Int32) (jK : Nat -> Int32) : va_W := [(a_x, .inr (9, [.ref xI, .ref xH, .ref xB, .ref vI, .ref wY, .ref xX, .ref yA, .ref xY, .ref uD])), (xH, .inr (5, [.ref xB, .ref vI, .ref uJ, .ref rW, .ref uQ, .ref uP, .ref uO, .int oY, .int rJ, .int pX, .int rO])), (uJ, .inl (cI, 8, .inl rD)), (xB, .inr (0, [.ref vI, .ref wY, .ref xO])), (vI, .inr (3, [.ref tJ, .ref jJ, .ref mY, .ref pG, .ref pD, .ref pE, .ref eO, .int dN, .int bD, .int bJ, .int aI])), (tJ, .inl (cI, 16, .inl uU)), (jJ, .inl (cI, 16, .inl gF)), (pG, .inl (cI, 16, .inl qF)), (pD, .inl (cI, 8, .inl mX)), (pE, .inl (cI, 8, .inl oE)), (eO, .inl (cI, 5, .inl dY)), (wY, .inr (2, [.int jE, .int eW, .int eY, .int dU, .int fY, .int gJ, .int jG, .int nU])), (yA, .inr (6, [.ref rG, .int qB])), (rG, .inl (cI, 16, .inl jK))]
abbrev q_X9_helps (dC : Nat -> ClassId) (dI : Nat -> Nat -> Nat) (cI cC cZ cB cJ : ClassId) (A : Nat -> Prop) (a_x xI xH xB vI wY xX yA xY uD uJ rW uQ uP uO xO tJ jJ mY pG pD pE eO rG : Nat) (rJ pX rO dN bD bJ aI : Int32) (uU gF qF mX oE dY : Nat -> Int32) (jE eW eY dU fY gJ jG nU : Int32) (post : Int32 -> Int32 -> (Nat -> Int32) -> Int32 -> (Nat -> Int32) -> Prop) : Array Value -> State -> Outcome -> State -> Prop := va_Qi (fun (r : Int32) (u : Int32 × (Nat -> Int32) × Int32 × (Nat -> Int32)) => post r u.1 u.2.1 u.2.2.1 u.2.2.2) (fun u t => gB (dC, dI) (tyl cI cC cZ cB cJ) A (aYP cI cC cZ cB cJ a_x xI xH xB vI wY xX yA xY uD uJ rW uQ uP uO xO tJ jJ mY pG pD pE eO rG u.1 rJ pX rO u.2.1 dN bD bJ aI uU gF qF mX oE dY jE eW eY dU fY gJ jG nU u.2.2.1 u.2.2.2) t) A
abbrev rm_X9_helps : Room := { frames := 4, cells := 0, slots := 0, locals := 95 }
def wp_X9_helps (post : Int32 -> Int32 -> (Nat -> Int32) -> Int32 -> (Nat -> Int32) -> Prop) (oY : Int32) (rD : Nat -> Int32) (dN bD : Int32) (uU gF qF mX oE dY : Nat -> Int32) (jE eW eY jG qB : Int32) (jK : Nat -> Int32) : Prop := wp_X5_lookAs (fun aBo aCo => aHs (fun r_3 => aXB (fun r_4 => wp_X5_lookAs (fun aPa pl_near_6 => aHs (fun r_7 => aXB (fun r_8 => aBb (fun r_9 => aBb (fun r_10 => aPf (fun ro_size_11 ro_numbers_12 => aBb (fun r_13 => aBb (fun r_14 => post (r_13 - r_14) aPa pl_near_6 ro_size_11 ro_numbers_12) r_8) r_4) r_9 r_10 qB jK) aPa) aBo) aPa r_7 pl_near_6 bD) bD) 1 jG aBo aCo dN bD uU gF qF mX oE dY jE eW eY) aBo r_3 aCo bD) bD) 0 jG oY rD dN bD uU gF qF mX oE dY jE eW eY
set_option maxHeartbeats 4000000 in
set_option maxRecDepth 100000 in
theorem c_X9_helps (l : Launch) (dC : Nat -> ClassId) (dI : Nat -> Nat -> Nat) (cI cC cZ cB cJ : ClassId) (a_x xI xH xB vI wY xX yA xY uD uJ rW uQ uP uO xO tJ jJ mY pG pD pE eO rG sz : Nat) (oY rJ pX rO : Int32) (rD : Nat -> Int32) (dN bD bJ aI : Int32) (uU gF qF mX oE dY : Nat -> Int32) (jE eW eY dU fY gJ jG nU qB : Int32) (jK : Nat -> Int32) (post : Int32 -> Int32 -> (Nat -> Int32) -> Int32 -> (Nat -> Int32) -> Prop) (hw : wp_X9_helps post oY rD dN bD uU gF qF mX oE dY jE eW eY jG qB jK) : Met l yX9_helps (gw yX9_helps aGR 4 (some .int)) rm_X9_helps (va_Pc [.ref a_x] (gPre (dC, dI) (tyl cI cC cZ cB cJ) (aYP cI cC cZ cB cJ a_x xI xH xB vI wY xX yA xY uD uJ rW uQ uP uO xO tJ jJ mY pG pD pE eO rG oY rJ pX rO rD dN bD bJ aI uU gF qF mX oE dY jE eW eY dU fY gJ jG nU qB jK) sz)) (q_X9_helps dC dI cI cC cZ cB cJ (va_A (aYP cI cC cZ cB cJ a_x xI xH xB vI wY xX yA xY uD uJ rW uQ uP uO xO tJ jJ mY pG pD pE eO rG oY rJ pX rO rD dN bD bJ aI uU gF qF mX oE dY jE eW eY dU fY gJ jG nU qB jK) sz) a_x xI xH xB vI wY xX yA xY uD uJ rW uQ uP uO xO tJ jJ mY pG pD pE eO rG rJ pX rO dN bD bJ aI uU gF qF mX oE dY jE eW eY dU fY gJ jG nU post) 0 0 (va_A (aYP cI cC cZ cB cJ a_x xI xH xB vI wY xX yA xY uD uJ rW uQ uP uO xO tJ jJ mY pG pD pE eO rG oY rJ pX rO rD dN bD bJ aI uU gF qF mX oE dY jE eW eY dU fY gJ jG nU qB jK) sz) := by
  refine aBJ (own := RX9) (dC, dI) (tyl cI cC cZ cB cJ) (aYP cI cC cZ cB cJ a_x xI xH xB vI wY xX yA xY uD uJ rW uQ uP uO xO tJ jJ mY pG pD pE eO rG oY rJ pX rO rD dN bD bJ aI uU gF qF mX oE dY jE eW eY dU fY gJ jG nU qB jK) sz [.ref a_x] (fun A => q_X9_helps dC dI cI cC cZ cB cJ A a_x xI xH xB vI wY xX yA xY uD uJ rW uQ uP uO xO tJ jJ mY pG pD pE eO rG rJ pX rO dN bD bJ aI uU gF qF mX oE dY jE eW eY dU fY gJ jG nU post) pn_RX9 rfl (lbz rfl) ?_
  intro p e s m args below meth c A H locs ls C0 hP hD hS hl
  have hl : lv_has ls 4 [(0, .ref a_x)] := hl
  obtain ⟨hx, hb, hr, hml, hown, hts, hlocks, hA, hK, hN, tL, tM, hZL, hTL, hZM, hTM, hZX⟩ := id C0
  have hp := hw
  unfold wp_X9_helps at hp
  refine lv_aload_n hx hb bAj.1 rfl (lv_at hl 0 rfl) ?_
  refine va_get (D := (dC, dI)) (ci := 9) (v := .ref xH) (C := RX9) (T := TX9) (N := 9) hx hb hts aC3 hown hK hP 0 rfl rfl 1 (lbz rfl) (hts _ aOt) (fun _ h9 => h9) rfl bAj.2.1 ?_
  refine lv_iconst (v := 0) hx hb bAj.2.2.1 aCi ?_
  refine lv_aload_n hx hb bAj.2.2.2.1 rfl (lv_at hl 0 rfl) ?_
  refine va_get (D := (dC, dI)) (ci := 9) (v := .ref wY) (C := RX9) (T := TX9) (N := 9) hx hb hts aC3 hown hK hP 0 rfl rfl 4 (lbz rfl) (hts _ q_179) (fun _ h9 => h9) rfl bAj.2.2.2.2.1 ?_
  refine va_get (D := (dC, dI)) (ci := 2) (v := .int jG) (C := RX2) (T := TX2) (N := 8) hx hb hts i_X2 hown hK hP 11 rfl rfl 6 (lbz rfl) (hts _ q_542) (fun _ h9 => h9) rfl bAj.2.2.2.2.2.1 ?_
  have hm := mgk (wc := (aKU cI cC cZ cB cJ xH xB vI uJ rW uQ uP uO wY xO tJ jJ mY pG pD pE eO oY rJ pX rO rD dN bD bJ aI uU gF qF mX oE dY jE eW eY dU fY gJ jG nU)) hP aUu 14 rfl rfl rfl
  refine aBn hP hD hS hA (yS aUu) (aAi aUu) hm.1 hm.2 (aAk _) (zW _) (zF (As := [.int 0, .int jG]) (rest := []) C0 hP hD hS (yS aUu) hm.1 (aAl _) 1 5 rfl rfl (c_X5_lookAs l dC dI cI cC cZ cB cJ xH xB vI uJ rW uQ uP uO wY xO tJ jJ mY pG pD pE eO H.size 0 jG oY rJ pX rO rD dN bD bJ aI uU gF qF mX oE dY jE eW eY dU fY gJ jG nU _ hp) q_440 q_543 q_441 q_442 aRn h_X5_lookAs rfl rfl ⟨lbz rfl, lbz rfl⟩ rfl rfl hl.1 rfl (lv_room (lbz rfl)) bAj.2.2.2.2.2.2.1 ⟨Nat.zero_le _, Nat.zero_le _⟩) (fun u H locs hp hP hD hS => ?_)
  obtain ⟨aBo, aCo⟩ := u
  have hPD := PDm (ws' := (aYP cI cC cZ cB cJ a_x xI xH xB vI wY xX yA xY uD uJ rW uQ uP uO xO tJ jJ mY pG pD pE eO rG aBo rJ pX rO aCo dN bD bJ aI uU gF qF mX oE dY jE eW eY dU fY gJ jG nU qB jK)) hP hD 14 rfl rfl rfl
  have hP := hPD.1
  have hD := hPD.2
  refine lv_aload_n hx hb bAj.2.2.2.2.2.2.2.1 rfl (lv_at hl 0 rfl) ?_
  refine va_get (D := (dC, dI)) (ci := 9) (v := .ref xH) (C := RX9) (T := TX9) (N := 9) hx hb hts aC3 hown hK hP 0 rfl rfl 1 (lbz rfl) (hts _ aOt) (fun _ h9 => h9) rfl bAj.2.2.2.2.2.2.2.2.1 ?_
  refine va_get (D := (dC, dI)) (ci := 5) (v := .int aBo) (C := RX5) (T := TX5) (N := 11) hx hb hts i_X5 hown hK hP 1 rfl rfl 7 (lbz rfl) (hts _ q_462) (fun _ h9 => h9) rfl bAj.2.2.2.2.2.2.2.2.2.1 ?_
  refine lv_istore_n (lv' := [(1, .int aBo), (0, .ref a_x)]) hx hb bAj.2.2.2.2.2.2.2.2.2.2.1 rfl hl (by decide) rfl (fun ls hl => ?_)
  refine lv_aload_n hx hb bAj.2.2.2.2.2.2.2.2.2.2.2.1 rfl (lv_at hl 1 rfl) ?_
  refine va_get (D := (dC, dI)) (ci := 9) (v := .ref xH) (C := RX9) (T := TX9) (N := 9) hx hb hts aC3 hown hK hP 0 rfl rfl 1 (lbz rfl) (hts _ aOt) (fun _ h9 => h9) rfl bAj.2.2.2.2.2.2.2.2.2.2.2.2.1 ?_
  refine lv_iload_n hx hb bAj.2.2.2.2.2.2.2.2.2.2.2.2.2.1 rfl (lv_at hl 0 rfl) ?_
  refine lv_aload_n hx hb bAj.2.2.2.2.2.2.2.2.2.2.2.2.2.2.1 rfl (lv_at hl 1 rfl) ?_
  refine va_get (D := (dC, dI)) (ci := 9) (v := .ref vI) (C := RX9) (T := TX9) (N := 9) hx hb hts aC3 hown hK hP 0 rfl rfl 3 (lbz rfl) (hts _ q_74) (fun _ h9 => h9) rfl bAj.2.2.2.2.2.2.2.2.2.2.2.2.2.2.2 ?_
  have hm := mgk (wc := (aHS cI cC cZ cB cJ vI tJ jJ mY pG pD pE eO dN bD bJ aI)) hP aNG 14 rfl rfl rfl
  refine yW hP hD hS hA (yS aNG) (aAi aNG) hm.1 hm.2 (aAk _) (zW _) (zF (As := []) (rest := [.int aBo, .ref xH]) C0 hP hD hS (yS aNG) hm.1 (aAl _) 4 3 rfl rfl (aLl l dC dI cI cC cZ cB cJ vI tJ jJ mY pG pD pE eO H.size dN bD bJ aI _ hp) q_426 q_463 q_427 q_428 q_48 aLo rfl rfl ⟨lbz rfl, lbz rfl⟩ rfl rfl hl.1 rfl (lv_room (lbz rfl)) aWp.1 ⟨Nat.zero_le _, Nat.zero_le _⟩) (fun r_3 u H locs hp hP hD hS => ?_)
  have hPD := PDm (ws' := (aYP cI cC cZ cB cJ a_x xI xH xB vI wY xX yA xY uD uJ rW uQ uP uO xO tJ jJ mY pG pD pE eO rG aBo rJ pX rO aCo dN bD bJ aI uU gF qF mX oE dY jE eW eY dU fY gJ jG nU qB jK)) hP hD 14 rfl rfl rfl
  have hP := hPD.1
  have hD := hPD.2
  have hm := mgk (wc := (aFh cI cC cZ cB cJ xH xB vI uJ rW uQ uP uO tJ jJ mY pG pD pE eO aBo rJ pX rO aCo dN bD bJ aI)) hP mk_123 14 rfl rfl rfl
  refine yW hP hD hS hA (yS mk_123) (aAi mk_123) hm.1 hm.2 (aAk _) (zW _) (zF (As := [.int aBo, .int r_3]) (rest := []) C0 hP hD hS (yS mk_123) hm.1 (aAl _) 1 5 rfl rfl (c_X5_smallestCover l dC dI cI cC cZ cB cJ xH xB vI uJ rW uQ uP uO tJ jJ mY pG pD pE eO H.size aBo r_3 aBo rJ pX rO aCo dN bD bJ aI _ hp) q_464 q_467 q_465 q_466 aRn h_X5_smallestCover rfl rfl ⟨lbz rfl, lbz rfl⟩ rfl rfl hl.1 rfl (lv_room (lbz rfl)) aWp.2.1 ⟨Nat.zero_le _, Nat.zero_le _⟩) (fun r_4 u H locs hp hP hD hS => ?_)
  have hPD := PDm (ws' := (aYP cI cC cZ cB cJ a_x xI xH xB vI wY xX yA xY uD uJ rW uQ uP uO xO tJ jJ mY pG pD pE eO rG aBo rJ pX rO aCo dN bD bJ aI uU gF qF mX oE dY jE eW eY dU fY gJ jG nU qB jK)) hP hD 14 rfl rfl rfl
  have hP := hPD.1
  have hD := hPD.2
  refine lv_istore_n (lv' := [(2, .int r_4), (1, .int aBo), (0, .ref a_x)]) hx hb aWp.2.2.1 rfl hl (by decide) rfl (fun ls hl => ?_)
  refine lv_aload_n hx hb aWp.2.2.2.1 rfl (lv_at hl 2 rfl) ?_
  refine va_get (D := (dC, dI)) (ci := 9) (v := .ref xH) (C := RX9) (T := TX9) (N := 9) hx hb hts aC3 hown hK hP 0 rfl rfl 1 (lbz rfl) (hts _ aOt) (fun _ h9 => h9) rfl aWp.2.2.2.2.1 ?_
  refine lv_iconst (v := 1) hx hb aWp.2.2.2.2.2.1 aDx ?_
  refine lv_aload_n hx hb aWp.2.2.2.2.2.2.1 rfl (lv_at hl 2 rfl) ?_
  refine va_get (D := (dC, dI)) (ci := 9) (v := .ref wY) (C := RX9) (T := TX9) (N := 9) hx hb hts aC3 hown hK hP 0 rfl rfl 4 (lbz rfl) (hts _ q_179) (fun _ h9 => h9) rfl aWp.2.2.2.2.2.2.2.1 ?_
  refine va_get (D := (dC, dI)) (ci := 2) (v := .int jG) (C := RX2) (T := TX2) (N := 8) hx hb hts i_X2 hown hK hP 11 rfl rfl 6 (lbz rfl) (hts _ q_542) (fun _ h9 => h9) rfl aWp.2.2.2.2.2.2.2.2.1 ?_
  have hm := mgk (wc := (aKU cI cC cZ cB cJ xH xB vI uJ rW uQ uP uO wY xO tJ jJ mY pG pD pE eO aBo rJ pX rO aCo dN bD bJ aI uU gF qF mX oE dY jE eW eY dU fY gJ jG nU)) hP aUu 14 rfl rfl rfl
  refine aBn hP hD hS hA (yS aUu) (aAi aUu) hm.1 hm.2 (aAk _) (zW _) (zF (As := [.int 1, .int jG]) (rest := []) C0 hP hD hS (yS aUu) hm.1 (aAl _) 1 5 rfl rfl (c_X5_lookAs l dC dI cI cC cZ cB cJ xH xB vI uJ rW uQ uP uO wY xO tJ jJ mY pG pD pE eO H.size 1 jG aBo rJ pX rO aCo dN bD bJ aI uU gF qF mX oE dY jE eW eY dU fY gJ jG nU _ hp) q_440 q_543 q_441 q_442 aRn h_X5_lookAs rfl rfl ⟨lbz rfl, lbz rfl⟩ rfl rfl hl.1 rfl (lv_room (lbz rfl)) aWp.2.2.2.2.2.2.2.2.2.1 ⟨Nat.zero_le _, Nat.zero_le _⟩) (fun u H locs hp hP hD hS => ?_)
  obtain ⟨aPa, pl_near_6⟩ := u
  have hPD := PDm (ws' := (aYP cI cC cZ cB cJ a_x xI xH xB vI wY xX yA xY uD uJ rW uQ uP uO xO tJ jJ mY pG pD pE eO rG aPa rJ pX rO pl_near_6 dN bD bJ aI uU gF qF mX oE dY jE eW eY dU fY gJ jG nU qB jK)) hP hD 14 rfl rfl rfl
  have hP := hPD.1
  have hD := hPD.2
  refine lv_aload_n hx hb aWp.2.2.2.2.2.2.2.2.2.2.1 rfl (lv_at hl 2 rfl) ?_
  refine va_get (D := (dC, dI)) (ci := 9) (v := .ref xH) (C := RX9) (T := TX9) (N := 9) hx hb hts aC3 hown hK hP 0 rfl rfl 1 (lbz rfl) (hts _ aOt) (fun _ h9 => h9) rfl aWp.2.2.2.2.2.2.2.2.2.2.2.1 ?_
  refine lv_aload_n hx hb aWp.2.2.2.2.2.2.2.2.2.2.2.2.1 rfl (lv_at hl 2 rfl) ?_
  refine va_get (D := (dC, dI)) (ci := 9) (v := .ref xH) (C := RX9) (T := TX9) (N := 9) hx hb hts aC3 hown hK hP 0 rfl rfl 1 (lbz rfl) (hts _ aOt) (fun _ h9 => h9) rfl aWp.2.2.2.2.2.2.2.2.2.2.2.2.2.1 ?_
  refine va_get (D := (dC, dI)) (ci := 5) (v := .int aPa) (C := RX5) (T := TX5) (N := 11) hx hb hts i_X5 hown hK hP 1 rfl rfl 7 (lbz rfl) (hts _ q_462) (fun _ h9 => h9) rfl aWp.2.2.2.2.2.2.2.2.2.2.2.2.2.2.1 ?_
  refine lv_aload_n hx hb aWp.2.2.2.2.2.2.2.2.2.2.2.2.2.2.2 rfl (lv_at hl 2 rfl) ?_
  refine va_get (D := (dC, dI)) (ci := 9) (v := .ref vI) (C := RX9) (T := TX9) (N := 9) hx hb hts aC3 hown hK hP 0 rfl rfl 3 (lbz rfl) (hts _ q_74) (fun _ h9 => h9) rfl aWq.1 ?_
  have hm := mgk (wc := (aHS cI cC cZ cB cJ vI tJ jJ mY pG pD pE eO dN bD bJ aI)) hP aNG 14 rfl rfl rfl
  refine yW hP hD hS hA (yS aNG) (aAi aNG) hm.1 hm.2 (aAk _) (zW _) (zF (As := []) (rest := [.int aPa, .ref xH]) C0 hP hD hS (yS aNG) hm.1 (aAl _) 4 3 rfl rfl (aLl l dC dI cI cC cZ cB cJ vI tJ jJ mY pG pD pE eO H.size dN bD bJ aI _ hp) q_426 q_463 q_427 q_428 q_48 aLo rfl rfl ⟨lbz rfl, lbz rfl⟩ rfl rfl hl.1 rfl (lv_room (lbz rfl)) aWq.2.1 ⟨Nat.zero_le _, Nat.zero_le _⟩) (fun r_7 u H locs hp hP hD hS => ?_)
  have hPD := PDm (ws' := (aYP cI cC cZ cB cJ a_x xI xH xB vI wY xX yA xY uD uJ rW uQ uP uO xO tJ jJ mY pG pD pE eO rG aPa rJ pX rO pl_near_6 dN bD bJ aI uU gF qF mX oE dY jE eW eY dU fY gJ jG nU qB jK)) hP hD 14 rfl rfl rfl
  have hP := hPD.1
  have hD := hPD.2
  have hm := mgk (wc := (aFh cI cC cZ cB cJ xH xB vI uJ rW uQ uP uO tJ jJ mY pG pD pE eO aPa rJ pX rO pl_near_6 dN bD bJ aI)) hP mk_123 14 rfl rfl rfl
  refine yW hP hD hS hA (yS mk_123) (aAi mk_123) hm.1 hm.2 (aAk _) (zW _) (zF (As := [.int aPa, .int r_7]) (rest := []) C0 hP hD hS (yS mk_123) hm.1 (aAl _) 1 5 rfl rfl (c_X5_smallestCover l dC dI cI cC cZ cB cJ xH xB vI uJ rW uQ uP uO tJ jJ mY pG pD pE eO H.size aPa r_7 aPa rJ pX rO pl_near_6 dN bD bJ aI _ hp) q_464 q_467 q_465 q_466 aRn h_X5_smallestCover rfl rfl ⟨lbz rfl, lbz rfl⟩ rfl rfl hl.1 rfl (lv_room (lbz rfl)) aWq.2.2.1 ⟨Nat.zero_le _, Nat.zero_le _⟩) (fun r_8 u H locs hp hP hD hS => ?_)
  have hPD := PDm (ws' := (aYP cI cC cZ cB cJ a_x xI xH xB vI wY xX yA xY uD uJ rW uQ uP uO xO tJ jJ mY pG pD pE eO rG aPa rJ pX rO pl_near_6 dN bD bJ aI uU gF qF mX oE dY jE eW eY dU fY gJ jG nU qB jK)) hP hD 14 rfl rfl rfl
  have hP := hPD.1
  have hD := hPD.2
  refine lv_istore_n (lv' := [(3, .int r_8), (2, .int r_4), (1, .int aBo), (0, .ref a_x)]) hx hb aWq.2.2.2.1 rfl hl (by decide) rfl (fun ls hl => ?_)
  refine lv_aload_n hx hb aWq.2.2.2.2.1 rfl (lv_at hl 3 rfl) ?_
  refine lv_iload_n hx hb aWq.2.2.2.2.2.1 rfl (lv_at hl 2 rfl) ?_
  have hm := mgk (wc := (aBh cI cC cZ cB cJ)) hP aJ7 14 rfl rfl rfl
  refine yW hP hD hS hA (yS aJ7) (aAi aJ7) hm.1 hm.2 (aAk _) (zW _) (aDn (As := [.int aBo]) (rest := [.ref a_x]) C0 hP hD hS (yS aJ7) hm.1 (aAl _) (aBv l dC dI cI cC cZ cB cJ H.size aBo _ hp) q_320 q_474 q_322 q_321 aBw rfl rfl ⟨lbz rfl, lbz rfl⟩ rfl rfl hl.1 rfl (lv_room (lbz rfl)) aWq.2.2.2.2.2.2.1 ⟨Nat.zero_le _, Nat.zero_le _⟩) (fun r_9 u H locs hp hP hD hS => ?_)
  have hPD := PDm (ws' := (aYP cI cC cZ cB cJ a_x xI xH xB vI wY xX yA xY uD uJ rW uQ uP uO xO tJ jJ mY pG pD pE eO rG aPa rJ pX rO pl_near_6 dN bD bJ aI uU gF qF mX oE dY jE eW eY dU fY gJ jG nU qB jK)) hP hD 14 rfl rfl rfl
  have hP := hPD.1
  have hD := hPD.2
  refine lv_aload_n hx hb aWq.2.2.2.2.2.2.2.1 rfl (lv_at hl 3 rfl) ?_
  refine va_get (D := (dC, dI)) (ci := 9) (v := .ref xH) (C := RX9) (T := TX9) (N := 9) hx hb hts aC3 hown hK hP 0 rfl rfl 1 (lbz rfl) (hts _ aOt) (fun _ h9 => h9) rfl aWq.2.2.2.2.2.2.2.2.1 ?_
  refine va_get (D := (dC, dI)) (ci := 5) (v := .int aPa) (C := RX5) (T := TX5) (N := 11) hx hb hts i_X5 hown hK hP 1 rfl rfl 7 (lbz rfl) (hts _ q_462) (fun _ h9 => h9) rfl aWq.2.2.2.2.2.2.2.2.2.1 ?_
  have hm := mgk (wc := (aBh cI cC cZ cB cJ)) hP aJ7 14 rfl rfl rfl
  refine yW hP hD hS hA (yS aJ7) (aAi aJ7) hm.1 hm.2 (aAk _) (zW _) (aDn (As := [.int aPa]) (rest := [.int r_9, .ref a_x]) C0 hP hD hS (yS aJ7) hm.1 (aAl _) (aBv l dC dI cI cC cZ cB cJ H.size aPa _ hp) q_320 q_474 q_322 q_321 aBw rfl rfl ⟨lbz rfl, lbz rfl⟩ rfl rfl hl.1 rfl (lv_room (lbz rfl)) aWq.2.2.2.2.2.2.2.2.2.2.1 ⟨Nat.zero_le _, Nat.zero_le _⟩) (fun r_10 u H locs hp hP hD hS => ?_)
  have hPD := PDm (ws' := (aYP cI cC cZ cB cJ a_x xI xH xB vI wY xX yA xY uD uJ rW uQ uP uO xO tJ jJ mY pG pD pE eO rG aPa rJ pX rO pl_near_6 dN bD bJ aI uU gF qF mX oE dY jE eW eY dU fY gJ jG nU qB jK)) hP hD 14 rfl rfl rfl
  have hP := hPD.1
  have hD := hPD.2
  have hm := mgk (wc := (aRW cI cC cZ cB cJ a_x xI xH xB vI wY xX yA xY uD rG qB jK)) hP mk_121 14 rfl rfl rfl
  refine aBn hP hD hS hA (yS mk_121) (aAi mk_121) hm.1 hm.2 (aAk _) (zW _) (zF (As := [.int r_9, .int r_10]) (rest := []) C0 hP hD hS (yS mk_121) hm.1 (aAl _) 0 9 rfl rfl (c_X9_tell_ l dC dI cI cC cZ cB cJ a_x xI xH xB vI wY xX yA xY uD rG H.size r_9 r_10 qB jK _ hp) q_377 q_380 q_378 q_379 aIl h_X9_tell_ rfl rfl ⟨lbz rfl, lbz rfl⟩ rfl rfl hl.1 rfl (lv_room (lbz rfl)) aWq.2.2.2.2.2.2.2.2.2.2.2.1 ⟨Nat.zero_le _, Nat.zero_le _⟩) (fun u H locs hp hP hD hS => ?_)
  obtain ⟨ro_size_11, ro_numbers_12⟩ := u
  have hPD := PDm (ws' := (aYP cI cC cZ cB cJ a_x xI xH xB vI wY xX yA xY uD uJ rW uQ uP uO xO tJ jJ mY pG pD pE eO rG aPa rJ pX rO pl_near_6 dN bD bJ aI uU gF qF mX oE dY jE eW eY dU fY gJ jG nU ro_size_11 ro_numbers_12)) hP hD 14 rfl rfl rfl
  have hP := hPD.1
  have hD := hPD.2
  refine lv_iload_n hx hb aWq.2.2.2.2.2.2.2.2.2.2.2.2.1 rfl (lv_at hl 1 rfl) ?_
  have hm := mgk (wc := (aBh cI cC cZ cB cJ)) hP aJ7 14 rfl rfl rfl
  refine yW hP hD hS hA (yS aJ7) (aAi aJ7) hm.1 hm.2 (aAk _) (zW _) (aDn (As := [.int r_4]) (rest := []) C0 hP hD hS (yS aJ7) hm.1 (aAl _) (aBv l dC dI cI cC cZ cB cJ H.size r_4 _ hp) q_320 q_474 q_322 q_321 aBw rfl rfl ⟨lbz rfl, lbz rfl⟩ rfl rfl hl.1 rfl (lv_room (lbz rfl)) aWq.2.2.2.2.2.2.2.2.2.2.2.2.2.1 ⟨Nat.zero_le _, Nat.zero_le _⟩) (fun r_13 u H locs hp hP hD hS => ?_)
  have hPD := PDm (ws' := (aYP cI cC cZ cB cJ a_x xI xH xB vI wY xX yA xY uD uJ rW uQ uP uO xO tJ jJ mY pG pD pE eO rG aPa rJ pX rO pl_near_6 dN bD bJ aI uU gF qF mX oE dY jE eW eY dU fY gJ jG nU ro_size_11 ro_numbers_12)) hP hD 14 rfl rfl rfl
  have hP := hPD.1
  have hD := hPD.2
  refine lv_iload_n hx hb aWq.2.2.2.2.2.2.2.2.2.2.2.2.2.2.1 rfl (lv_at hl 0 rfl) ?_
  have hm := mgk (wc := (aBh cI cC cZ cB cJ)) hP aJ7 14 rfl rfl rfl
  refine yW hP hD hS hA (yS aJ7) (aAi aJ7) hm.1 hm.2 (aAk _) (zW _) (aDn (As := [.int r_8]) (rest := [.int r_13]) C0 hP hD hS (yS aJ7) hm.1 (aAl _) (aBv l dC dI cI cC cZ cB cJ H.size r_8 _ hp) q_320 q_474 q_322 q_321 aBw rfl rfl ⟨lbz rfl, lbz rfl⟩ rfl rfl hl.1 rfl (lv_room (lbz rfl)) aWq.2.2.2.2.2.2.2.2.2.2.2.2.2.2.2 ⟨Nat.zero_le _, Nat.zero_le _⟩) (fun r_14 u H locs hp hP hD hS => ?_)
  have hPD := PDm (ws' := (aYP cI cC cZ cB cJ a_x xI xH xB vI wY xX yA xY uD uJ rW uQ uP uO xO tJ jJ mY pG pD pE eO rG aPa rJ pX rO pl_near_6 dN bD bJ aI uU gF qF mX oE dY jE eW eY dU fY gJ jG nU ro_size_11 ro_numbers_12)) hP hD 14 rfl rfl rfl
  have hP := hPD.1
  have hD := hPD.2
  refine lv_isub hx hb eX9_helps_102.1 ?_
  exact W.iret (v := r_13 - r_14) hx hb hr (fun t ht hW => ⟨⟨r_13 - r_14, (aPa, pl_near_6, ro_size_11, ro_numbers_12), rfl, hp, by rw [ht]; exact hP, va_K.moved hW.alike hK, hD⟩, hS.F ht⟩) hS.2.2 eX9_helps_102.2
abbrev aLQ (cI cC cZ cB cJ : ClassId) (a_x xI xH xB vI wY xX yA xY uD uJ rW uQ uP uO xO tJ jJ mY pG pD pE eO rG : Nat) (oY rJ pX rO : Int32) (rD : Nat -> Int32) (dN bD bJ aI : Int32) (uU gF qF mX oE dY : Nat -> Int32) (jE eW eY dU fY gJ jG nU qB : Int32) (jK : Nat -> Int32) : va_W := [(a_x, .inr (9, [.ref xI, .ref xH, .ref xB, .ref vI, .ref wY, .ref xX, .ref yA, .ref xY, .ref uD])), (xH, .inr (5, [.ref xB, .ref vI, .ref uJ, .ref rW, .ref uQ, .ref uP, .ref uO, .int oY, .int rJ, .int pX, .int rO])), (uJ, .inl (cI, 8, .inl rD)), (xB, .inr (0, [.ref vI, .ref wY, .ref xO])), (vI, .inr (3, [.ref tJ, .ref jJ, .ref mY, .ref pG, .ref pD, .ref pE, .ref eO, .int dN, .int bD, .int bJ, .int aI])), (tJ, .inl (cI, 16, .inl uU)), (jJ, .inl (cI, 16, .inl gF)), (pG, .inl (cI, 16, .inl qF)), (pD, .inl (cI, 8, .inl mX)), (pE, .inl (cI, 8, .inl oE)), (eO, .inl (cI, 5, .inl dY)), (wY, .inr (2, [.int jE, .int eW, .int eY, .int dU, .int fY, .int gJ, .int jG, .int nU])), (yA, .inr (6, [.ref rG, .int qB])), (rG, .inl (cI, 16, .inl jK))]
abbrev q_X9_hooked (dC : Nat -> ClassId) (dI : Nat -> Nat -> Nat) (cI cC cZ cB cJ : ClassId) (A : Nat -> Prop) (a_x xI xH xB vI wY xX yA xY uD uJ rW uQ uP uO xO tJ jJ mY pG pD pE eO rG : Nat) (rJ pX rO dN bD bJ aI : Int32) (uU gF qF mX oE dY : Nat -> Int32) (jE eW eY dU fY gJ jG nU : Int32) (post : Int32 -> Int32 -> (Nat -> Int32) -> Int32 -> (Nat -> Int32) -> Prop) : Array Value -> State -> Outcome -> State -> Prop := va_Qi (fun (r : Int32) (u : Int32 × (Nat -> Int32) × Int32 × (Nat -> Int32)) => post r u.1 u.2.1 u.2.2.1 u.2.2.2) (fun u t => gB (dC, dI) (tyl cI cC cZ cB cJ) A (aLQ cI cC cZ cB cJ a_x xI xH xB vI wY xX yA xY uD uJ rW uQ uP uO xO tJ jJ mY pG pD pE eO rG u.1 rJ pX rO u.2.1 dN bD bJ aI uU gF qF mX oE dY jE eW eY dU fY gJ jG nU u.2.2.1 u.2.2.2) t) A
abbrev rm_X9_hooked : Room := { frames := 5, cells := 0, slots := 0, locals := 115 }
section S_X9_hooked
variable {p : Program} {l : Launch} {e : Env} {s : State} {m : MethodId} {args : Array Value} {below : List Frame} {meth : Method} {c : Code} {dC : Nat -> ClassId} {dI : Nat -> Nat -> Nat} {cI cC cZ cB cJ : ClassId} {A : Nat -> Prop} {a_x xI xH xB vI wY xX yA xY uD uJ rW uQ uP uO xO tJ jJ mY pG pD pE eO rG : Nat} {rJ pX rO dN bD bJ aI : Int32} {uU gF qF mX oE dY : Nat -> Int32} {jE eW eY dU fY gJ jG nU : Int32} {post : Int32 -> Int32 -> (Nat -> Int32) -> Int32 -> (Nat -> Int32) -> Prop}
def ws_X9_hooked_115 (post : Int32 -> Int32 -> (Nat -> Int32) -> Int32 -> (Nat -> Int32) -> Prop) (K50 : Int32 -> Int32 -> Int32 -> Int32 -> Int32 -> Int32 -> (Nat -> Int32) -> Int32 -> (Nat -> Int32) -> Prop) (dN bD : Int32) (uU gF qF mX oE dY : Nat -> Int32) (jE eW eY gJ jG x1 x2 x3 x4 x5 oY : Int32) (rD : Nat -> Int32) (qB : Int32) (jK : Nat -> Int32) : Prop := ∀ aGC : Int32, aGC = x5 + 1 -> K50 x1 x2 x3 x4 aGC oY rD qB jK
set_option maxHeartbeats 4000000 in
set_option maxRecDepth 100000 in
theorem ks_X9_hooked_115 (C0 : gc aDI (some .int) 7 RX9 (dC, dI) (tyl cI cC cZ cB cJ) A p s m args meth c) {K50 : Int32 -> Int32 -> Int32 -> Int32 -> Int32 -> Int32 -> (Nat -> Int32) -> Int32 -> (Nat -> Int32) -> Prop} (hK50 : ∀ (x1 : Int32) (x2 : Int32) (x3 : Int32) (x4 : Int32) (x5 : Int32) (oY : Int32) (rD : Nat -> Int32) (qB : Int32) (jK : Nat -> Int32) (H : Heap) (locs : List Loc) (ls : Array Slot), K50 x1 x2 x3 x4 x5 oY rD qB jK -> va_P (dC, dI) classes (aLQ cI cC cZ cB cJ a_x xI xH xB vI wY xX yA xY uD uJ rW uQ uP uO xO tJ jJ mY pG pD pE eO rG oY rJ pX rO rD dN bD bJ aI uU gF qF mX oE dY jE eW eY dU fY gJ jG nU qB jK) H -> va_D A (aLQ cI cC cZ cB cJ a_x xI xH xB vI wY xX yA xY uD uJ rW uQ uP uO xO tJ jJ mY pG pD pE eO rG oY rJ pX rO rD dN bD bJ aI uU gF qF mX oE dY jE eW eY dU fY gJ jG nU qB jK) -> va_S A s.heap H locs -> lv_has ls 7 [(0, .ref a_x), (1, .int x1), (2, .int x2), (3, .int x3), (4, .int x4), (5, .int x5)] -> W p l e rm_X9_hooked s m args below meth c H locs 0 0 (MQ below (q_X9_hooked dC dI cI cC cZ cB cJ A a_x xI xH xB vI wY xX yA xY uD uJ rW uQ uP uO xO tJ jJ mY pG pD pE eO rG rJ pX rO dN bD bJ aI uU gF qF mX oE dY jE eW eY dU fY gJ jG nU post) args s 0 0 A) (F0 m 50 ls [])) : ∀ (x1 x2 x3 x4 x5 oY : Int32) (rD : Nat -> Int32) (qB : Int32) (jK : Nat -> Int32) (H : Heap) (locs : List Loc) (ls : Array Slot), (ws_X9_hooked_115 post K50 dN bD uU gF qF mX oE dY jE eW eY gJ jG) x1 x2 x3 x4 x5 oY rD qB jK -> va_P (dC, dI) classes (aLQ cI cC cZ cB cJ a_x xI xH xB vI wY xX yA xY uD uJ rW uQ uP uO xO tJ jJ mY pG pD pE eO rG oY rJ pX rO rD dN bD bJ aI uU gF qF mX oE dY jE eW eY dU fY gJ jG nU qB jK) H -> va_D A (aLQ cI cC cZ cB cJ a_x xI xH xB vI wY xX yA xY uD uJ rW uQ uP uO xO tJ jJ mY pG pD pE eO rG oY rJ pX rO rD dN bD bJ aI uU gF qF mX oE dY jE eW eY dU fY gJ jG nU qB jK) -> va_S A s.heap H locs -> lv_has ls 7 [(0, .ref a_x), (1, .int x1), (2, .int x2), (3, .int x3), (4, .int x4), (5, .int x5)] -> W p l e rm_X9_hooked s m args below meth c H locs 0 0 (MQ below (q_X9_hooked dC dI cI cC cZ cB cJ A a_x xI xH xB vI wY xX yA xY uD uJ rW uQ uP uO xO tJ jJ mY pG pD pE eO rG rJ pX rO dN bD bJ aI uU gF qF mX oE dY jE eW eY dU fY gJ jG nU post) args s 0 0 A) (F0 m 115 ls []) := by
  obtain ⟨hx, hb, hr, hml, hown, hts, hlocks, hA, hK, hN, tL, tM, hZL, hTL, hZM, hTM, hZX⟩ := id C0
  intro x1 x2 x3 x4 x5 oY rD qB jK H locs ls hp hP hD hS hl
  unfold ws_X9_hooked_115 at hp
  obtain ⟨aGC, ev_14⟩ : ∃ y : Int32, y = x5 + 1 := ⟨_, rfl⟩
  refine lv_iinc (v := aGC) (lv' := [(5, .int aGC), (0, .ref a_x), (1, .int x1), (2, .int x2), (3, .int x3), (4, .int x4)]) hx hb aTw.2.2.2.2.2.2.2.2.2.2.2.2.1 hl (k := 5) rfl (by rw [ev_14]; rfl) (by decide) rfl (fun ls hl => ?_)
  have hp := hp aGC ev_14
  refine lv_goto (tgt := 50) hx hb aTw.2.2.2.2.2.2.2.2.2.2.2.2.2.1 (by decide) ?_
  exact hK50 x1 x2 x3 x4 aGC oY rD qB jK H locs ls hp hP hD hS (lv_sub hl [1, 2, 3, 4, 5, 0] rfl)
def ws_X9_hooked_50 (post : Int32 -> Int32 -> (Nat -> Int32) -> Int32 -> (Nat -> Int32) -> Prop) (next : Int32 -> Int32 -> Int32 -> Int32 -> Int32 -> Int32 -> (Nat -> Int32) -> Int32 -> (Nat -> Int32) -> Prop) (dN bD : Int32) (uU gF qF mX oE dY : Nat -> Int32) (jE eW eY gJ jG x1 x2 x3 x4 x5 oY : Int32) (rD : Nat -> Int32) (qB : Int32) (jK : Nat -> Int32) : Prop := (bD <= x5 -> aPf (fun ro_size_7 aO7 => post x2 oY rD ro_size_7 aO7) x3 x4 qB jK) /\ (¬ bD <= x5 -> bAw (fun r_9 => bBS (fun r_10 => ∀ aGH : Int32, aGH = x1 &&& r_10 -> ∀ aEp : Int32, aEp = x2 ||| aGH -> aBb (fun r_13 => (r_13 <= x4 -> ws_X9_hooked_115 post next dN bD uU gF qF mX oE dY jE eW eY gJ jG x1 aEp x3 x4 x5 oY rD qB jK) /\ (¬ r_13 <= x4 -> aBb (fun r_15 => ws_X9_hooked_115 post next dN bD uU gF qF mX oE dY jE eW eY gJ jG x1 aEp x5 r_15 x5 oY rD qB jK) aGH)) aGH) x5 r_9 dN uU gF mX oE) gJ 1 dY)
noncomputable def wb_X9_hooked_50 (post : Int32 -> Int32 -> (Nat -> Int32) -> Int32 -> (Nat -> Int32) -> Prop) (dN bD : Int32) (uU gF qF mX oE dY : Nat -> Int32) (jE eW eY gJ jG : Int32) : Nat -> Int32 -> Int32 -> Int32 -> Int32 -> Int32 -> Int32 -> (Nat -> Int32) -> Int32 -> (Nat -> Int32) -> Prop := fun n => Nat.rec (motive := fun _ => Int32 -> Int32 -> Int32 -> Int32 -> Int32 -> Int32 -> (Nat -> Int32) -> Int32 -> (Nat -> Int32) -> Prop) (fun _ _ _ _ _ _ _ _ _ => False) (fun _ ih => ws_X9_hooked_50 post ih dN bD uU gF qF mX oE dY jE eW eY gJ jG) n
set_option maxHeartbeats 4000000 in
set_option maxRecDepth 100000 in
theorem ks_X9_hooked_50 (C0 : gc aDI (some .int) 7 RX9 (dC, dI) (tyl cI cC cZ cB cJ) A p s m args meth c) {next : Int32 -> Int32 -> Int32 -> Int32 -> Int32 -> Int32 -> (Nat -> Int32) -> Int32 -> (Nat -> Int32) -> Prop} (hKn : ∀ (x1 : Int32) (x2 : Int32) (x3 : Int32) (x4 : Int32) (x5 : Int32) (oY : Int32) (rD : Nat -> Int32) (qB : Int32) (jK : Nat -> Int32) (H : Heap) (locs : List Loc) (ls : Array Slot), next x1 x2 x3 x4 x5 oY rD qB jK -> va_P (dC, dI) classes (aLQ cI cC cZ cB cJ a_x xI xH xB vI wY xX yA xY uD uJ rW uQ uP uO xO tJ jJ mY pG pD pE eO rG oY rJ pX rO rD dN bD bJ aI uU gF qF mX oE dY jE eW eY dU fY gJ jG nU qB jK) H -> va_D A (aLQ cI cC cZ cB cJ a_x xI xH xB vI wY xX yA xY uD uJ rW uQ uP uO xO tJ jJ mY pG pD pE eO rG oY rJ pX rO rD dN bD bJ aI uU gF qF mX oE dY jE eW eY dU fY gJ jG nU qB jK) -> va_S A s.heap H locs -> lv_has ls 7 [(0, .ref a_x), (1, .int x1), (2, .int x2), (3, .int x3), (4, .int x4), (5, .int x5)] -> W p l e rm_X9_hooked s m args below meth c H locs 0 0 (MQ below (q_X9_hooked dC dI cI cC cZ cB cJ A a_x xI xH xB vI wY xX yA xY uD uJ rW uQ uP uO xO tJ jJ mY pG pD pE eO rG rJ pX rO dN bD bJ aI uU gF qF mX oE dY jE eW eY dU fY gJ jG nU post) args s 0 0 A) (F0 m 50 ls [])) : ∀ (x1 x2 x3 x4 x5 oY : Int32) (rD : Nat -> Int32) (qB : Int32) (jK : Nat -> Int32) (H : Heap) (locs : List Loc) (ls : Array Slot), (ws_X9_hooked_50 post next dN bD uU gF qF mX oE dY jE eW eY gJ jG) x1 x2 x3 x4 x5 oY rD qB jK -> va_P (dC, dI) classes (aLQ cI cC cZ cB cJ a_x xI xH xB vI wY xX yA xY uD uJ rW uQ uP uO xO tJ jJ mY pG pD pE eO rG oY rJ pX rO rD dN bD bJ aI uU gF qF mX oE dY jE eW eY dU fY gJ jG nU qB jK) H -> va_D A (aLQ cI cC cZ cB cJ a_x xI xH xB vI wY xX yA xY uD uJ rW uQ uP uO xO tJ jJ mY pG pD pE eO rG oY rJ pX rO rD dN bD bJ aI uU gF qF mX oE dY jE eW eY dU fY gJ jG nU qB jK) -> va_S A s.heap H locs -> lv_has ls 7 [(0, .ref a_x), (1, .int x1), (2, .int x2), (3, .int x3), (4, .int x4), (5, .int x5)] -> W p l e rm_X9_hooked s m args below meth c H locs 0 0 (MQ below (q_X9_hooked dC dI cI cC cZ cB cJ A a_x xI xH xB vI wY xX yA xY uD uJ rW uQ uP uO xO tJ jJ mY pG pD pE eO rG rJ pX rO dN bD bJ aI uU gF qF mX oE dY jE eW eY dU fY gJ jG nU post) args s 0 0 A) (F0 m 50 ls []) := by
  obtain ⟨hx, hb, hr, hml, hown, hts, hlocks, hA, hK, hN, tL, tM, hZL, hTL, hZM, hTM, hZX⟩ := id C0
  intro x1 x2 x3 x4 x5 oY rD qB jK H locs ls hp hP hD hS hl
  unfold ws_X9_hooked_50 at hp
  refine lv_iload hx hb aTu.2.2.2.2.2.2.2.2.2.2.2.2.1 (lv_at hl 5 rfl) ?_
  refine lv_aload_n hx hb aTu.2.2.2.2.2.2.2.2.2.2.2.2.2.1 rfl (lv_at hl 0 rfl) ?_
  refine va_get (D := (dC, dI)) (ci := 9) (v := .ref vI) (C := RX9) (T := TX9) (N := 9) hx hb hts aC3 hown hK hP 0 rfl rfl 3 (lbz rfl) (hts _ q_74) (fun _ h9 => h9) rfl aTu.2.2.2.2.2.2.2.2.2.2.2.2.2.2.1 ?_
  refine va_get (D := (dC, dI)) (ci := 3) (v := .int bD) (C := RX3) (T := TX3) (N := 11) hx hb hts i_X3 hown hK hP 4 rfl rfl 8 (lbz rfl) (hts _ q_415) (fun _ h9 => h9) rfl aTu.2.2.2.2.2.2.2.2.2.2.2.2.2.2.2 ?_
  refine lv_icmp_ge (tgt := 121) hx hb aTv.1 (by decide) (fun hc => ?_) (fun hc => ?_)
  · have hp := hp.1 hc
    refine lv_aload_n hx hb aTw.2.2.2.2.2.2.2.2.2.2.2.2.2.2.1 rfl (lv_at hl 0 rfl) ?_
    refine lv_iload_n hx hb aTw.2.2.2.2.2.2.2.2.2.2.2.2.2.2.2 rfl (lv_at hl 3 rfl) ?_
    refine lv_iload hx hb eX9_hooked_123.1 (lv_at hl 4 rfl) ?_
    have hm := mgk (wc := (aRW cI cC cZ cB cJ a_x xI xH xB vI wY xX yA xY uD rG qB jK)) hP mk_121 14 rfl rfl rfl
    refine aBn hP hD hS hA (yS mk_121) (aAi mk_121) hm.1 hm.2 (aAk _) (zW _) (zF (As := [.int x3, .int x4]) (rest := []) C0 hP hD hS (yS mk_121) hm.1 (aAl _) 0 9 rfl rfl (c_X9_tell_ l dC dI cI cC cZ cB cJ a_x xI xH xB vI wY xX yA xY uD rG H.size x3 x4 qB jK _ hp) q_377 q_380 q_378 q_379 aIl h_X9_tell_ rfl rfl ⟨lbz rfl, lbz rfl⟩ rfl rfl hl.1 rfl (lv_room (lbz rfl)) eX9_hooked_123.2.1 ⟨Nat.zero_le _, Nat.zero_le _⟩) (fun u H locs hp hP hD hS => ?_)
    obtain ⟨ro_size_7, aO7⟩ := u
    have hPD := PDm (ws' := (aLQ cI cC cZ cB cJ a_x xI xH xB vI wY xX yA xY uD uJ rW uQ uP uO xO tJ jJ mY pG pD pE eO rG oY rJ pX rO rD dN bD bJ aI uU gF qF mX oE dY jE eW eY dU fY gJ jG nU ro_size_7 aO7)) hP hD 14 rfl rfl rfl
    have hP := hPD.1
    have hD := hPD.2
    refine lv_iload_n hx hb eX9_hooked_123.2.2.1 rfl (lv_at hl 2 rfl) ?_
    exact W.iret (v := x2) hx hb hr (fun t ht hW => ⟨⟨x2, (oY, rD, ro_size_7, aO7), rfl, hp, by rw [ht]; exact hP, va_K.moved hW.alike hK, hD⟩, hS.F ht⟩) hS.2.2 eX9_hooked_123.2.2.2
  · have hp := hp.2 hc
    refine lv_iload_n hx hb aTv.2.1 rfl (lv_at hl 1 rfl) ?_
    refine lv_aload_n hx hb aTv.2.2.1 rfl (lv_at hl 0 rfl) ?_
    refine va_get (D := (dC, dI)) (ci := 9) (v := .ref vI) (C := RX9) (T := TX9) (N := 9) hx hb hts aC3 hown hK hP 0 rfl rfl 3 (lbz rfl) (hts _ q_74) (fun _ h9 => h9) rfl aTv.2.2.2.1 ?_
    refine lv_iload hx hb aTv.2.2.2.2.1 (lv_at hl 5 rfl) ?_
    refine lv_aload_n hx hb aTv.2.2.2.2.2.1 rfl (lv_at hl 0 rfl) ?_
    refine va_get (D := (dC, dI)) (ci := 9) (v := .ref vI) (C := RX9) (T := TX9) (N := 9) hx hb hts aC3 hown hK hP 0 rfl rfl 3 (lbz rfl) (hts _ q_74) (fun _ h9 => h9) rfl aTv.2.2.2.2.2.2.1 ?_
    refine lv_aload_n hx hb aTv.2.2.2.2.2.2.2.1 rfl (lv_at hl 0 rfl) ?_
    refine va_get (D := (dC, dI)) (ci := 9) (v := .ref wY) (C := RX9) (T := TX9) (N := 9) hx hb hts aC3 hown hK hP 0 rfl rfl 4 (lbz rfl) (hts _ q_179) (fun _ h9 => h9) rfl aTv.2.2.2.2.2.2.2.2.1 ?_
    refine va_get (D := (dC, dI)) (ci := 2) (v := .int gJ) (C := RX2) (T := TX2) (N := 8) hx hb hts i_X2 hown hK hP 11 rfl rfl 5 (lbz rfl) (hts _ q_414) (fun _ h9 => h9) rfl aTv.2.2.2.2.2.2.2.2.2.1 ?_
    refine lv_iconst (v := 1) hx hb aTv.2.2.2.2.2.2.2.2.2.2.1 aDx ?_
    have hm := mgk (wc := (wd_X3_reach cI cC cZ cB cJ vI tJ jJ mY pG pD pE eO dN bD bJ aI dY)) hP mk_158 14 rfl rfl rfl
    refine yW hP hD hS hA (yS mk_158) (aAi mk_158) hm.1 hm.2 (aAk _) (zW _) (zF (As := [.int gJ, .int 1]) (rest := [.int x5, .ref vI, .int x1]) C0 hP hD hS (yS mk_158) hm.1 (aAl _) 4 3 rfl rfl (c_X3_reach l dC dI cI cC cZ cB cJ vI tJ jJ mY pG pD pE eO H.size gJ 1 dN bD bJ aI dY _ hp) q_312 q_411 q_313 q_314 q_48 h_X3_reach rfl rfl ⟨lbz rfl, lbz rfl⟩ rfl rfl hl.1 rfl (lv_room (lbz rfl)) aTv.2.2.2.2.2.2.2.2.2.2.2.1 ⟨Nat.zero_le _, Nat.zero_le _⟩) (fun r_9 u H locs hp hP hD hS => ?_)
    have hPD := PDm (ws' := (aLQ cI cC cZ cB cJ a_x xI xH xB vI wY xX yA xY uD uJ rW uQ uP uO xO tJ jJ mY pG pD pE eO rG oY rJ pX rO rD dN bD bJ aI uU gF qF mX oE dY jE eW eY dU fY gJ jG nU qB jK)) hP hD 14 rfl rfl rfl
    have hP := hPD.1
    have hD := hPD.2
    have hm := mgk (wc := (aLx cI cC cZ cB cJ vI tJ jJ mY pG pD pE eO dN bD bJ aI uU gF mX oE)) hP mk_159 14 rfl rfl rfl
    refine yW hP hD hS hA (yS mk_159) (aAi mk_159) hm.1 hm.2 (aAk _) (zW _) (zF (As := [.int x5, .int r_9]) (rest := [.int x1]) C0 hP hD hS (yS mk_159) hm.1 (aAl _) 4 3 rfl rfl (c_X3_within l dC dI cI cC cZ cB cJ vI tJ jJ mY pG pD pE eO H.size x5 r_9 dN bD bJ aI uU gF mX oE _ hp) q_339 q_412 q_340 q_341 q_48 h_X3_within rfl rfl ⟨lbz rfl, lbz rfl⟩ rfl rfl hl.1 rfl (lv_room (lbz rfl)) aTv.2.2.2.2.2.2.2.2.2.2.2.2.1 ⟨Nat.zero_le _, Nat.zero_le _⟩) (fun r_10 u H locs hp hP hD hS => ?_)
    have hPD := PDm (ws' := (aLQ cI cC cZ cB cJ a_x xI xH xB vI wY xX yA xY uD uJ rW uQ uP uO xO tJ jJ mY pG pD pE eO rG oY rJ pX rO rD dN bD bJ aI uU gF qF mX oE dY jE eW eY dU fY gJ jG nU qB jK)) hP hD 14 rfl rfl rfl
    have hP := hPD.1
    have hD := hPD.2
    refine lv_iand hx hb aTv.2.2.2.2.2.2.2.2.2.2.2.2.2.1 ?_
    refine lv_topi (fun aGH ev_11 => ?_)
    have hp := hp aGH ev_11
    refine lv_istore (lv' := [(6, .int aGH), (0, .ref a_x), (1, .int x1), (2, .int x2), (3, .int x3), (4, .int x4), (5, .int x5)]) hx hb aTv.2.2.2.2.2.2.2.2.2.2.2.2.2.2.1 hl (by decide) rfl (fun ls hl => ?_)
    refine lv_iload_n hx hb aTv.2.2.2.2.2.2.2.2.2.2.2.2.2.2.2 rfl (lv_at hl 3 rfl) ?_
    refine lv_iload hx hb aTw.1 (lv_at hl 0 rfl) ?_
    refine lv_ior hx hb aTw.2.1 ?_
    refine lv_topi (fun aEp ev_12 => ?_)
    have hp := hp aEp ev_12
    refine lv_istore_n (lv' := [(2, .int aEp), (6, .int aGH), (0, .ref a_x), (1, .int x1), (3, .int x3), (4, .int x4), (5, .int x5)]) hx hb aTw.2.2.1 rfl hl (by decide) rfl (fun ls hl => ?_)
    refine lv_iload hx hb aTw.2.2.2.1 (lv_at hl 1 rfl) ?_
    have hm := mgk (wc := (aBh cI cC cZ cB cJ)) hP aJ7 14 rfl rfl rfl
    refine yW hP hD hS hA (yS aJ7) (aAi aJ7) hm.1 hm.2 (aAk _) (zW _) (aDn (As := [.int aGH]) (rest := []) C0 hP hD hS (yS aJ7) hm.1 (aAl _) (aBv l dC dI cI cC cZ cB cJ H.size aGH _ hp) q_320 q_474 q_322 q_321 aBw rfl rfl ⟨lbz rfl, lbz rfl⟩ rfl rfl hl.1 rfl (lv_room (lbz rfl)) aTw.2.2.2.2.1 ⟨Nat.zero_le _, Nat.zero_le _⟩) (fun r_13 u H locs hp hP hD hS => ?_)
    have hPD := PDm (ws' := (aLQ cI cC cZ cB cJ a_x xI xH xB vI wY xX yA xY uD uJ rW uQ uP uO xO tJ jJ mY pG pD pE eO rG oY rJ pX rO rD dN bD bJ aI uU gF qF mX oE dY jE eW eY dU fY gJ jG nU qB jK)) hP hD 14 rfl rfl rfl
    have hP := hPD.1
    have hD := hPD.2
    refine lv_iload hx hb aTw.2.2.2.2.2.1 (lv_at hl 5 rfl) ?_
    refine lv_icmp_le (tgt := 115) hx hb aTw.2.2.2.2.2.2.1 (by decide) (fun hc => ?_) (fun hc => ?_)
    · have hp := hp.1 hc
      exact ks_X9_hooked_115 C0 hKn x1 aEp x3 x4 x5 oY rD qB jK H locs ls hp hP hD hS (lv_sub hl [2, 3, 0, 4, 5, 6] rfl)
    · have hp := hp.2 hc
      refine lv_iload hx hb aTw.2.2.2.2.2.2.2.1 (lv_at hl 6 rfl) ?_
      refine lv_istore_n (lv' := [(3, .int x5), (2, .int aEp), (6, .int aGH), (0, .ref a_x), (1, .int x1), (4, .int x4), (5, .int x5)]) hx hb aTw.2.2.2.2.2.2.2.2.1 rfl hl (by decide) rfl (fun ls hl => ?_)
      refine lv_iload hx hb aTw.2.2.2.2.2.2.2.2.2.1 (lv_at hl 2 rfl) ?_
      have hm := mgk (wc := (aBh cI cC cZ cB cJ)) hP aJ7 14 rfl rfl rfl
      refine yW hP hD hS hA (yS aJ7) (aAi aJ7) hm.1 hm.2 (aAk _) (zW _) (aDn (As := [.int aGH]) (rest := []) C0 hP hD hS (yS aJ7) hm.1 (aAl _) (aBv l dC dI cI cC cZ cB cJ H.size aGH _ hp) q_320 q_474 q_322 q_321 aBw rfl rfl ⟨lbz rfl, lbz rfl⟩ rfl rfl hl.1 rfl (lv_room (lbz rfl)) aTw.2.2.2.2.2.2.2.2.2.2.1 ⟨Nat.zero_le _, Nat.zero_le _⟩) (fun r_15 u H locs hp hP hD hS => ?_)
      have hPD := PDm (ws' := (aLQ cI cC cZ cB cJ a_x xI xH xB vI wY xX yA xY uD uJ rW uQ uP uO xO tJ jJ mY pG pD pE eO rG oY rJ pX rO rD dN bD bJ aI uU gF qF mX oE dY jE eW eY dU fY gJ jG nU qB jK)) hP hD 14 rfl rfl rfl
      have hP := hPD.1
      have hD := hPD.2
      refine lv_istore (lv' := [(4, .int r_15), (3, .int x5), (2, .int aEp), (6, .int aGH), (0, .ref a_x), (1, .int x1), (5, .int x5)]) hx hb aTw.2.2.2.2.2.2.2.2.2.2.2.1 hl (by decide) rfl (fun ls hl => ?_)
      exact ks_X9_hooked_115 C0 hKn x1 aEp x5 r_15 x5 oY rD qB jK H locs ls hp hP hD hS (lv_sub hl [4, 5, 2, 1, 0, 6] rfl)
set_option maxHeartbeats 4000000 in
set_option maxRecDepth 100000 in
theorem kb_X9_hooked_50 (C0 : gc aDI (some .int) 7 RX9 (dC, dI) (tyl cI cC cZ cB cJ) A p s m args meth c) : ∀ (n : Nat), ∀ (x1 x2 x3 x4 x5 oY : Int32) (rD : Nat -> Int32) (qB : Int32) (jK : Nat -> Int32) (H : Heap) (locs : List Loc) (ls : Array Slot), (wb_X9_hooked_50 post dN bD uU gF qF mX oE dY jE eW eY gJ jG n) x1 x2 x3 x4 x5 oY rD qB jK -> va_P (dC, dI) classes (aLQ cI cC cZ cB cJ a_x xI xH xB vI wY xX yA xY uD uJ rW uQ uP uO xO tJ jJ mY pG pD pE eO rG oY rJ pX rO rD dN bD bJ aI uU gF qF mX oE dY jE eW eY dU fY gJ jG nU qB jK) H -> va_D A (aLQ cI cC cZ cB cJ a_x xI xH xB vI wY xX yA xY uD uJ rW uQ uP uO xO tJ jJ mY pG pD pE eO rG oY rJ pX rO rD dN bD bJ aI uU gF qF mX oE dY jE eW eY dU fY gJ jG nU qB jK) -> va_S A s.heap H locs -> lv_has ls 7 [(0, .ref a_x), (1, .int x1), (2, .int x2), (3, .int x3), (4, .int x4), (5, .int x5)] -> W p l e rm_X9_hooked s m args below meth c H locs 0 0 (MQ below (q_X9_hooked dC dI cI cC cZ cB cJ A a_x xI xH xB vI wY xX yA xY uD uJ rW uQ uP uO xO tJ jJ mY pG pD pE eO rG rJ pX rO dN bD bJ aI uU gF qF mX oE dY jE eW eY dU fY gJ jG nU post) args s 0 0 A) (F0 m 50 ls []) := by
  intro n
  induction n with
  | zero =>
    intro x1 x2 x3 x4 x5 oY rD qB jK H locs ls hp
    exact False.elim hp
  | succ n ih =>
    intro x1 x2 x3 x4 x5 oY rD qB jK H locs ls hp
    exact ks_X9_hooked_50 C0 ih x1 x2 x3 x4 x5 oY rD qB jK H locs ls hp
end S_X9_hooked
def wp_X9_hooked (post : Int32 -> Int32 -> (Nat -> Int32) -> Int32 -> (Nat -> Int32) -> Prop) (oY : Int32) (rD : Nat -> Int32) (dN bD : Int32) (uU gF qF mX oE dY : Nat -> Int32) (jE eW eY gJ jG qB : Int32) (jK : Nat -> Int32) : Prop := aZL (fun aBo aCo => aOu (fun r_3 => aZj (fun r_4 => ∀ v_5 : Int32, v_5 = r_3 &&& r_4 -> ∀ v_6 : Int32, v_6 = v_5 &&& (aBo ^^^ (-1)) -> ∃ n : Nat, wb_X9_hooked_50 post dN bD uU gF qF mX oE dY jE eW eY gJ jG n v_6 0 (-1) 0 0 aBo aCo qB jK) jG dN qF) dN jE eW eY) oY rD dN bD uU gF qF mX oE dY jE eW eY gJ jG
set_option maxHeartbeats 4000000 in
set_option maxRecDepth 100000 in
theorem c_X9_hooked (l : Launch) (dC : Nat -> ClassId) (dI : Nat -> Nat -> Nat) (cI cC cZ cB cJ : ClassId) (a_x xI xH xB vI wY xX yA xY uD uJ rW uQ uP uO xO tJ jJ mY pG pD pE eO rG sz : Nat) (oY rJ pX rO : Int32) (rD : Nat -> Int32) (dN bD bJ aI : Int32) (uU gF qF mX oE dY : Nat -> Int32) (jE eW eY dU fY gJ jG nU qB : Int32) (jK : Nat -> Int32) (post : Int32 -> Int32 -> (Nat -> Int32) -> Int32 -> (Nat -> Int32) -> Prop) (hw : wp_X9_hooked post oY rD dN bD uU gF qF mX oE dY jE eW eY gJ jG qB jK) : Met l yX9_hooked (gw yX9_hooked aDI 7 (some .int)) rm_X9_hooked (va_Pc [.ref a_x] (gPre (dC, dI) (tyl cI cC cZ cB cJ) (aLQ cI cC cZ cB cJ a_x xI xH xB vI wY xX yA xY uD uJ rW uQ uP uO xO tJ jJ mY pG pD pE eO rG oY rJ pX rO rD dN bD bJ aI uU gF qF mX oE dY jE eW eY dU fY gJ jG nU qB jK) sz)) (q_X9_hooked dC dI cI cC cZ cB cJ (va_A (aLQ cI cC cZ cB cJ a_x xI xH xB vI wY xX yA xY uD uJ rW uQ uP uO xO tJ jJ mY pG pD pE eO rG oY rJ pX rO rD dN bD bJ aI uU gF qF mX oE dY jE eW eY dU fY gJ jG nU qB jK) sz) a_x xI xH xB vI wY xX yA xY uD uJ rW uQ uP uO xO tJ jJ mY pG pD pE eO rG rJ pX rO dN bD bJ aI uU gF qF mX oE dY jE eW eY dU fY gJ jG nU post) 0 0 (va_A (aLQ cI cC cZ cB cJ a_x xI xH xB vI wY xX yA xY uD uJ rW uQ uP uO xO tJ jJ mY pG pD pE eO rG oY rJ pX rO rD dN bD bJ aI uU gF qF mX oE dY jE eW eY dU fY gJ jG nU qB jK) sz) := by
  refine aBJ (own := RX9) (dC, dI) (tyl cI cC cZ cB cJ) (aLQ cI cC cZ cB cJ a_x xI xH xB vI wY xX yA xY uD uJ rW uQ uP uO xO tJ jJ mY pG pD pE eO rG oY rJ pX rO rD dN bD bJ aI uU gF qF mX oE dY jE eW eY dU fY gJ jG nU qB jK) sz [.ref a_x] (fun A => q_X9_hooked dC dI cI cC cZ cB cJ A a_x xI xH xB vI wY xX yA xY uD uJ rW uQ uP uO xO tJ jJ mY pG pD pE eO rG rJ pX rO dN bD bJ aI uU gF qF mX oE dY jE eW eY dU fY gJ jG nU post) pn_RX9 rfl (lbz rfl) ?_
  intro p e s m args below meth c A H locs ls C0 hP hD hS hl
  have hl : lv_has ls 7 [(0, .ref a_x)] := hl
  obtain ⟨hx, hb, hr, hml, hown, hts, hlocks, hA, hK, hN, tL, tM, hZL, hTL, hZM, hTM, hZX⟩ := id C0
  have hp := hw
  unfold wp_X9_hooked at hp
  refine lv_aload_n hx hb aWr.1 rfl (lv_at hl 0 rfl) ?_
  refine va_get (D := (dC, dI)) (ci := 9) (v := .ref xH) (C := RX9) (T := TX9) (N := 9) hx hb hts aC3 hown hK hP 0 rfl rfl 1 (lbz rfl) (hts _ aOt) (fun _ h9 => h9) rfl aWr.2.1 ?_
  have hm := mgk (wc := (aVN cI cC cZ cB cJ xH xB vI uJ rW uQ uP uO wY xO tJ jJ mY pG pD pE eO oY rJ pX rO rD dN bD bJ aI uU gF qF mX oE dY jE eW eY dU fY gJ jG nU)) hP aUu 14 rfl rfl rfl
  refine aBn hP hD hS hA (yS aUu) (aAi aUu) hm.1 hm.2 (aAk _) (zW _) (zF (As := []) (rest := []) C0 hP hD hS (yS aUu) hm.1 (aAl _) 1 5 rfl rfl (c_X5_look l dC dI cI cC cZ cB cJ xH xB vI uJ rW uQ uP uO wY xO tJ jJ mY pG pD pE eO H.size oY rJ pX rO rD dN bD bJ aI uU gF qF mX oE dY jE eW eY dU fY gJ jG nU _ hp) q_445 q_448 q_446 q_447 aRn h_X5_look rfl rfl ⟨lbz rfl, lbz rfl⟩ rfl rfl hl.1 rfl (lv_room (lbz rfl)) aWr.2.2.1 ⟨Nat.zero_le _, Nat.zero_le _⟩) (fun u H locs hp hP hD hS => ?_)
  obtain ⟨aBo, aCo⟩ := u
  have hPD := PDm (ws' := (aLQ cI cC cZ cB cJ a_x xI xH xB vI wY xX yA xY uD uJ rW uQ uP uO xO tJ jJ mY pG pD pE eO rG aBo rJ pX rO aCo dN bD bJ aI uU gF qF mX oE dY jE eW eY dU fY gJ jG nU qB jK)) hP hD 14 rfl rfl rfl
  have hP := hPD.1
  have hD := hPD.2
  refine lv_aload_n hx hb aWr.2.2.2.1 rfl (lv_at hl 0 rfl) ?_
  refine va_get (D := (dC, dI)) (ci := 9) (v := .ref xB) (C := RX9) (T := TX9) (N := 9) hx hb hts aC3 hown hK hP 0 rfl rfl 2 (lbz rfl) (hts _ q_146) (fun _ h9 => h9) rfl aWr.2.2.2.2.1 ?_
  have hm := mgk (wc := (aOf cI cC cZ cB cJ xB vI wY xO tJ jJ mY pG pD pE eO dN bD bJ aI jE eW eY dU fY gJ jG nU)) hP mk_160 14 rfl rfl rfl
  refine yW hP hD hS hA (yS mk_160) (aAi mk_160) hm.1 hm.2 (aAk _) (zW _) (zF (As := []) (rest := []) C0 hP hD hS (yS mk_160) hm.1 (aAl _) 3 0 rfl rfl (c_X0_hanging l dC dI cI cC cZ cB cJ xB vI wY xO tJ jJ mY pG pD pE eO H.size dN bD bJ aI jE eW eY dU fY gJ jG nU _ hp) q_186 q_190 q_188 q_189 q_187 h_X0_hanging rfl rfl ⟨lbz rfl, lbz rfl⟩ rfl rfl hl.1 rfl (lv_room (lbz rfl)) aWr.2.2.2.2.2.1 ⟨Nat.zero_le _, Nat.zero_le _⟩) (fun r_3 u H locs hp hP hD hS => ?_)
  have hPD := PDm (ws' := (aLQ cI cC cZ cB cJ a_x xI xH xB vI wY xX yA xY uD uJ rW uQ uP uO xO tJ jJ mY pG pD pE eO rG aBo rJ pX rO aCo dN bD bJ aI uU gF qF mX oE dY jE eW eY dU fY gJ jG nU qB jK)) hP hD 14 rfl rfl rfl
  have hP := hPD.1
  have hD := hPD.2
  refine lv_aload_n hx hb aWr.2.2.2.2.2.2.1 rfl (lv_at hl 0 rfl) ?_
  refine va_get (D := (dC, dI)) (ci := 9) (v := .ref vI) (C := RX9) (T := TX9) (N := 9) hx hb hts aC3 hown hK hP 0 rfl rfl 3 (lbz rfl) (hts _ q_74) (fun _ h9 => h9) rfl aWr.2.2.2.2.2.2.2.1 ?_
  refine lv_aload_n hx hb aWr.2.2.2.2.2.2.2.2.1 rfl (lv_at hl 0 rfl) ?_
  refine va_get (D := (dC, dI)) (ci := 9) (v := .ref wY) (C := RX9) (T := TX9) (N := 9) hx hb hts aC3 hown hK hP 0 rfl rfl 4 (lbz rfl) (hts _ q_179) (fun _ h9 => h9) rfl aWr.2.2.2.2.2.2.2.2.2.1 ?_
  refine va_get (D := (dC, dI)) (ci := 2) (v := .int jG) (C := RX2) (T := TX2) (N := 8) hx hb hts i_X2 hown hK hP 11 rfl rfl 6 (lbz rfl) (hts _ q_542) (fun _ h9 => h9) rfl aWr.2.2.2.2.2.2.2.2.2.2.1 ?_
  have hm := mgk (wc := (aLw cI cC cZ cB cJ vI tJ jJ mY pG pD pE eO dN bD bJ aI qF)) hP mk_161 14 rfl rfl rfl
  refine yW hP hD hS hA (yS mk_161) (aAi mk_161) hm.1 hm.2 (aAk _) (zW _) (zF (As := [.int jG]) (rest := [.int r_3]) C0 hP hD hS (yS mk_161) hm.1 (aAl _) 4 3 rfl rfl (c_X3_ripeBy l dC dI cI cC cZ cB cJ vI tJ jJ mY pG pD pE eO H.size jG dN bD bJ aI qF _ hp) q_343 q_544 q_344 q_345 q_48 h_X3_ripeBy rfl rfl ⟨lbz rfl, lbz rfl⟩ rfl rfl hl.1 rfl (lv_room (lbz rfl)) aWr.2.2.2.2.2.2.2.2.2.2.2.1 ⟨Nat.zero_le _, Nat.zero_le _⟩) (fun r_4 u H locs hp hP hD hS => ?_)
  have hPD := PDm (ws' := (aLQ cI cC cZ cB cJ a_x xI xH xB vI wY xX yA xY uD uJ rW uQ uP uO xO tJ jJ mY pG pD pE eO rG aBo rJ pX rO aCo dN bD bJ aI uU gF qF mX oE dY jE eW eY dU fY gJ jG nU qB jK)) hP hD 14 rfl rfl rfl
  have hP := hPD.1
  have hD := hPD.2
  refine lv_iand hx hb aWr.2.2.2.2.2.2.2.2.2.2.2.2.1 ?_
  refine lv_topi (fun v_5 aJD => ?_)
  have hp := hp v_5 aJD
  refine lv_aload_n hx hb aWr.2.2.2.2.2.2.2.2.2.2.2.2.2.1 rfl (lv_at hl 0 rfl) ?_
  refine va_get (D := (dC, dI)) (ci := 9) (v := .ref xH) (C := RX9) (T := TX9) (N := 9) hx hb hts aC3 hown hK hP 0 rfl rfl 1 (lbz rfl) (hts _ aOt) (fun _ h9 => h9) rfl aWr.2.2.2.2.2.2.2.2.2.2.2.2.2.2.1 ?_
  refine va_get (D := (dC, dI)) (ci := 5) (v := .int aBo) (C := RX5) (T := TX5) (N := 11) hx hb hts i_X5 hown hK hP 1 rfl rfl 7 (lbz rfl) (hts _ q_462) (fun _ h9 => h9) rfl aWr.2.2.2.2.2.2.2.2.2.2.2.2.2.2.2 ?_
  refine lv_iconst (v := (-1)) hx hb aTu.1 aEJ ?_
  refine lv_ixor hx hb aTu.2.1 ?_
  refine lv_iand hx hb aTu.2.2.1 ?_
  refine lv_topi (fun v_6 ev_6 => ?_)
  have hp := hp v_6 ev_6
  refine lv_istore_n (lv' := [(1, .int v_6), (0, .ref a_x)]) hx hb aTu.2.2.2.1 rfl hl (by decide) rfl (fun ls hl => ?_)
  refine lv_iconst (v := 0) hx hb aTu.2.2.2.2.1 aCi ?_
  refine lv_istore_n (lv' := [(2, .int 0), (1, .int v_6), (0, .ref a_x)]) hx hb aTu.2.2.2.2.2.1 rfl hl (by decide) rfl (fun ls hl => ?_)
  refine lv_iconst (v := (-1)) hx hb aTu.2.2.2.2.2.2.1 aEJ ?_
  refine lv_istore_n (lv' := [(3, .int (-1)), (2, .int 0), (1, .int v_6), (0, .ref a_x)]) hx hb aTu.2.2.2.2.2.2.2.1 rfl hl (by decide) rfl (fun ls hl => ?_)
  refine lv_iconst (v := 0) hx hb aTu.2.2.2.2.2.2.2.2.1 aCi ?_
  refine lv_istore (lv' := [(4, .int 0), (3, .int (-1)), (2, .int 0), (1, .int v_6), (0, .ref a_x)]) hx hb aTu.2.2.2.2.2.2.2.2.2.1 hl (by decide) rfl (fun ls hl => ?_)
  refine lv_iconst (v := 0) hx hb aTu.2.2.2.2.2.2.2.2.2.2.1 aCi ?_
  refine lv_istore (lv' := [(5, .int 0), (4, .int 0), (3, .int (-1)), (2, .int 0), (1, .int v_6), (0, .ref a_x)]) hx hb aTu.2.2.2.2.2.2.2.2.2.2.2.1 hl (by decide) rfl (fun ls hl => ?_)
  obtain ⟨n9, hp⟩ := hp
  exact kb_X9_hooked_50 C0 n9 v_6 0 (-1) 0 0 aBo aCo qB jK H locs ls hp hP hD hS (lv_sub hl [5, 4, 3, 2, 1, 0] rfl)
abbrev wd_X9_broken (cI cC cZ cB cJ : ClassId) (a_x xI xH xB vI wY xX yA xY uD uJ rW uQ uP uO xO tJ jJ mY pG pD pE eO rG : Nat) (oY rJ pX rO : Int32) (rD : Nat -> Int32) (dN bD bJ aI : Int32) (uU gF qF mX oE dY : Nat -> Int32) (jE eW eY dU fY gJ jG nU qB : Int32) (jK : Nat -> Int32) : va_W := [(a_x, .inr (9, [.ref xI, .ref xH, .ref xB, .ref vI, .ref wY, .ref xX, .ref yA, .ref xY, .ref uD])), (xH, .inr (5, [.ref xB, .ref vI, .ref uJ, .ref rW, .ref uQ, .ref uP, .ref uO, .int oY, .int rJ, .int pX, .int rO])), (uJ, .inl (cI, 8, .inl rD)), (xB, .inr (0, [.ref vI, .ref wY, .ref xO])), (vI, .inr (3, [.ref tJ, .ref jJ, .ref mY, .ref pG, .ref pD, .ref pE, .ref eO, .int dN, .int bD, .int bJ, .int aI])), (tJ, .inl (cI, 16, .inl uU)), (jJ, .inl (cI, 16, .inl gF)), (pG, .inl (cI, 16, .inl qF)), (pD, .inl (cI, 8, .inl mX)), (pE, .inl (cI, 8, .inl oE)), (eO, .inl (cI, 5, .inl dY)), (wY, .inr (2, [.int jE, .int eW, .int eY, .int dU, .int fY, .int gJ, .int jG, .int nU])), (yA, .inr (6, [.ref rG, .int qB])), (rG, .inl (cI, 16, .inl jK))]
abbrev q_X9_broken (dC : Nat -> ClassId) (dI : Nat -> Nat -> Nat) (cI cC cZ cB cJ : ClassId) (A : Nat -> Prop) (a_x xI xH xB vI wY xX yA xY uD uJ rW uQ uP uO xO tJ jJ mY pG pD pE eO rG : Nat) (rJ pX rO dN bD bJ aI : Int32) (uU gF qF mX oE dY : Nat -> Int32) (jE eW eY dU fY gJ jG nU : Int32) (post : Int32 -> Int32 -> (Nat -> Int32) -> Int32 -> (Nat -> Int32) -> Prop) : Array Value -> State -> Outcome -> State -> Prop := va_Qi (fun (r : Int32) (u : Int32 × (Nat -> Int32) × Int32 × (Nat -> Int32)) => post r u.1 u.2.1 u.2.2.1 u.2.2.2) (fun u t => gB (dC, dI) (tyl cI cC cZ cB cJ) A (wd_X9_broken cI cC cZ cB cJ a_x xI xH xB vI wY xX yA xY uD uJ rW uQ uP uO xO tJ jJ mY pG pD pE eO rG u.1 rJ pX rO u.2.1 dN bD bJ aI uU gF qF mX oE dY jE eW eY dU fY gJ jG nU u.2.2.1 u.2.2.2) t) A
abbrev rm_X9_broken : Room := { frames := 5, cells := 0, slots := 0, locals := 115 }
def wp_X9_broken (post : Int32 -> Int32 -> (Nat -> Int32) -> Int32 -> (Nat -> Int32) -> Prop) (p0 oY : Int32) (rD : Nat -> Int32) (dN bD : Int32) (uU gF qF mX oE dY : Nat -> Int32) (jE eW eY gJ jG qB : Int32) (jK : Nat -> Int32) : Prop := aK6 (fun r_1 => (¬ r_1 = 0 -> aZL (fun aCw aEE => aHs (fun r_4 => ∀ v_5 : Int32, v_5 = 1 <<< (p0 &&& 31) -> ∀ v_6 : Int32, v_6 = r_4 &&& (v_5 ^^^ (-1)) -> aPV (fun r_7 => ∀ v_8 : Int32, v_8 = aCw &&& (r_7 ^^^ (-1)) -> aYk (fun ro_size_9 ro_numbers_10 => ∀ aGH : Int32, aGH = aCw &&& (v_8 ^^^ (-1)) -> aXB (fun r_12 => aBb (fun r_13 => post r_13 aCw aEE ro_size_9 ro_numbers_10) r_12) aGH v_6 aEE bD) v_8 qB jK) v_6 aEE bD) bD) oY rD dN bD uU gF qF mX oE dY jE eW eY gJ jG) /\ (r_1 = 0 -> post (-1) oY rD qB jK)) p0 bD
set_option maxHeartbeats 4000000 in
set_option maxRecDepth 100000 in
theorem c_X9_broken (l : Launch) (dC : Nat -> ClassId) (dI : Nat -> Nat -> Nat) (cI cC cZ cB cJ : ClassId) (a_x xI xH xB vI wY xX yA xY uD uJ rW uQ uP uO xO tJ jJ mY pG pD pE eO rG sz : Nat) (p0 oY rJ pX rO : Int32) (rD : Nat -> Int32) (dN bD bJ aI : Int32) (uU gF qF mX oE dY : Nat -> Int32) (jE eW eY dU fY gJ jG nU qB : Int32) (jK : Nat -> Int32) (post : Int32 -> Int32 -> (Nat -> Int32) -> Int32 -> (Nat -> Int32) -> Prop) (hw : wp_X9_broken post p0 oY rD dN bD uU gF qF mX oE dY jE eW eY gJ jG qB jK) : Met l yX9_broken (gw yX9_broken aFw 4 (some .int)) rm_X9_broken (va_Pc [.ref a_x, .int p0] (gPre (dC, dI) (tyl cI cC cZ cB cJ) (wd_X9_broken cI cC cZ cB cJ a_x xI xH xB vI wY xX yA xY uD uJ rW uQ uP uO xO tJ jJ mY pG pD pE eO rG oY rJ pX rO rD dN bD bJ aI uU gF qF mX oE dY jE eW eY dU fY gJ jG nU qB jK) sz)) (q_X9_broken dC dI cI cC cZ cB cJ (va_A (wd_X9_broken cI cC cZ cB cJ a_x xI xH xB vI wY xX yA xY uD uJ rW uQ uP uO xO tJ jJ mY pG pD pE eO rG oY rJ pX rO rD dN bD bJ aI uU gF qF mX oE dY jE eW eY dU fY gJ jG nU qB jK) sz) a_x xI xH xB vI wY xX yA xY uD uJ rW uQ uP uO xO tJ jJ mY pG pD pE eO rG rJ pX rO dN bD bJ aI uU gF qF mX oE dY jE eW eY dU fY gJ jG nU post) 0 0 (va_A (wd_X9_broken cI cC cZ cB cJ a_x xI xH xB vI wY xX yA xY uD uJ rW uQ uP uO xO tJ jJ mY pG pD pE eO rG oY rJ pX rO rD dN bD bJ aI uU gF qF mX oE dY jE eW eY dU fY gJ jG nU qB jK) sz) := by
  refine aBJ (own := RX9) (dC, dI) (tyl cI cC cZ cB cJ) (wd_X9_broken cI cC cZ cB cJ a_x xI xH xB vI wY xX yA xY uD uJ rW uQ uP uO xO tJ jJ mY pG pD pE eO rG oY rJ pX rO rD dN bD bJ aI uU gF qF mX oE dY jE eW eY dU fY gJ jG nU qB jK) sz [.ref a_x, .int p0] (fun A => q_X9_broken dC dI cI cC cZ cB cJ A a_x xI xH xB vI wY xX yA xY uD uJ rW uQ uP uO xO tJ jJ mY pG pD pE eO rG rJ pX rO dN bD bJ aI uU gF qF mX oE dY jE eW eY dU fY gJ jG nU post) pn_RX9 rfl (lbz rfl) ?_
  intro p e s m args below meth c A H locs ls C0 hP hD hS hl
  have hl : lv_has ls 4 [(0, .ref a_x), (1, .int p0)] := hl
  obtain ⟨hx, hb, hr, hml, hown, hts, hlocks, hA, hK, hN, tL, tM, hZL, hTL, hZM, hTM, hZX⟩ := id C0
  have hp := hw
  unfold wp_X9_broken at hp
  refine lv_aload_n hx hb aWk.1 rfl (lv_at hl 0 rfl) ?_
  refine va_get (D := (dC, dI)) (ci := 9) (v := .ref vI) (C := RX9) (T := TX9) (N := 9) hx hb hts aC3 hown hK hP 0 rfl rfl 3 (lbz rfl) (hts _ q_74) (fun _ h9 => h9) rfl aWk.2.1 ?_
  refine lv_iload_n hx hb aWk.2.2.1 rfl (lv_at hl 1 rfl) ?_
  have hm := mgk (wc := (aLv cI cC cZ cB cJ vI tJ jJ mY pG pD pE eO dN bD bJ aI)) hP aNG 14 rfl rfl rfl
  refine yW hP hD hS hA (yS aNG) (aAi aNG) hm.1 hm.2 (aAk _) (zW _) (zF (As := [.int p0]) (rest := []) C0 hP hD hS (yS aNG) hm.1 (aAl _) 4 3 rfl rfl (aZS l dC dI cI cC cZ cB cJ vI tJ jJ mY pG pD pE eO H.size p0 dN bD bJ aI _ hp) q_195 q_198 q_196 q_197 q_48 aZZ rfl rfl ⟨lbz rfl, lbz rfl⟩ rfl rfl hl.1 rfl (lv_room (lbz rfl)) aWk.2.2.2.1 ⟨Nat.zero_le _, Nat.zero_le _⟩) (fun r_1 u H locs hp hP hD hS => ?_)
  have hPD := PDm (ws' := (wd_X9_broken cI cC cZ cB cJ a_x xI xH xB vI wY xX yA xY uD uJ rW uQ uP uO xO tJ jJ mY pG pD pE eO rG oY rJ pX rO rD dN bD bJ aI uU gF qF mX oE dY jE eW eY dU fY gJ jG nU qB jK)) hP hD 14 rfl rfl rfl
  have hP := hPD.1
  have hD := hPD.2
  refine lv_if_ne (tgt := 13) hx hb aWk.2.2.2.2.1 (by decide) (fun hc => ?_) (fun hc => ?_)
  · have hp := hp.1 hc
    refine lv_aload_n hx hb aWk.2.2.2.2.2.2.2.1 rfl (lv_at hl 0 rfl) ?_
    refine va_get (D := (dC, dI)) (ci := 9) (v := .ref xH) (C := RX9) (T := TX9) (N := 9) hx hb hts aC3 hown hK hP 0 rfl rfl 1 (lbz rfl) (hts _ aOt) (fun _ h9 => h9) rfl aWk.2.2.2.2.2.2.2.2.1 ?_
    have hm := mgk (wc := (aVN cI cC cZ cB cJ xH xB vI uJ rW uQ uP uO wY xO tJ jJ mY pG pD pE eO oY rJ pX rO rD dN bD bJ aI uU gF qF mX oE dY jE eW eY dU fY gJ jG nU)) hP aUu 14 rfl rfl rfl
    refine aBn hP hD hS hA (yS aUu) (aAi aUu) hm.1 hm.2 (aAk _) (zW _) (zF (As := []) (rest := []) C0 hP hD hS (yS aUu) hm.1 (aAl _) 1 5 rfl rfl (c_X5_look l dC dI cI cC cZ cB cJ xH xB vI uJ rW uQ uP uO wY xO tJ jJ mY pG pD pE eO H.size oY rJ pX rO rD dN bD bJ aI uU gF qF mX oE dY jE eW eY dU fY gJ jG nU _ hp) q_445 q_448 q_446 q_447 aRn h_X5_look rfl rfl ⟨lbz rfl, lbz rfl⟩ rfl rfl hl.1 rfl (lv_room (lbz rfl)) aWk.2.2.2.2.2.2.2.2.2.1 ⟨Nat.zero_le _, Nat.zero_le _⟩) (fun u H locs hp hP hD hS => ?_)
    obtain ⟨aCw, aEE⟩ := u
    have hPD := PDm (ws' := (wd_X9_broken cI cC cZ cB cJ a_x xI xH xB vI wY xX yA xY uD uJ rW uQ uP uO xO tJ jJ mY pG pD pE eO rG aCw rJ pX rO aEE dN bD bJ aI uU gF qF mX oE dY jE eW eY dU fY gJ jG nU qB jK)) hP hD 14 rfl rfl rfl
    have hP := hPD.1
    have hD := hPD.2
    refine lv_aload_n hx hb aWk.2.2.2.2.2.2.2.2.2.2.1 rfl (lv_at hl 0 rfl) ?_
    refine va_get (D := (dC, dI)) (ci := 9) (v := .ref vI) (C := RX9) (T := TX9) (N := 9) hx hb hts aC3 hown hK hP 0 rfl rfl 3 (lbz rfl) (hts _ q_74) (fun _ h9 => h9) rfl aWk.2.2.2.2.2.2.2.2.2.2.2.1 ?_
    have hm := mgk (wc := (aHS cI cC cZ cB cJ vI tJ jJ mY pG pD pE eO dN bD bJ aI)) hP aNG 14 rfl rfl rfl
    refine yW hP hD hS hA (yS aNG) (aAi aNG) hm.1 hm.2 (aAk _) (zW _) (zF (As := []) (rest := []) C0 hP hD hS (yS aNG) hm.1 (aAl _) 4 3 rfl rfl (aLl l dC dI cI cC cZ cB cJ vI tJ jJ mY pG pD pE eO H.size dN bD bJ aI _ hp) q_426 q_463 q_427 q_428 q_48 aLo rfl rfl ⟨lbz rfl, lbz rfl⟩ rfl rfl hl.1 rfl (lv_room (lbz rfl)) aWk.2.2.2.2.2.2.2.2.2.2.2.2.1 ⟨Nat.zero_le _, Nat.zero_le _⟩) (fun r_4 u H locs hp hP hD hS => ?_)
    have hPD := PDm (ws' := (wd_X9_broken cI cC cZ cB cJ a_x xI xH xB vI wY xX yA xY uD uJ rW uQ uP uO xO tJ jJ mY pG pD pE eO rG aCw rJ pX rO aEE dN bD bJ aI uU gF qF mX oE dY jE eW eY dU fY gJ jG nU qB jK)) hP hD 14 rfl rfl rfl
    have hP := hPD.1
    have hD := hPD.2
    refine lv_iconst (v := 1) hx hb aWk.2.2.2.2.2.2.2.2.2.2.2.2.2.1 aDx ?_
    refine lv_iload_n hx hb aWk.2.2.2.2.2.2.2.2.2.2.2.2.2.2.1 rfl (lv_at hl 1 rfl) ?_
    refine lv_ishl hx hb aWk.2.2.2.2.2.2.2.2.2.2.2.2.2.2.2 ?_
    refine lv_topi (fun v_5 aJD => ?_)
    have hp := hp v_5 aJD
    refine lv_iconst (v := (-1)) hx hb aTk.1 aEJ ?_
    refine lv_ixor hx hb aTk.2.1 ?_
    refine lv_iand hx hb aTk.2.2.1 ?_
    refine lv_topi (fun v_6 ev_6 => ?_)
    have hp := hp v_6 ev_6
    refine lv_istore_n (lv' := [(2, .int v_6), (0, .ref a_x), (1, .int p0)]) hx hb aTk.2.2.2.1 rfl hl (by decide) rfl (fun ls hl => ?_)
    refine lv_aload_n hx hb aTk.2.2.2.2.1 rfl (lv_at hl 1 rfl) ?_
    refine va_get (D := (dC, dI)) (ci := 9) (v := .ref xH) (C := RX9) (T := TX9) (N := 9) hx hb hts aC3 hown hK hP 0 rfl rfl 1 (lbz rfl) (hts _ aOt) (fun _ h9 => h9) rfl aTk.2.2.2.2.2.1 ?_
    refine va_get (D := (dC, dI)) (ci := 5) (v := .int aCw) (C := RX5) (T := TX5) (N := 11) hx hb hts i_X5 hown hK hP 1 rfl rfl 7 (lbz rfl) (hts _ q_462) (fun _ h9 => h9) rfl aTk.2.2.2.2.2.2.1 ?_
    refine lv_aload_n hx hb aTk.2.2.2.2.2.2.2.1 rfl (lv_at hl 1 rfl) ?_
    refine va_get (D := (dC, dI)) (ci := 9) (v := .ref xH) (C := RX9) (T := TX9) (N := 9) hx hb hts aC3 hown hK hP 0 rfl rfl 1 (lbz rfl) (hts _ aOt) (fun _ h9 => h9) rfl aTk.2.2.2.2.2.2.2.2.1 ?_
    refine lv_iload_n hx hb aTk.2.2.2.2.2.2.2.2.2.1 rfl (lv_at hl 0 rfl) ?_
    have hm := mgk (wc := (aHK cI cC cZ cB cJ xH xB vI uJ rW uQ uP uO tJ jJ mY pG pD pE eO aCw rJ pX rO aEE dN bD bJ aI)) hP mk_123 14 rfl rfl rfl
    refine yW hP hD hS hA (yS mk_123) (aAi mk_123) hm.1 hm.2 (aAk _) (zW _) (zF (As := [.int v_6]) (rest := [.int aCw]) C0 hP hD hS (yS mk_123) hm.1 (aAl _) 1 5 rfl rfl (c_X5_reachedBy l dC dI cI cC cZ cB cJ xH xB vI uJ rW uQ uP uO tJ jJ mY pG pD pE eO H.size v_6 aCw rJ pX rO aEE dN bD bJ aI _ hp) q_430 q_472 q_432 q_433 aRn h_X5_reachedBy rfl rfl ⟨lbz rfl, lbz rfl⟩ rfl rfl hl.1 rfl (lv_room (lbz rfl)) aTk.2.2.2.2.2.2.2.2.2.2.1 ⟨Nat.zero_le _, Nat.zero_le _⟩) (fun r_7 u H locs hp hP hD hS => ?_)
    have hPD := PDm (ws' := (wd_X9_broken cI cC cZ cB cJ a_x xI xH xB vI wY xX yA xY uD uJ rW uQ uP uO xO tJ jJ mY pG pD pE eO rG aCw rJ pX rO aEE dN bD bJ aI uU gF qF mX oE dY jE eW eY dU fY gJ jG nU qB jK)) hP hD 14 rfl rfl rfl
    have hP := hPD.1
    have hD := hPD.2
    refine lv_iconst (v := (-1)) hx hb aTk.2.2.2.2.2.2.2.2.2.2.2.1 aEJ ?_
    refine lv_ixor hx hb aTk.2.2.2.2.2.2.2.2.2.2.2.2.1 ?_
    refine lv_iand hx hb aTk.2.2.2.2.2.2.2.2.2.2.2.2.2.1 ?_
    refine lv_topi (fun v_8 ev_8 => ?_)
    have hp := hp v_8 ev_8
    refine lv_istore_n (lv' := [(3, .int v_8), (2, .int v_6), (0, .ref a_x), (1, .int p0)]) hx hb aTk.2.2.2.2.2.2.2.2.2.2.2.2.2.2.1 rfl hl (by decide) rfl (fun ls hl => ?_)
    refine lv_aload_n hx hb aTk.2.2.2.2.2.2.2.2.2.2.2.2.2.2.2 rfl (lv_at hl 2 rfl) ?_
    refine lv_iload_n hx hb aVH.1 rfl (lv_at hl 0 rfl) ?_
    have hm := mgk (wc := (wd_X9_tell cI cC cZ cB cJ a_x xI xH xB vI wY xX yA xY uD rG qB jK)) hP mk_121 14 rfl rfl rfl
    refine aBn hP hD hS hA (yS mk_121) (aAi mk_121) hm.1 hm.2 (aAk _) (zW _) (zF (As := [.int v_8]) (rest := []) C0 hP hD hS (yS mk_121) hm.1 (aAl _) 0 9 rfl rfl (c_X9_tell l dC dI cI cC cZ cB cJ a_x xI xH xB vI wY xX yA xY uD rG H.size v_8 qB jK _ hp) q_373 q_376 q_374 q_375 aIl h_X9_tell rfl rfl ⟨lbz rfl, lbz rfl⟩ rfl rfl hl.1 rfl (lv_room (lbz rfl)) aVH.2.1 ⟨Nat.zero_le _, Nat.zero_le _⟩) (fun u H locs hp hP hD hS => ?_)
    obtain ⟨ro_size_9, ro_numbers_10⟩ := u
    have hPD := PDm (ws' := (wd_X9_broken cI cC cZ cB cJ a_x xI xH xB vI wY xX yA xY uD uJ rW uQ uP uO xO tJ jJ mY pG pD pE eO rG aCw rJ pX rO aEE dN bD bJ aI uU gF qF mX oE dY jE eW eY dU fY gJ jG nU ro_size_9 ro_numbers_10)) hP hD 14 rfl rfl rfl
    have hP := hPD.1
    have hD := hPD.2
    refine lv_aload_n hx hb aVH.2.2.1 rfl (lv_at hl 2 rfl) ?_
    refine va_get (D := (dC, dI)) (ci := 9) (v := .ref xH) (C := RX9) (T := TX9) (N := 9) hx hb hts aC3 hown hK hP 0 rfl rfl 1 (lbz rfl) (hts _ aOt) (fun _ h9 => h9) rfl aVH.2.2.2.1 ?_
    refine lv_aload_n hx hb aVH.2.2.2.2.1 rfl (lv_at hl 2 rfl) ?_
    refine va_get (D := (dC, dI)) (ci := 9) (v := .ref xH) (C := RX9) (T := TX9) (N := 9) hx hb hts aC3 hown hK hP 0 rfl rfl 1 (lbz rfl) (hts _ aOt) (fun _ h9 => h9) rfl aVH.2.2.2.2.2.1 ?_
    refine va_get (D := (dC, dI)) (ci := 5) (v := .int aCw) (C := RX5) (T := TX5) (N := 11) hx hb hts i_X5 hown hK hP 1 rfl rfl 7 (lbz rfl) (hts _ q_462) (fun _ h9 => h9) rfl aVH.2.2.2.2.2.2.1 ?_
    refine lv_iload_n hx hb aVH.2.2.2.2.2.2.2.1 rfl (lv_at hl 0 rfl) ?_
    refine lv_iconst (v := (-1)) hx hb aVH.2.2.2.2.2.2.2.2.1 aEJ ?_
    refine lv_ixor hx hb aVH.2.2.2.2.2.2.2.2.2.1 ?_
    refine lv_iand hx hb aVH.2.2.2.2.2.2.2.2.2.2.1 ?_
    refine lv_topi (fun aGH ev_11 => ?_)
    have hp := hp aGH ev_11
    refine lv_iload_n hx hb aVH.2.2.2.2.2.2.2.2.2.2.2.1 rfl (lv_at hl 1 rfl) ?_
    have hm := mgk (wc := (aFh cI cC cZ cB cJ xH xB vI uJ rW uQ uP uO tJ jJ mY pG pD pE eO aCw rJ pX rO aEE dN bD bJ aI)) hP mk_123 14 rfl rfl rfl
    refine yW hP hD hS hA (yS mk_123) (aAi mk_123) hm.1 hm.2 (aAk _) (zW _) (zF (As := [.int aGH, .int v_6]) (rest := []) C0 hP hD hS (yS mk_123) hm.1 (aAl _) 1 5 rfl rfl (c_X5_smallestCover l dC dI cI cC cZ cB cJ xH xB vI uJ rW uQ uP uO tJ jJ mY pG pD pE eO H.size aGH v_6 aCw rJ pX rO aEE dN bD bJ aI _ hp) q_464 q_467 q_465 q_466 aRn h_X5_smallestCover rfl rfl ⟨lbz rfl, lbz rfl⟩ rfl rfl hl.1 rfl (lv_room (lbz rfl)) aVH.2.2.2.2.2.2.2.2.2.2.2.2.1 ⟨Nat.zero_le _, Nat.zero_le _⟩) (fun r_12 u H locs hp hP hD hS => ?_)
    have hPD := PDm (ws' := (wd_X9_broken cI cC cZ cB cJ a_x xI xH xB vI wY xX yA xY uD uJ rW uQ uP uO xO tJ jJ mY pG pD pE eO rG aCw rJ pX rO aEE dN bD bJ aI uU gF qF mX oE dY jE eW eY dU fY gJ jG nU ro_size_9 ro_numbers_10)) hP hD 14 rfl rfl rfl
    have hP := hPD.1
    have hD := hPD.2
    have hm := mgk (wc := (aBh cI cC cZ cB cJ)) hP aJ7 14 rfl rfl rfl
    refine yW hP hD hS hA (yS aJ7) (aAi aJ7) hm.1 hm.2 (aAk _) (zW _) (aDn (As := [.int r_12]) (rest := []) C0 hP hD hS (yS aJ7) hm.1 (aAl _) (aBv l dC dI cI cC cZ cB cJ H.size r_12 _ hp) q_320 q_474 q_322 q_321 aBw rfl rfl ⟨lbz rfl, lbz rfl⟩ rfl rfl hl.1 rfl (lv_room (lbz rfl)) aVH.2.2.2.2.2.2.2.2.2.2.2.2.2.1 ⟨Nat.zero_le _, Nat.zero_le _⟩) (fun r_13 u H locs hp hP hD hS => ?_)
    have hPD := PDm (ws' := (wd_X9_broken cI cC cZ cB cJ a_x xI xH xB vI wY xX yA xY uD uJ rW uQ uP uO xO tJ jJ mY pG pD pE eO rG aCw rJ pX rO aEE dN bD bJ aI uU gF qF mX oE dY jE eW eY dU fY gJ jG nU ro_size_9 ro_numbers_10)) hP hD 14 rfl rfl rfl
    have hP := hPD.1
    have hD := hPD.2
    exact W.iret (v := r_13) hx hb hr (fun t ht hW => ⟨⟨r_13, (aCw, aEE, ro_size_9, ro_numbers_10), rfl, hp, by rw [ht]; exact hP, va_K.moved hW.alike hK, hD⟩, hS.F ht⟩) hS.2.2 aVH.2.2.2.2.2.2.2.2.2.2.2.2.2.2
  · have hp := hp.2 hc
    refine lv_iconst (v := (-1)) hx hb aWk.2.2.2.2.2.1 aEJ ?_
    exact W.iret (v := (-1)) hx hb hr (fun t ht hW => ⟨⟨(-1), (oY, rD, qB, jK), rfl, hp, by rw [ht]; exact hP, va_K.moved hW.alike hK, hD⟩, hS.F ht⟩) hS.2.2 aWk.2.2.2.2.2.2.1
abbrev aLK (cI cC cZ cB cJ : ClassId) (a_x xI xH xB vI wY xX yA xY uD uJ rW uQ uP uO xO tJ jJ mY pG pD pE eO uS tX uR rY tY rG : Nat) (oY rJ pX rO : Int32) (rD sG vQ : Nat -> Int32) (dN bD bJ aI : Int32) (uU gF pL qF mX oE dY : Nat -> Int32) (jE eW eY dU fY gJ jG nU pQ qI sY uG pY nJ : Int32) (qY qU pN : Nat -> Int32) (qB : Int32) (jK : Nat -> Int32) : va_W := [(a_x, .inr (9, [.ref xI, .ref xH, .ref xB, .ref vI, .ref wY, .ref xX, .ref yA, .ref xY, .ref uD])), (xH, .inr (5, [.ref xB, .ref vI, .ref uJ, .ref rW, .ref uQ, .ref uP, .ref uO, .int oY, .int rJ, .int pX, .int rO])), (uJ, .inl (cI, 8, .inl rD)), (rW, .inl (cI, 128, .inl sG)), (uQ, .inl (cI, 8, .inl vQ)), (xB, .inr (0, [.ref vI, .ref wY, .ref xO])), (vI, .inr (3, [.ref tJ, .ref jJ, .ref mY, .ref pG, .ref pD, .ref pE, .ref eO, .int dN, .int bD, .int bJ, .int aI])), (tJ, .inl (cI, 16, .inl uU)), (jJ, .inl (cI, 16, .inl gF)), (mY, .inl (cI, 16, .inl pL)), (pG, .inl (cI, 16, .inl qF)), (pD, .inl (cI, 8, .inl mX)), (pE, .inl (cI, 8, .inl oE)), (eO, .inl (cI, 5, .inl dY)), (wY, .inr (2, [.int jE, .int eW, .int eY, .int dU, .int fY, .int gJ, .int jG, .int nU])), (xO, .inr (7, [.ref uS, .ref tX, .ref uR, .ref rY, .ref tY, .int pQ, .int qI, .int sY, .int uG, .int pY, .int nJ])), (uS, .inl (cI, 7, .inl qY)), (uR, .inl (cI, 40, .inl qU)), (rY, .inl (cI, 40, .inl pN)), (yA, .inr (6, [.ref rG, .int qB])), (rG, .inl (cI, 16, .inl jK))]
abbrev q_X9_sweep (dC : Nat -> ClassId) (dI : Nat -> Nat -> Nat) (cI cC cZ cB cJ : ClassId) (A : Nat -> Prop) (a_x xI xH xB vI wY xX yA xY uD uJ rW uQ uP uO xO tJ jJ mY pG pD pE eO uS tX uR rY tY rG : Nat) (dN bD bJ aI : Int32) (uU gF pL qF mX oE dY : Nat -> Int32) (jE eW eY dU fY gJ jG nU pQ qI sY uG pY nJ : Int32) (pN : Nat -> Int32) (post : Int32 -> Int32 -> Int32 -> Int32 -> Int32 -> (Nat -> Int32) -> (Nat -> Int32) -> (Nat -> Int32) -> (Nat -> Int32) -> (Nat -> Int32) -> Int32 -> (Nat -> Int32) -> Prop) : Array Value -> State -> Outcome -> State -> Prop := va_Qi (fun (r : Int32) (u : Int32 × Int32 × Int32 × Int32 × (Nat -> Int32) × (Nat -> Int32) × (Nat -> Int32) × (Nat -> Int32) × (Nat -> Int32) × Int32 × (Nat -> Int32)) => post r u.1 u.2.1 u.2.2.1 u.2.2.2.1 u.2.2.2.2.1 u.2.2.2.2.2.1 u.2.2.2.2.2.2.1 u.2.2.2.2.2.2.2.1 u.2.2.2.2.2.2.2.2.1 u.2.2.2.2.2.2.2.2.2.1 u.2.2.2.2.2.2.2.2.2.2) (fun u t => gB (dC, dI) (tyl cI cC cZ cB cJ) A (aLK cI cC cZ cB cJ a_x xI xH xB vI wY xX yA xY uD uJ rW uQ uP uO xO tJ jJ mY pG pD pE eO uS tX uR rY tY rG u.1 u.2.1 u.2.2.1 u.2.2.2.1 u.2.2.2.2.1 u.2.2.2.2.2.1 u.2.2.2.2.2.2.1 dN bD bJ aI uU gF pL qF mX oE dY jE eW eY dU fY gJ jG nU pQ qI sY uG pY nJ u.2.2.2.2.2.2.2.1 u.2.2.2.2.2.2.2.2.1 pN u.2.2.2.2.2.2.2.2.2.1 u.2.2.2.2.2.2.2.2.2.2) t) A
abbrev rm_X9_sweep : Room := { frames := 5, cells := 0, slots := 0, locals := 115 }
section S_X9_sweep
variable {p : Program} {l : Launch} {e : Env} {s : State} {m : MethodId} {args : Array Value} {below : List Frame} {meth : Method} {c : Code} {dC : Nat -> ClassId} {dI : Nat -> Nat -> Nat} {cI cC cZ cB cJ : ClassId} {A : Nat -> Prop} {a_x xI xH xB vI wY xX yA xY uD uJ rW uQ uP uO xO tJ jJ mY pG pD pE eO uS tX uR rY tY rG : Nat} {dN bD bJ aI : Int32} {uU gF pL qF mX oE dY : Nat -> Int32} {jE eW eY dU fY gJ jG nU pQ qI sY uG pY nJ : Int32} {pN : Nat -> Int32} {post : Int32 -> Int32 -> Int32 -> Int32 -> Int32 -> (Nat -> Int32) -> (Nat -> Int32) -> (Nat -> Int32) -> (Nat -> Int32) -> (Nat -> Int32) -> Int32 -> (Nat -> Int32) -> Prop}
def ws_X9_sweep_121 (post : Int32 -> Int32 -> Int32 -> Int32 -> Int32 -> (Nat -> Int32) -> (Nat -> Int32) -> (Nat -> Int32) -> (Nat -> Int32) -> (Nat -> Int32) -> Int32 -> (Nat -> Int32) -> Prop) (K37 : Int32 -> Int32 -> Int32 -> Int32 -> Int32 -> Int32 -> Int32 -> Int32 -> Int32 -> (Nat -> Int32) -> (Nat -> Int32) -> (Nat -> Int32) -> (Nat -> Int32) -> (Nat -> Int32) -> Int32 -> (Nat -> Int32) -> Prop) (dN bD : Int32) (uU gF pL qF mX oE dY : Nat -> Int32) (jE eW eY dU fY gJ jG pQ : Int32) (pN : Nat -> Int32) (x1 x2 x3 x4 x5 oY rJ pX rO : Int32) (rD sG vQ qY qU : Nat -> Int32) (qB : Int32) (jK : Nat -> Int32) : Prop := ∀ aEp : Int32, aEp = x5 + 1 -> K37 x1 x2 x3 x4 aEp oY rJ pX rO rD sG vQ qY qU qB jK
set_option maxHeartbeats 4000000 in
set_option maxRecDepth 100000 in
theorem ks_X9_sweep_121 (C0 : gc aDh (some .int) 8 RX9 (dC, dI) (tyl cI cC cZ cB cJ) A p s m args meth c) {K37 : Int32 -> Int32 -> Int32 -> Int32 -> Int32 -> Int32 -> Int32 -> Int32 -> Int32 -> (Nat -> Int32) -> (Nat -> Int32) -> (Nat -> Int32) -> (Nat -> Int32) -> (Nat -> Int32) -> Int32 -> (Nat -> Int32) -> Prop} (hK37 : ∀ (x1 : Int32) (x2 : Int32) (x3 : Int32) (x4 : Int32) (x5 : Int32) (oY : Int32) (rJ : Int32) (pX : Int32) (rO : Int32) (rD : Nat -> Int32) (sG : Nat -> Int32) (vQ : Nat -> Int32) (qY : Nat -> Int32) (qU : Nat -> Int32) (qB : Int32) (jK : Nat -> Int32) (H : Heap) (locs : List Loc) (ls : Array Slot), K37 x1 x2 x3 x4 x5 oY rJ pX rO rD sG vQ qY qU qB jK -> va_P (dC, dI) classes (aLK cI cC cZ cB cJ a_x xI xH xB vI wY xX yA xY uD uJ rW uQ uP uO xO tJ jJ mY pG pD pE eO uS tX uR rY tY rG oY rJ pX rO rD sG vQ dN bD bJ aI uU gF pL qF mX oE dY jE eW eY dU fY gJ jG nU pQ qI sY uG pY nJ qY qU pN qB jK) H -> va_D A (aLK cI cC cZ cB cJ a_x xI xH xB vI wY xX yA xY uD uJ rW uQ uP uO xO tJ jJ mY pG pD pE eO uS tX uR rY tY rG oY rJ pX rO rD sG vQ dN bD bJ aI uU gF pL qF mX oE dY jE eW eY dU fY gJ jG nU pQ qI sY uG pY nJ qY qU pN qB jK) -> va_S A s.heap H locs -> lv_has ls 8 [(0, .ref a_x), (1, .int x1), (2, .int x2), (3, .int x3), (4, .int x4), (5, .int x5)] -> W p l e rm_X9_sweep s m args below meth c H locs 0 0 (MQ below (q_X9_sweep dC dI cI cC cZ cB cJ A a_x xI xH xB vI wY xX yA xY uD uJ rW uQ uP uO xO tJ jJ mY pG pD pE eO uS tX uR rY tY rG dN bD bJ aI uU gF pL qF mX oE dY jE eW eY dU fY gJ jG nU pQ qI sY uG pY nJ pN post) args s 0 0 A) (F0 m 37 ls [])) : ∀ (x1 x2 x3 x4 x5 oY rJ pX rO : Int32) (rD sG vQ qY qU : Nat -> Int32) (qB : Int32) (jK : Nat -> Int32) (H : Heap) (locs : List Loc) (ls : Array Slot), (ws_X9_sweep_121 post K37 dN bD uU gF pL qF mX oE dY jE eW eY dU fY gJ jG pQ pN) x1 x2 x3 x4 x5 oY rJ pX rO rD sG vQ qY qU qB jK -> va_P (dC, dI) classes (aLK cI cC cZ cB cJ a_x xI xH xB vI wY xX yA xY uD uJ rW uQ uP uO xO tJ jJ mY pG pD pE eO uS tX uR rY tY rG oY rJ pX rO rD sG vQ dN bD bJ aI uU gF pL qF mX oE dY jE eW eY dU fY gJ jG nU pQ qI sY uG pY nJ qY qU pN qB jK) H -> va_D A (aLK cI cC cZ cB cJ a_x xI xH xB vI wY xX yA xY uD uJ rW uQ uP uO xO tJ jJ mY pG pD pE eO uS tX uR rY tY rG oY rJ pX rO rD sG vQ dN bD bJ aI uU gF pL qF mX oE dY jE eW eY dU fY gJ jG nU pQ qI sY uG pY nJ qY qU pN qB jK) -> va_S A s.heap H locs -> lv_has ls 8 [(0, .ref a_x), (1, .int x1), (2, .int x2), (3, .int x3), (4, .int x4), (5, .int x5)] -> W p l e rm_X9_sweep s m args below meth c H locs 0 0 (MQ below (q_X9_sweep dC dI cI cC cZ cB cJ A a_x xI xH xB vI wY xX yA xY uD uJ rW uQ uP uO xO tJ jJ mY pG pD pE eO uS tX uR rY tY rG dN bD bJ aI uU gF pL qF mX oE dY jE eW eY dU fY gJ jG nU pQ qI sY uG pY nJ pN post) args s 0 0 A) (F0 m 121 ls []) := by
  obtain ⟨hx, hb, hr, hml, hown, hts, hlocks, hA, hK, hN, tL, tM, hZL, hTL, hZM, hTM, hZX⟩ := id C0
  intro x1 x2 x3 x4 x5 oY rJ pX rO rD sG vQ qY qU qB jK H locs ls hp hP hD hS hl
  unfold ws_X9_sweep_121 at hp
  obtain ⟨aEp, ev_12⟩ : ∃ y : Int32, y = x5 + 1 := ⟨_, rfl⟩
  refine lv_iinc (v := aEp) (lv' := [(5, .int aEp), (0, .ref a_x), (1, .int x1), (2, .int x2), (3, .int x3), (4, .int x4)]) hx hb aW4.2.2.2.2.2.2.2.2.2.2.2.2.2.1 hl (k := 5) rfl (by rw [ev_12]; rfl) (by decide) rfl (fun ls hl => ?_)
  have hp := hp aEp ev_12
  refine lv_goto (tgt := 37) hx hb aW4.2.2.2.2.2.2.2.2.2.2.2.2.2.2.1 (by decide) ?_
  exact hK37 x1 x2 x3 x4 aEp oY rJ pX rO rD sG vQ qY qU qB jK H locs ls hp hP hD hS (lv_sub hl [1, 2, 3, 4, 5, 0] rfl)
def ws_X9_sweep_111 (post : Int32 -> Int32 -> Int32 -> Int32 -> Int32 -> (Nat -> Int32) -> (Nat -> Int32) -> (Nat -> Int32) -> (Nat -> Int32) -> (Nat -> Int32) -> Int32 -> (Nat -> Int32) -> Prop) (K37 : Int32 -> Int32 -> Int32 -> Int32 -> Int32 -> Int32 -> Int32 -> Int32 -> Int32 -> (Nat -> Int32) -> (Nat -> Int32) -> (Nat -> Int32) -> (Nat -> Int32) -> (Nat -> Int32) -> Int32 -> (Nat -> Int32) -> Prop) (dN bD : Int32) (uU gF pL qF mX oE dY : Nat -> Int32) (jE eW eY dU fY gJ jG pQ : Int32) (pN : Nat -> Int32) (x1 x5 x6 x7 oY rJ pX rO : Int32) (rD sG vQ qY qU : Nat -> Int32) (qB : Int32) (jK : Nat -> Int32) : Prop := ws_X9_sweep_121 post K37 dN bD uU gF pL qF mX oE dY jE eW eY dU fY gJ jG pQ pN x1 x5 x6 x7 x5 oY rJ pX rO rD sG vQ qY qU qB jK
set_option maxHeartbeats 4000000 in
set_option maxRecDepth 100000 in
theorem ks_X9_sweep_111 (C0 : gc aDh (some .int) 8 RX9 (dC, dI) (tyl cI cC cZ cB cJ) A p s m args meth c) {K37 : Int32 -> Int32 -> Int32 -> Int32 -> Int32 -> Int32 -> Int32 -> Int32 -> Int32 -> (Nat -> Int32) -> (Nat -> Int32) -> (Nat -> Int32) -> (Nat -> Int32) -> (Nat -> Int32) -> Int32 -> (Nat -> Int32) -> Prop} (hK37 : ∀ (x1 : Int32) (x2 : Int32) (x3 : Int32) (x4 : Int32) (x5 : Int32) (oY : Int32) (rJ : Int32) (pX : Int32) (rO : Int32) (rD : Nat -> Int32) (sG : Nat -> Int32) (vQ : Nat -> Int32) (qY : Nat -> Int32) (qU : Nat -> Int32) (qB : Int32) (jK : Nat -> Int32) (H : Heap) (locs : List Loc) (ls : Array Slot), K37 x1 x2 x3 x4 x5 oY rJ pX rO rD sG vQ qY qU qB jK -> va_P (dC, dI) classes (aLK cI cC cZ cB cJ a_x xI xH xB vI wY xX yA xY uD uJ rW uQ uP uO xO tJ jJ mY pG pD pE eO uS tX uR rY tY rG oY rJ pX rO rD sG vQ dN bD bJ aI uU gF pL qF mX oE dY jE eW eY dU fY gJ jG nU pQ qI sY uG pY nJ qY qU pN qB jK) H -> va_D A (aLK cI cC cZ cB cJ a_x xI xH xB vI wY xX yA xY uD uJ rW uQ uP uO xO tJ jJ mY pG pD pE eO uS tX uR rY tY rG oY rJ pX rO rD sG vQ dN bD bJ aI uU gF pL qF mX oE dY jE eW eY dU fY gJ jG nU pQ qI sY uG pY nJ qY qU pN qB jK) -> va_S A s.heap H locs -> lv_has ls 8 [(0, .ref a_x), (1, .int x1), (2, .int x2), (3, .int x3), (4, .int x4), (5, .int x5)] -> W p l e rm_X9_sweep s m args below meth c H locs 0 0 (MQ below (q_X9_sweep dC dI cI cC cZ cB cJ A a_x xI xH xB vI wY xX yA xY uD uJ rW uQ uP uO xO tJ jJ mY pG pD pE eO uS tX uR rY tY rG dN bD bJ aI uU gF pL qF mX oE dY jE eW eY dU fY gJ jG nU pQ qI sY uG pY nJ pN post) args s 0 0 A) (F0 m 37 ls [])) : ∀ (x1 x5 x6 x7 oY rJ pX rO : Int32) (rD sG vQ qY qU : Nat -> Int32) (qB : Int32) (jK : Nat -> Int32) (H : Heap) (locs : List Loc) (ls : Array Slot), (ws_X9_sweep_111 post K37 dN bD uU gF pL qF mX oE dY jE eW eY dU fY gJ jG pQ pN) x1 x5 x6 x7 oY rJ pX rO rD sG vQ qY qU qB jK -> va_P (dC, dI) classes (aLK cI cC cZ cB cJ a_x xI xH xB vI wY xX yA xY uD uJ rW uQ uP uO xO tJ jJ mY pG pD pE eO uS tX uR rY tY rG oY rJ pX rO rD sG vQ dN bD bJ aI uU gF pL qF mX oE dY jE eW eY dU fY gJ jG nU pQ qI sY uG pY nJ qY qU pN qB jK) H -> va_D A (aLK cI cC cZ cB cJ a_x xI xH xB vI wY xX yA xY uD uJ rW uQ uP uO xO tJ jJ mY pG pD pE eO uS tX uR rY tY rG oY rJ pX rO rD sG vQ dN bD bJ aI uU gF pL qF mX oE dY jE eW eY dU fY gJ jG nU pQ qI sY uG pY nJ qY qU pN qB jK) -> va_S A s.heap H locs -> lv_has ls 8 [(0, .ref a_x), (1, .int x1), (5, .int x5), (6, .int x6), (7, .int x7)] -> W p l e rm_X9_sweep s m args below meth c H locs 0 0 (MQ below (q_X9_sweep dC dI cI cC cZ cB cJ A a_x xI xH xB vI wY xX yA xY uD uJ rW uQ uP uO xO tJ jJ mY pG pD pE eO uS tX uR rY tY rG dN bD bJ aI uU gF pL qF mX oE dY jE eW eY dU fY gJ jG nU pQ qI sY uG pY nJ pN post) args s 0 0 A) (F0 m 111 ls []) := by
  obtain ⟨hx, hb, hr, hml, hown, hts, hlocks, hA, hK, hN, tL, tM, hZL, hTL, hZM, hTM, hZX⟩ := id C0
  intro x1 x5 x6 x7 oY rJ pX rO rD sG vQ qY qU qB jK H locs ls hp hP hD hS hl
  unfold ws_X9_sweep_111 at hp
  refine lv_iload hx hb aW4.2.2.2.2.2.2.2.1 (lv_at hl 2 rfl) ?_
  refine lv_istore_n (lv' := [(2, .int x5), (0, .ref a_x), (1, .int x1), (5, .int x5), (6, .int x6), (7, .int x7)]) hx hb aW4.2.2.2.2.2.2.2.2.1 rfl hl (by decide) rfl (fun ls hl => ?_)
  refine lv_iload hx hb aW4.2.2.2.2.2.2.2.2.2.1 (lv_at hl 4 rfl) ?_
  refine lv_istore_n (lv' := [(3, .int x6), (2, .int x5), (0, .ref a_x), (1, .int x1), (5, .int x5), (6, .int x6), (7, .int x7)]) hx hb aW4.2.2.2.2.2.2.2.2.2.2.1 rfl hl (by decide) rfl (fun ls hl => ?_)
  refine lv_iload hx hb aW4.2.2.2.2.2.2.2.2.2.2.2.1 (lv_at hl 6 rfl) ?_
  refine lv_istore (lv' := [(4, .int x7), (3, .int x6), (2, .int x5), (0, .ref a_x), (1, .int x1), (5, .int x5), (6, .int x6), (7, .int x7)]) hx hb aW4.2.2.2.2.2.2.2.2.2.2.2.2.1 hl (by decide) rfl (fun ls hl => ?_)
  exact ks_X9_sweep_121 C0 hK37 x1 x5 x6 x7 x5 oY rJ pX rO rD sG vQ qY qU qB jK H locs ls hp hP hD hS (lv_sub hl [3, 4, 2, 1, 0, 5] rfl)
def ws_X9_sweep_37 (post : Int32 -> Int32 -> Int32 -> Int32 -> Int32 -> (Nat -> Int32) -> (Nat -> Int32) -> (Nat -> Int32) -> (Nat -> Int32) -> (Nat -> Int32) -> Int32 -> (Nat -> Int32) -> Prop) (next : Int32 -> Int32 -> Int32 -> Int32 -> Int32 -> Int32 -> Int32 -> Int32 -> Int32 -> (Nat -> Int32) -> (Nat -> Int32) -> (Nat -> Int32) -> (Nat -> Int32) -> (Nat -> Int32) -> Int32 -> (Nat -> Int32) -> Prop) (dN bD : Int32) (uU gF pL qF mX oE dY : Nat -> Int32) (jE eW eY dU fY gJ jG pQ : Int32) (pN : Nat -> Int32) (x1 x2 x3 x4 x5 oY rJ pX rO : Int32) (rD sG vQ qY qU : Nat -> Int32) (qB : Int32) (jK : Nat -> Int32) : Prop := aHs (fun r_6 => (r_6 < x5 -> aPf (fun ro_size_7 aO7 => post x3 oY rJ pX rO rD sG vQ qY qU ro_size_7 aO7) x2 x4 qB jK) /\ (¬ r_6 < x5 -> aPV (fun r_9 => ∀ aEr : Int32, aEr = oY &&& r_9 -> aVC (fun r_11 => (r_11 < x3 -> ws_X9_sweep_121 post next dN bD uU gF pL qF mX oE dY jE eW eY dU fY gJ jG pQ pN x1 x2 x3 x4 x5 oY rJ pX rO rD sG vQ qY qU qB jK) /\ (¬ r_11 < x3 -> wp_X5_workSeconds (fun r_13 pl_moves_14 pl_picking_15 pl_downs_16 pl_many_17 => (x1 < r_13 -> ws_X9_sweep_121 post next dN bD uU gF pL qF mX oE dY jE eW eY dU fY gJ jG pQ pN x1 x2 x3 x4 x5 oY pl_moves_14 pl_picking_15 pl_downs_16 rD sG pl_many_17 qY qU qB jK) /\ (¬ x1 < r_13 -> (x3 < r_11 -> ws_X9_sweep_111 post next dN bD uU gF pL qF mX oE dY jE eW eY dU fY gJ jG pQ pN x1 x5 r_11 r_13 oY pl_moves_14 pl_picking_15 pl_downs_16 rD sG pl_many_17 qY qU qB jK) /\ (¬ x3 < r_11 -> (x4 <= r_13 -> ws_X9_sweep_121 post next dN bD uU gF pL qF mX oE dY jE eW eY dU fY gJ jG pQ pN x1 x2 x3 x4 x5 oY pl_moves_14 pl_picking_15 pl_downs_16 rD sG pl_many_17 qY qU qB jK) /\ (¬ x4 <= r_13 -> ws_X9_sweep_111 post next dN bD uU gF pL qF mX oE dY jE eW eY dU fY gJ jG pQ pN x1 x5 r_11 r_13 oY pl_moves_14 pl_picking_15 pl_downs_16 rD sG pl_many_17 qY qU qB jK)))) x5 oY rJ pX rO rD sG vQ dN bD mX oE dY fY)) aEr dN pL dU) x5 rD bD)) bD
noncomputable def wb_X9_sweep_37 (post : Int32 -> Int32 -> Int32 -> Int32 -> Int32 -> (Nat -> Int32) -> (Nat -> Int32) -> (Nat -> Int32) -> (Nat -> Int32) -> (Nat -> Int32) -> Int32 -> (Nat -> Int32) -> Prop) (dN bD : Int32) (uU gF pL qF mX oE dY : Nat -> Int32) (jE eW eY dU fY gJ jG pQ : Int32) (pN : Nat -> Int32) : Nat -> Int32 -> Int32 -> Int32 -> Int32 -> Int32 -> Int32 -> Int32 -> Int32 -> Int32 -> (Nat -> Int32) -> (Nat -> Int32) -> (Nat -> Int32) -> (Nat -> Int32) -> (Nat -> Int32) -> Int32 -> (Nat -> Int32) -> Prop := fun n => Nat.rec (motive := fun _ => Int32 -> Int32 -> Int32 -> Int32 -> Int32 -> Int32 -> Int32 -> Int32 -> Int32 -> (Nat -> Int32) -> (Nat -> Int32) -> (Nat -> Int32) -> (Nat -> Int32) -> (Nat -> Int32) -> Int32 -> (Nat -> Int32) -> Prop) (fun _ _ _ _ _ _ _ _ _ _ _ _ _ _ _ _ => False) (fun _ ih => ws_X9_sweep_37 post ih dN bD uU gF pL qF mX oE dY jE eW eY dU fY gJ jG pQ pN) n
set_option maxHeartbeats 4000000 in
set_option maxRecDepth 100000 in
theorem ks_X9_sweep_37 (C0 : gc aDh (some .int) 8 RX9 (dC, dI) (tyl cI cC cZ cB cJ) A p s m args meth c) {next : Int32 -> Int32 -> Int32 -> Int32 -> Int32 -> Int32 -> Int32 -> Int32 -> Int32 -> (Nat -> Int32) -> (Nat -> Int32) -> (Nat -> Int32) -> (Nat -> Int32) -> (Nat -> Int32) -> Int32 -> (Nat -> Int32) -> Prop} (hKn : ∀ (x1 : Int32) (x2 : Int32) (x3 : Int32) (x4 : Int32) (x5 : Int32) (oY : Int32) (rJ : Int32) (pX : Int32) (rO : Int32) (rD : Nat -> Int32) (sG : Nat -> Int32) (vQ : Nat -> Int32) (qY : Nat -> Int32) (qU : Nat -> Int32) (qB : Int32) (jK : Nat -> Int32) (H : Heap) (locs : List Loc) (ls : Array Slot), next x1 x2 x3 x4 x5 oY rJ pX rO rD sG vQ qY qU qB jK -> va_P (dC, dI) classes (aLK cI cC cZ cB cJ a_x xI xH xB vI wY xX yA xY uD uJ rW uQ uP uO xO tJ jJ mY pG pD pE eO uS tX uR rY tY rG oY rJ pX rO rD sG vQ dN bD bJ aI uU gF pL qF mX oE dY jE eW eY dU fY gJ jG nU pQ qI sY uG pY nJ qY qU pN qB jK) H -> va_D A (aLK cI cC cZ cB cJ a_x xI xH xB vI wY xX yA xY uD uJ rW uQ uP uO xO tJ jJ mY pG pD pE eO uS tX uR rY tY rG oY rJ pX rO rD sG vQ dN bD bJ aI uU gF pL qF mX oE dY jE eW eY dU fY gJ jG nU pQ qI sY uG pY nJ qY qU pN qB jK) -> va_S A s.heap H locs -> lv_has ls 8 [(0, .ref a_x), (1, .int x1), (2, .int x2), (3, .int x3), (4, .int x4), (5, .int x5)] -> W p l e rm_X9_sweep s m args below meth c H locs 0 0 (MQ below (q_X9_sweep dC dI cI cC cZ cB cJ A a_x xI xH xB vI wY xX yA xY uD uJ rW uQ uP uO xO tJ jJ mY pG pD pE eO uS tX uR rY tY rG dN bD bJ aI uU gF pL qF mX oE dY jE eW eY dU fY gJ jG nU pQ qI sY uG pY nJ pN post) args s 0 0 A) (F0 m 37 ls [])) : ∀ (x1 x2 x3 x4 x5 oY rJ pX rO : Int32) (rD sG vQ qY qU : Nat -> Int32) (qB : Int32) (jK : Nat -> Int32) (H : Heap) (locs : List Loc) (ls : Array Slot), (ws_X9_sweep_37 post next dN bD uU gF pL qF mX oE dY jE eW eY dU fY gJ jG pQ pN) x1 x2 x3 x4 x5 oY rJ pX rO rD sG vQ qY qU qB jK -> va_P (dC, dI) classes (aLK cI cC cZ cB cJ a_x xI xH xB vI wY xX yA xY uD uJ rW uQ uP uO xO tJ jJ mY pG pD pE eO uS tX uR rY tY rG oY rJ pX rO rD sG vQ dN bD bJ aI uU gF pL qF mX oE dY jE eW eY dU fY gJ jG nU pQ qI sY uG pY nJ qY qU pN qB jK) H -> va_D A (aLK cI cC cZ cB cJ a_x xI xH xB vI wY xX yA xY uD uJ rW uQ uP uO xO tJ jJ mY pG pD pE eO uS tX uR rY tY rG oY rJ pX rO rD sG vQ dN bD bJ aI uU gF pL qF mX oE dY jE eW eY dU fY gJ jG nU pQ qI sY uG pY nJ qY qU pN qB jK) -> va_S A s.heap H locs -> lv_has ls 8 [(0, .ref a_x), (1, .int x1), (2, .int x2), (3, .int x3), (4, .int x4), (5, .int x5)] -> W p l e rm_X9_sweep s m args below meth c H locs 0 0 (MQ below (q_X9_sweep dC dI cI cC cZ cB cJ A a_x xI xH xB vI wY xX yA xY uD uJ rW uQ uP uO xO tJ jJ mY pG pD pE eO uS tX uR rY tY rG dN bD bJ aI uU gF pL qF mX oE dY jE eW eY dU fY gJ jG nU pQ qI sY uG pY nJ pN post) args s 0 0 A) (F0 m 37 ls []) := by
  obtain ⟨hx, hb, hr, hml, hown, hts, hlocks, hA, hK, hN, tL, tM, hZL, hTL, hZM, hTM, hZX⟩ := id C0
  intro x1 x2 x3 x4 x5 oY rJ pX rO rD sG vQ qY qU qB jK H locs ls hp hP hD hS hl
  unfold ws_X9_sweep_37 at hp
  refine lv_iload hx hb aW2.2.2.2.2.2.1 (lv_at hl 5 rfl) ?_
  refine lv_aload_n hx hb aW2.2.2.2.2.2.2.1 rfl (lv_at hl 0 rfl) ?_
  refine va_get (D := (dC, dI)) (ci := 9) (v := .ref vI) (C := RX9) (T := TX9) (N := 9) hx hb hts aC3 hown hK hP 0 rfl rfl 3 (lbz rfl) (hts _ q_74) (fun _ h9 => h9) rfl aW2.2.2.2.2.2.2.2.1 ?_
  have hm := mgk (wc := (aHS cI cC cZ cB cJ vI tJ jJ mY pG pD pE eO dN bD bJ aI)) hP mk_142 21 rfl rfl rfl
  refine yW hP hD hS hA (yS mk_142) (aAi mk_142) hm.1 hm.2 (aAk _) (zW _) (zF (As := []) (rest := [.int x5]) C0 hP hD hS (yS mk_142) hm.1 (aAl _) 6 3 rfl rfl (aLl l dC dI cI cC cZ cB cJ vI tJ jJ mY pG pD pE eO H.size dN bD bJ aI _ hp) q_426 q_463 q_427 q_428 q_48 aLo rfl rfl ⟨lbz rfl, lbz rfl⟩ rfl rfl hl.1 rfl (lv_room (lbz rfl)) aW2.2.2.2.2.2.2.2.2.1 ⟨Nat.zero_le _, Nat.zero_le _⟩) (fun r_6 u H locs hp hP hD hS => ?_)
  have hPD := PDm (ws' := (aLK cI cC cZ cB cJ a_x xI xH xB vI wY xX yA xY uD uJ rW uQ uP uO xO tJ jJ mY pG pD pE eO uS tX uR rY tY rG oY rJ pX rO rD sG vQ dN bD bJ aI uU gF pL qF mX oE dY jE eW eY dU fY gJ jG nU pQ qI sY uG pY nJ qY qU pN qB jK)) hP hD 21 rfl rfl rfl
  have hP := hPD.1
  have hD := hPD.2
  refine lv_icmp_gt (tgt := 127) hx hb aW2.2.2.2.2.2.2.2.2.2.1 (by decide) (fun hc => ?_) (fun hc => ?_)
  · have hp := hp.1 hc
    refine lv_aload_n hx hb aW4.2.2.2.2.2.2.2.2.2.2.2.2.2.2.2 rfl (lv_at hl 0 rfl) ?_
    refine lv_iload_n hx hb eX9_sweep_128.1 rfl (lv_at hl 2 rfl) ?_
    refine lv_iload hx hb eX9_sweep_128.2.1 (lv_at hl 4 rfl) ?_
    have hm := mgk (wc := (aRW cI cC cZ cB cJ a_x xI xH xB vI wY xX yA xY uD rG qB jK)) hP mk_146 21 rfl rfl rfl
    refine aBn hP hD hS hA (yS mk_146) (aAi mk_146) hm.1 hm.2 (aAk _) (zW _) (zF (As := [.int x2, .int x4]) (rest := []) C0 hP hD hS (yS mk_146) hm.1 (aAl _) 0 9 rfl rfl (c_X9_tell_ l dC dI cI cC cZ cB cJ a_x xI xH xB vI wY xX yA xY uD rG H.size x2 x4 qB jK _ hp) q_377 q_380 q_378 q_379 aIl h_X9_tell_ rfl rfl ⟨lbz rfl, lbz rfl⟩ rfl rfl hl.1 rfl (lv_room (lbz rfl)) eX9_sweep_128.2.2.1 ⟨Nat.zero_le _, Nat.zero_le _⟩) (fun u H locs hp hP hD hS => ?_)
    obtain ⟨ro_size_7, aO7⟩ := u
    have hPD := PDm (ws' := (aLK cI cC cZ cB cJ a_x xI xH xB vI wY xX yA xY uD uJ rW uQ uP uO xO tJ jJ mY pG pD pE eO uS tX uR rY tY rG oY rJ pX rO rD sG vQ dN bD bJ aI uU gF pL qF mX oE dY jE eW eY dU fY gJ jG nU pQ qI sY uG pY nJ qY qU pN ro_size_7 aO7)) hP hD 21 rfl rfl rfl
    have hP := hPD.1
    have hD := hPD.2
    refine lv_iload_n hx hb eX9_sweep_128.2.2.2.1 rfl (lv_at hl 3 rfl) ?_
    exact W.iret (v := x3) hx hb hr (fun t ht hW => ⟨⟨x3, (oY, rJ, pX, rO, rD, sG, vQ, qY, qU, ro_size_7, aO7), rfl, hp, by rw [ht]; exact hP, va_K.moved hW.alike hK, hD⟩, hS.F ht⟩) hS.2.2 eX9_sweep_128.2.2.2.2
  · have hp := hp.2 hc
    refine lv_aload_n hx hb aW2.2.2.2.2.2.2.2.2.2.2.1 rfl (lv_at hl 0 rfl) ?_
    refine va_get (D := (dC, dI)) (ci := 9) (v := .ref xB) (C := RX9) (T := TX9) (N := 9) hx hb hts aC3 hown hK hP 0 rfl rfl 2 (lbz rfl) (hts _ q_146) (fun _ h9 => h9) rfl aW2.2.2.2.2.2.2.2.2.2.2.2.1 ?_
    refine lv_aload_n hx hb aW2.2.2.2.2.2.2.2.2.2.2.2.2.1 rfl (lv_at hl 0 rfl) ?_
    refine va_get (D := (dC, dI)) (ci := 9) (v := .ref xH) (C := RX9) (T := TX9) (N := 9) hx hb hts aC3 hown hK hP 0 rfl rfl 1 (lbz rfl) (hts _ aOt) (fun _ h9 => h9) rfl aW2.2.2.2.2.2.2.2.2.2.2.2.2.2.1 ?_
    refine va_get (D := (dC, dI)) (ci := 5) (v := .int oY) (C := RX5) (T := TX5) (N := 11) hx hb hts i_X5 hown hK hP 1 rfl rfl 7 (lbz rfl) (hts _ q_462) (fun _ h9 => h9) rfl aW2.2.2.2.2.2.2.2.2.2.2.2.2.2.2.1 ?_
    refine lv_aload_n hx hb aW2.2.2.2.2.2.2.2.2.2.2.2.2.2.2.2 rfl (lv_at hl 0 rfl) ?_
    refine va_get (D := (dC, dI)) (ci := 9) (v := .ref xH) (C := RX9) (T := TX9) (N := 9) hx hb hts aC3 hown hK hP 0 rfl rfl 1 (lbz rfl) (hts _ aOt) (fun _ h9 => h9) rfl aW3.1 ?_
    refine lv_iload hx hb aW3.2.1 (lv_at hl 5 rfl) ?_
    have hm := mgk (wc := (aHK cI cC cZ cB cJ xH xB vI uJ rW uQ uP uO tJ jJ mY pG pD pE eO oY rJ pX rO rD dN bD bJ aI)) hP mk_147 21 rfl rfl rfl
    refine yW hP hD hS hA (yS mk_147) (aAi mk_147) hm.1 hm.2 (aAk _) (zW _) (zF (As := [.int x5]) (rest := [.int oY, .ref xB]) C0 hP hD hS (yS mk_147) hm.1 (aAl _) 1 5 rfl rfl (c_X5_reachedBy l dC dI cI cC cZ cB cJ xH xB vI uJ rW uQ uP uO tJ jJ mY pG pD pE eO H.size x5 oY rJ pX rO rD dN bD bJ aI _ hp) q_430 q_472 q_432 q_433 aRn h_X5_reachedBy rfl rfl ⟨lbz rfl, lbz rfl⟩ rfl rfl hl.1 rfl (lv_room (lbz rfl)) aW3.2.2.1 ⟨Nat.zero_le _, Nat.zero_le _⟩) (fun r_9 u H locs hp hP hD hS => ?_)
    have hPD := PDm (ws' := (aLK cI cC cZ cB cJ a_x xI xH xB vI wY xX yA xY uD uJ rW uQ uP uO xO tJ jJ mY pG pD pE eO uS tX uR rY tY rG oY rJ pX rO rD sG vQ dN bD bJ aI uU gF pL qF mX oE dY jE eW eY dU fY gJ jG nU pQ qI sY uG pY nJ qY qU pN qB jK)) hP hD 21 rfl rfl rfl
    have hP := hPD.1
    have hD := hPD.2
    refine lv_iand hx hb aW3.2.2.2.1 ?_
    refine lv_topi (fun aEr aNB => ?_)
    have hp := hp aEr aNB
    have hm := mgk (wc := (aT8 cI cC cZ cB cJ xB vI wY xO tJ jJ mY pG pD pE eO dN bD bJ aI pL jE eW eY dU fY gJ jG nU)) hP mk_162 21 rfl rfl rfl
    refine yW hP hD hS hA (yS mk_162) (aAi mk_162) hm.1 hm.2 (aAk _) (zW _) (zF (As := [.int aEr]) (rest := []) C0 hP hD hS (yS mk_162) hm.1 (aAl _) 5 0 rfl rfl (c_X0_worthOf l dC dI cI cC cZ cB cJ xB vI wY xO tJ jJ mY pG pD pE eO H.size aEr dN bD bJ aI pL jE eW eY dU fY gJ jG nU _ hp) q_297 q_417 q_298 q_299 q_187 h_X0_worthOf rfl rfl ⟨lbz rfl, lbz rfl⟩ rfl rfl hl.1 rfl (lv_room (lbz rfl)) aW3.2.2.2.2.1 ⟨Nat.zero_le _, Nat.zero_le _⟩) (fun r_11 u H locs hp hP hD hS => ?_)
    have hPD := PDm (ws' := (aLK cI cC cZ cB cJ a_x xI xH xB vI wY xX yA xY uD uJ rW uQ uP uO xO tJ jJ mY pG pD pE eO uS tX uR rY tY rG oY rJ pX rO rD sG vQ dN bD bJ aI uU gF pL qF mX oE dY jE eW eY dU fY gJ jG nU pQ qI sY uG pY nJ qY qU pN qB jK)) hP hD 21 rfl rfl rfl
    have hP := hPD.1
    have hD := hPD.2
    refine lv_istore (lv' := [(6, .int r_11), (0, .ref a_x), (1, .int x1), (2, .int x2), (3, .int x3), (4, .int x4), (5, .int x5)]) hx hb aW3.2.2.2.2.2.1 hl (by decide) rfl (fun ls hl => ?_)
    refine lv_iload hx hb aW3.2.2.2.2.2.2.1 (lv_at hl 0 rfl) ?_
    refine lv_iload_n hx hb aW3.2.2.2.2.2.2.2.1 rfl (lv_at hl 4 rfl) ?_
    refine lv_icmp_lt (tgt := 121) hx hb aW3.2.2.2.2.2.2.2.2.1 (by decide) (fun hc => ?_) (fun hc => ?_)
    · have hp := hp.1 hc
      exact ks_X9_sweep_121 C0 hKn x1 x2 x3 x4 x5 oY rJ pX rO rD sG vQ qY qU qB jK H locs ls hp hP hD hS (lv_sub hl [1, 2, 3, 4, 5, 6] rfl)
    · have hp := hp.2 hc
      refine lv_aload_n hx hb aW3.2.2.2.2.2.2.2.2.2.1 rfl (lv_at hl 1 rfl) ?_
      refine va_get (D := (dC, dI)) (ci := 9) (v := .ref xH) (C := RX9) (T := TX9) (N := 9) hx hb hts aC3 hown hK hP 0 rfl rfl 1 (lbz rfl) (hts _ aOt) (fun _ h9 => h9) rfl aW3.2.2.2.2.2.2.2.2.2.2.1 ?_
      refine lv_iload hx hb aW3.2.2.2.2.2.2.2.2.2.2.2.1 (lv_at hl 6 rfl) ?_
      have hm := mgk (wc := (aCM cI cC cZ cB cJ xH xB vI uJ rW uQ uP uO wY xO tJ jJ mY pG pD pE eO oY rJ pX rO rD sG vQ dN bD bJ aI mX oE dY jE eW eY dU fY gJ jG nU)) hP mk_145 21 rfl rfl rfl
      refine yW hP hD hS hA (yS mk_145) (aAi mk_145) hm.1 hm.2 (aAk _) (zW _) (zF (As := [.int x5]) (rest := []) C0 hP hD hS (yS mk_145) hm.1 (aAl _) 1 5 rfl rfl (c_X5_workSeconds l dC dI cI cC cZ cB cJ xH xB vI uJ rW uQ uP uO wY xO tJ jJ mY pG pD pE eO H.size x5 oY rJ pX rO rD sG vQ dN bD bJ aI mX oE dY jE eW eY dU fY gJ jG nU _ hp) q_528 q_531 q_529 q_530 aRn h_X5_workSeconds rfl rfl ⟨lbz rfl, lbz rfl⟩ rfl rfl hl.1 rfl (lv_room (lbz rfl)) aW3.2.2.2.2.2.2.2.2.2.2.2.2.1 ⟨Nat.zero_le _, Nat.zero_le _⟩) (fun r_13 u H locs hp hP hD hS => ?_)
      obtain ⟨pl_moves_14, pl_picking_15, pl_downs_16, pl_many_17⟩ := u
      have hPD := PDm (ws' := (aLK cI cC cZ cB cJ a_x xI xH xB vI wY xX yA xY uD uJ rW uQ uP uO xO tJ jJ mY pG pD pE eO uS tX uR rY tY rG oY pl_moves_14 pl_picking_15 pl_downs_16 rD sG pl_many_17 dN bD bJ aI uU gF pL qF mX oE dY jE eW eY dU fY gJ jG nU pQ qI sY uG pY nJ qY qU pN qB jK)) hP hD 21 rfl rfl rfl
      have hP := hPD.1
      have hD := hPD.2
      refine lv_istore (lv' := [(7, .int r_13), (6, .int r_11), (0, .ref a_x), (1, .int x1), (2, .int x2), (3, .int x3), (4, .int x4), (5, .int x5)]) hx hb aW3.2.2.2.2.2.2.2.2.2.2.2.2.2.1 hl (by decide) rfl (fun ls hl => ?_)
      refine lv_iload hx hb aW3.2.2.2.2.2.2.2.2.2.2.2.2.2.2.1 (lv_at hl 0 rfl) ?_
      refine lv_iload_n hx hb aW3.2.2.2.2.2.2.2.2.2.2.2.2.2.2.2 rfl (lv_at hl 3 rfl) ?_
      refine lv_icmp_gt (tgt := 121) hx hb aW4.1 (by decide) (fun hc => ?_) (fun hc => ?_)
      · have hp := hp.1 hc
        exact ks_X9_sweep_121 C0 hKn x1 x2 x3 x4 x5 oY pl_moves_14 pl_picking_15 pl_downs_16 rD sG pl_many_17 qY qU qB jK H locs ls hp hP hD hS (lv_sub hl [2, 3, 4, 5, 6, 7] rfl)
      · have hp := hp.2 hc
        refine lv_iload hx hb aW4.2.1 (lv_at hl 1 rfl) ?_
        refine lv_iload_n hx hb aW4.2.2.1 rfl (lv_at hl 5 rfl) ?_
        refine lv_icmp_gt (tgt := 111) hx hb aW4.2.2.2.1 (by decide) (fun hc => ?_) (fun hc => ?_)
        · have hp := hp.1 hc
          exact ks_X9_sweep_111 C0 hKn x1 x5 r_11 r_13 oY pl_moves_14 pl_picking_15 pl_downs_16 rD sG pl_many_17 qY qU qB jK H locs ls hp hP hD hS (lv_sub hl [2, 3, 7, 1, 0] rfl)
        · have hp := hp.2 hc
          refine lv_iload hx hb aW4.2.2.2.2.1 (lv_at hl 0 rfl) ?_
          refine lv_iload hx hb aW4.2.2.2.2.2.1 (lv_at hl 6 rfl) ?_
          refine lv_icmp_ge (tgt := 121) hx hb aW4.2.2.2.2.2.2.1 (by decide) (fun hc => ?_) (fun hc => ?_)
          · have hp := hp.1 hc
            exact ks_X9_sweep_121 C0 hKn x1 x2 x3 x4 x5 oY pl_moves_14 pl_picking_15 pl_downs_16 rD sG pl_many_17 qY qU qB jK H locs ls hp hP hD hS (lv_sub hl [2, 3, 4, 5, 6, 7] rfl)
          · have hp := hp.2 hc
            exact ks_X9_sweep_111 C0 hKn x1 x5 r_11 r_13 oY pl_moves_14 pl_picking_15 pl_downs_16 rD sG pl_many_17 qY qU qB jK H locs ls hp hP hD hS (lv_sub hl [2, 3, 7, 1, 0] rfl)
set_option maxHeartbeats 4000000 in
set_option maxRecDepth 100000 in
theorem kb_X9_sweep_37 (C0 : gc aDh (some .int) 8 RX9 (dC, dI) (tyl cI cC cZ cB cJ) A p s m args meth c) : ∀ (n : Nat), ∀ (x1 x2 x3 x4 x5 oY rJ pX rO : Int32) (rD sG vQ qY qU : Nat -> Int32) (qB : Int32) (jK : Nat -> Int32) (H : Heap) (locs : List Loc) (ls : Array Slot), (wb_X9_sweep_37 post dN bD uU gF pL qF mX oE dY jE eW eY dU fY gJ jG pQ pN n) x1 x2 x3 x4 x5 oY rJ pX rO rD sG vQ qY qU qB jK -> va_P (dC, dI) classes (aLK cI cC cZ cB cJ a_x xI xH xB vI wY xX yA xY uD uJ rW uQ uP uO xO tJ jJ mY pG pD pE eO uS tX uR rY tY rG oY rJ pX rO rD sG vQ dN bD bJ aI uU gF pL qF mX oE dY jE eW eY dU fY gJ jG nU pQ qI sY uG pY nJ qY qU pN qB jK) H -> va_D A (aLK cI cC cZ cB cJ a_x xI xH xB vI wY xX yA xY uD uJ rW uQ uP uO xO tJ jJ mY pG pD pE eO uS tX uR rY tY rG oY rJ pX rO rD sG vQ dN bD bJ aI uU gF pL qF mX oE dY jE eW eY dU fY gJ jG nU pQ qI sY uG pY nJ qY qU pN qB jK) -> va_S A s.heap H locs -> lv_has ls 8 [(0, .ref a_x), (1, .int x1), (2, .int x2), (3, .int x3), (4, .int x4), (5, .int x5)] -> W p l e rm_X9_sweep s m args below meth c H locs 0 0 (MQ below (q_X9_sweep dC dI cI cC cZ cB cJ A a_x xI xH xB vI wY xX yA xY uD uJ rW uQ uP uO xO tJ jJ mY pG pD pE eO uS tX uR rY tY rG dN bD bJ aI uU gF pL qF mX oE dY jE eW eY dU fY gJ jG nU pQ qI sY uG pY nJ pN post) args s 0 0 A) (F0 m 37 ls []) := by
  intro n
  induction n with
  | zero =>
    intro x1 x2 x3 x4 x5 oY rJ pX rO rD sG vQ qY qU qB jK H locs ls hp
    exact False.elim hp
  | succ n ih =>
    intro x1 x2 x3 x4 x5 oY rJ pX rO rD sG vQ qY qU qB jK H locs ls hp
    exact ks_X9_sweep_37 C0 ih x1 x2 x3 x4 x5 oY rJ pX rO rD sG vQ qY qU qB jK H locs ls hp
end S_X9_sweep
def wp_X9_sweep (post : Int32 -> Int32 -> Int32 -> Int32 -> Int32 -> (Nat -> Int32) -> (Nat -> Int32) -> (Nat -> Int32) -> (Nat -> Int32) -> (Nat -> Int32) -> Int32 -> (Nat -> Int32) -> Prop) (p0 oY rJ pX rO : Int32) (rD sG vQ : Nat -> Int32) (dN bD : Int32) (uU gF pL qF mX oE dY : Nat -> Int32) (jE eW eY dU fY gJ jG pQ : Int32) (qY qU pN : Nat -> Int32) (qB : Int32) (jK : Nat -> Int32) : Prop := (p0 < 0 -> post (-1) oY rJ pX rO rD sG vQ qY qU qB jK) /\ (¬ p0 < 0 -> (p0 <= 9999 -> aZL (fun aBo aCo => wp_X5_timeAll (fun bBK ru_given_4 ru_stack_5 => ∃ n : Nat, wb_X9_sweep_37 post dN bD uU gF pL qF mX oE dY jE eW eY dU fY gJ jG pQ pN n p0 0 0 0 1 aBo rJ pX rO aCo bBK vQ ru_given_4 ru_stack_5 qB jK) aBo aCo sG dN bD uU gF pL mX oE dU pQ qY qU pN) oY rD dN bD uU gF qF mX oE dY jE eW eY gJ jG) /\ (¬ p0 <= 9999 -> post (-1) oY rJ pX rO rD sG vQ qY qU qB jK))
set_option maxHeartbeats 4000000 in
set_option maxRecDepth 100000 in
theorem c_X9_sweep (l : Launch) (dC : Nat -> ClassId) (dI : Nat -> Nat -> Nat) (cI cC cZ cB cJ : ClassId) (a_x xI xH xB vI wY xX yA xY uD uJ rW uQ uP uO xO tJ jJ mY pG pD pE eO uS tX uR rY tY rG sz : Nat) (p0 oY rJ pX rO : Int32) (rD sG vQ : Nat -> Int32) (dN bD bJ aI : Int32) (uU gF pL qF mX oE dY : Nat -> Int32) (jE eW eY dU fY gJ jG nU pQ qI sY uG pY nJ : Int32) (qY qU pN : Nat -> Int32) (qB : Int32) (jK : Nat -> Int32) (post : Int32 -> Int32 -> Int32 -> Int32 -> Int32 -> (Nat -> Int32) -> (Nat -> Int32) -> (Nat -> Int32) -> (Nat -> Int32) -> (Nat -> Int32) -> Int32 -> (Nat -> Int32) -> Prop) (hw : wp_X9_sweep post p0 oY rJ pX rO rD sG vQ dN bD uU gF pL qF mX oE dY jE eW eY dU fY gJ jG pQ qY qU pN qB jK) : Met l yX9_sweep (gw yX9_sweep aDh 8 (some .int)) rm_X9_sweep (va_Pc [.ref a_x, .int p0] (gPre (dC, dI) (tyl cI cC cZ cB cJ) (aLK cI cC cZ cB cJ a_x xI xH xB vI wY xX yA xY uD uJ rW uQ uP uO xO tJ jJ mY pG pD pE eO uS tX uR rY tY rG oY rJ pX rO rD sG vQ dN bD bJ aI uU gF pL qF mX oE dY jE eW eY dU fY gJ jG nU pQ qI sY uG pY nJ qY qU pN qB jK) sz)) (q_X9_sweep dC dI cI cC cZ cB cJ (va_A (aLK cI cC cZ cB cJ a_x xI xH xB vI wY xX yA xY uD uJ rW uQ uP uO xO tJ jJ mY pG pD pE eO uS tX uR rY tY rG oY rJ pX rO rD sG vQ dN bD bJ aI uU gF pL qF mX oE dY jE eW eY dU fY gJ jG nU pQ qI sY uG pY nJ qY qU pN qB jK) sz) a_x xI xH xB vI wY xX yA xY uD uJ rW uQ uP uO xO tJ jJ mY pG pD pE eO uS tX uR rY tY rG dN bD bJ aI uU gF pL qF mX oE dY jE eW eY dU fY gJ jG nU pQ qI sY uG pY nJ pN post) 0 0 (va_A (aLK cI cC cZ cB cJ a_x xI xH xB vI wY xX yA xY uD uJ rW uQ uP uO xO tJ jJ mY pG pD pE eO uS tX uR rY tY rG oY rJ pX rO rD sG vQ dN bD bJ aI uU gF pL qF mX oE dY jE eW eY dU fY gJ jG nU pQ qI sY uG pY nJ qY qU pN qB jK) sz) := by
  refine aBJ (own := RX9) (dC, dI) (tyl cI cC cZ cB cJ) (aLK cI cC cZ cB cJ a_x xI xH xB vI wY xX yA xY uD uJ rW uQ uP uO xO tJ jJ mY pG pD pE eO uS tX uR rY tY rG oY rJ pX rO rD sG vQ dN bD bJ aI uU gF pL qF mX oE dY jE eW eY dU fY gJ jG nU pQ qI sY uG pY nJ qY qU pN qB jK) sz [.ref a_x, .int p0] (fun A => q_X9_sweep dC dI cI cC cZ cB cJ A a_x xI xH xB vI wY xX yA xY uD uJ rW uQ uP uO xO tJ jJ mY pG pD pE eO uS tX uR rY tY rG dN bD bJ aI uU gF pL qF mX oE dY jE eW eY dU fY gJ jG nU pQ qI sY uG pY nJ pN post) pn_RX9 rfl (lbz rfl) ?_
  intro p e s m args below meth c A H locs ls C0 hP hD hS hl
  have hl : lv_has ls 8 [(0, .ref a_x), (1, .int p0)] := hl
  obtain ⟨hx, hb, hr, hml, hown, hts, hlocks, hA, hK, hN, tL, tM, hZL, hTL, hZM, hTM, hZX⟩ := id C0
  have hp := hw
  unfold wp_X9_sweep at hp
  refine lv_iload_n hx hb aVc.1 rfl (lv_at hl 1 rfl) ?_
  refine lv_if_lt (tgt := 11) hx hb aVc.2.1 (by decide) (fun hc => ?_) (fun hc => ?_)
  · have hp := hp.1 hc
    refine lv_iconst (v := (-1)) hx hb aVc.2.2.2.2.2.1 aEJ ?_
    exact W.iret (v := (-1)) hx hb hr (fun t ht hW => ⟨⟨(-1), (oY, rJ, pX, rO, rD, sG, vQ, qY, qU, qB, jK), rfl, hp, by rw [ht]; exact hP, va_K.moved hW.alike hK, hD⟩, hS.F ht⟩) hS.2.2 aVc.2.2.2.2.2.2.1
  · have hp := hp.2 hc
    refine lv_iload_n hx hb aVc.2.2.1 rfl (lv_at hl 1 rfl) ?_
    refine lv_sipush (v := 9999) hx hb aVc.2.2.2.1 sp_9999 ?_
    refine lv_icmp_le (tgt := 13) hx hb aVc.2.2.2.2.1 (by decide) (fun hc => ?_) (fun hc => ?_)
    · have hp := hp.1 hc
      refine lv_aload_n hx hb aVc.2.2.2.2.2.2.2.1 rfl (lv_at hl 0 rfl) ?_
      refine va_get (D := (dC, dI)) (ci := 9) (v := .ref xH) (C := RX9) (T := TX9) (N := 9) hx hb hts aC3 hown hK hP 0 rfl rfl 1 (lbz rfl) (hts _ aOt) (fun _ h9 => h9) rfl aVc.2.2.2.2.2.2.2.2.1 ?_
      have hm := mgk (wc := (aVN cI cC cZ cB cJ xH xB vI uJ rW uQ uP uO wY xO tJ jJ mY pG pD pE eO oY rJ pX rO rD dN bD bJ aI uU gF qF mX oE dY jE eW eY dU fY gJ jG nU)) hP mk_143 21 rfl rfl rfl
      refine aBn hP hD hS hA (yS mk_143) (aAi mk_143) hm.1 hm.2 (aAk _) (zW _) (zF (As := []) (rest := []) C0 hP hD hS (yS mk_143) hm.1 (aAl _) 1 5 rfl rfl (c_X5_look l dC dI cI cC cZ cB cJ xH xB vI uJ rW uQ uP uO wY xO tJ jJ mY pG pD pE eO H.size oY rJ pX rO rD dN bD bJ aI uU gF qF mX oE dY jE eW eY dU fY gJ jG nU _ hp) q_445 q_448 q_446 q_447 aRn h_X5_look rfl rfl ⟨lbz rfl, lbz rfl⟩ rfl rfl hl.1 rfl (lv_room (lbz rfl)) aVc.2.2.2.2.2.2.2.2.2.1 ⟨Nat.zero_le _, Nat.zero_le _⟩) (fun u H locs hp hP hD hS => ?_)
      obtain ⟨aBo, aCo⟩ := u
      have hPD := PDm (ws' := (aLK cI cC cZ cB cJ a_x xI xH xB vI wY xX yA xY uD uJ rW uQ uP uO xO tJ jJ mY pG pD pE eO uS tX uR rY tY rG aBo rJ pX rO aCo sG vQ dN bD bJ aI uU gF pL qF mX oE dY jE eW eY dU fY gJ jG nU pQ qI sY uG pY nJ qY qU pN qB jK)) hP hD 21 rfl rfl rfl
      have hP := hPD.1
      have hD := hPD.2
      refine lv_aload_n hx hb aVc.2.2.2.2.2.2.2.2.2.2.1 rfl (lv_at hl 0 rfl) ?_
      refine va_get (D := (dC, dI)) (ci := 9) (v := .ref xH) (C := RX9) (T := TX9) (N := 9) hx hb hts aC3 hown hK hP 0 rfl rfl 1 (lbz rfl) (hts _ aOt) (fun _ h9 => h9) rfl aVc.2.2.2.2.2.2.2.2.2.2.2.1 ?_
      have hm := mgk (wc := (aF4 cI cC cZ cB cJ xH xB vI uJ rW uQ uP uO wY xO tJ jJ mY pG pD pE eO uS tX uR rY tY aBo rJ pX rO aCo sG dN bD bJ aI uU gF pL mX oE jE eW eY dU fY gJ jG nU pQ qI sY uG pY nJ qY qU pN)) hP mk_144 21 rfl rfl rfl
      refine aBn hP hD hS hA (yS mk_144) (aAi mk_144) hm.1 hm.2 (aAk _) (zW _) (zF (As := []) (rest := []) C0 hP hD hS (yS mk_144) hm.1 (aAl _) 1 5 rfl rfl (c_X5_timeAll l dC dI cI cC cZ cB cJ xH xB vI uJ rW uQ uP uO wY xO tJ jJ mY pG pD pE eO uS tX uR rY tY H.size aBo rJ pX rO aCo sG dN bD bJ aI uU gF pL mX oE jE eW eY dU fY gJ jG nU pQ qI sY uG pY nJ qY qU pN _ hp) q_524 q_527 q_525 q_526 aRn h_X5_timeAll rfl rfl ⟨lbz rfl, lbz rfl⟩ rfl rfl hl.1 rfl (lv_room (lbz rfl)) aVc.2.2.2.2.2.2.2.2.2.2.2.2.1 ⟨Nat.zero_le _, Nat.zero_le _⟩) (fun u H locs hp hP hD hS => ?_)
      obtain ⟨bBK, ru_given_4, ru_stack_5⟩ := u
      have hPD := PDm (ws' := (aLK cI cC cZ cB cJ a_x xI xH xB vI wY xX yA xY uD uJ rW uQ uP uO xO tJ jJ mY pG pD pE eO uS tX uR rY tY rG aBo rJ pX rO aCo bBK vQ dN bD bJ aI uU gF pL qF mX oE dY jE eW eY dU fY gJ jG nU pQ qI sY uG pY nJ ru_given_4 ru_stack_5 pN qB jK)) hP hD 21 rfl rfl rfl
      have hP := hPD.1
      have hD := hPD.2
      refine lv_iconst (v := 0) hx hb aVc.2.2.2.2.2.2.2.2.2.2.2.2.2.1 aCi ?_
      refine lv_istore_n (lv' := [(2, .int 0), (0, .ref a_x), (1, .int p0)]) hx hb aVc.2.2.2.2.2.2.2.2.2.2.2.2.2.2.1 rfl hl (by decide) rfl (fun ls hl => ?_)
      refine lv_iconst (v := 0) hx hb aVc.2.2.2.2.2.2.2.2.2.2.2.2.2.2.2 aCi ?_
      refine lv_istore_n (lv' := [(3, .int 0), (2, .int 0), (0, .ref a_x), (1, .int p0)]) hx hb aW2.1 rfl hl (by decide) rfl (fun ls hl => ?_)
      refine lv_iconst (v := 0) hx hb aW2.2.1 aCi ?_
      refine lv_istore (lv' := [(4, .int 0), (3, .int 0), (2, .int 0), (0, .ref a_x), (1, .int p0)]) hx hb aW2.2.2.1 hl (by decide) rfl (fun ls hl => ?_)
      refine lv_iconst (v := 1) hx hb aW2.2.2.2.1 aDx ?_
      refine lv_istore (lv' := [(5, .int 1), (4, .int 0), (3, .int 0), (2, .int 0), (0, .ref a_x), (1, .int p0)]) hx hb aW2.2.2.2.2.1 hl (by decide) rfl (fun ls hl => ?_)
      obtain ⟨n9, hp⟩ := hp
      exact kb_X9_sweep_37 C0 n9 p0 0 0 0 1 aBo rJ pX rO aCo bBK vQ ru_given_4 ru_stack_5 qB jK H locs ls hp hP hD hS (lv_sub hl [4, 5, 3, 2, 1, 0] rfl)
    · have hp := hp.2 hc
      refine lv_iconst (v := (-1)) hx hb aVc.2.2.2.2.2.1 aEJ ?_
      exact W.iret (v := (-1)) hx hb hr (fun t ht hW => ⟨⟨(-1), (oY, rJ, pX, rO, rD, sG, vQ, qY, qU, qB, jK), rfl, hp, by rw [ht]; exact hP, va_K.moved hW.alike hK, hD⟩, hS.F ht⟩) hS.2.2 aVc.2.2.2.2.2.2.1
abbrev aLd (cI cC cZ cB cJ : ClassId) (xH xB vI uJ rW uQ uP uO : Nat) (oY rJ pX rO : Int32) (vV : Nat -> Int32) : va_W := [(xH, .inr (5, [.ref xB, .ref vI, .ref uJ, .ref rW, .ref uQ, .ref uP, .ref uO, .int oY, .int rJ, .int pX, .int rO])), (uO, .inl (cI, 301, .inl vV))]
abbrev q_X5_addToDusk (dC : Nat -> ClassId) (dI : Nat -> Nat -> Nat) (cI cC cZ cB cJ : ClassId) (A : Nat -> Prop) (xH xB vI uJ rW uQ uP uO : Nat) (oY rJ pX rO : Int32) (post : (Nat -> Int32) -> Prop) : Array Value -> State -> Outcome -> State -> Prop := va_Qv (fun (u : (Nat -> Int32)) => post u) (fun u t => gB (dC, dI) (tyl cI cC cZ cB cJ) A (aLd cI cC cZ cB cJ xH xB vI uJ rW uQ uP uO oY rJ pX rO u) t) A
abbrev rm_X5_addToDusk : Room := { frames := 0, cells := 0, slots := 0, locals := 0 }
section S_X5_addToDusk
variable {p : Program} {l : Launch} {e : Env} {s : State} {m : MethodId} {args : Array Value} {below : List Frame} {meth : Method} {c : Code} {dC : Nat -> ClassId} {dI : Nat -> Nat -> Nat} {cI cC cZ cB cJ : ClassId} {A : Nat -> Prop} {xH xB vI uJ rW uQ uP uO : Nat} {oY rJ pX rO : Int32} {post : (Nat -> Int32) -> Prop}
def ws_X5_addToDusk_52 (post : (Nat -> Int32) -> Prop) (K3 : Int32 -> Int32 -> Int32 -> (Nat -> Int32) -> Prop) (x2 x3 x4 : Int32) (vV : Nat -> Int32) : Prop := ∀ v_3 : Int32, v_3 = x4 + (-1) -> K3 x2 x3 v_3 vV
set_option maxHeartbeats 4000000 in
set_option maxRecDepth 100000 in
theorem ks_X5_addToDusk_52 (C0 : gc aFF none 6 RX5 (dC, dI) (tyl cI cC cZ cB cJ) A p s m args meth c) {K3 : Int32 -> Int32 -> Int32 -> (Nat -> Int32) -> Prop} (hK3 : ∀ (x2 : Int32) (x3 : Int32) (x4 : Int32) (vV : Nat -> Int32) (H : Heap) (locs : List Loc) (ls : Array Slot), K3 x2 x3 x4 vV -> va_P (dC, dI) classes (aLd cI cC cZ cB cJ xH xB vI uJ rW uQ uP uO oY rJ pX rO vV) H -> va_D A (aLd cI cC cZ cB cJ xH xB vI uJ rW uQ uP uO oY rJ pX rO vV) -> va_S A s.heap H locs -> lv_has ls 6 [(0, .ref xH), (2, .int x2), (3, .int x3), (4, .int x4)] -> W p l e rm_X5_addToDusk s m args below meth c H locs 0 0 (MQ below (q_X5_addToDusk dC dI cI cC cZ cB cJ A xH xB vI uJ rW uQ uP uO oY rJ pX rO post) args s 0 0 A) (F0 m 3 ls [])) : ∀ (x2 x3 x4 : Int32) (vV : Nat -> Int32) (H : Heap) (locs : List Loc) (ls : Array Slot), (ws_X5_addToDusk_52 post K3) x2 x3 x4 vV -> va_P (dC, dI) classes (aLd cI cC cZ cB cJ xH xB vI uJ rW uQ uP uO oY rJ pX rO vV) H -> va_D A (aLd cI cC cZ cB cJ xH xB vI uJ rW uQ uP uO oY rJ pX rO vV) -> va_S A s.heap H locs -> lv_has ls 6 [(0, .ref xH), (2, .int x2), (3, .int x3), (4, .int x4)] -> W p l e rm_X5_addToDusk s m args below meth c H locs 0 0 (MQ below (q_X5_addToDusk dC dI cI cC cZ cB cJ A xH xB vI uJ rW uQ uP uO oY rJ pX rO post) args s 0 0 A) (F0 m 52 ls []) := by
  obtain ⟨hx, hb, hr, hml, hown, hts, hlocks, hA, hK, hN, tL, tM, hZL, hTL, hZM, hTM, hZX⟩ := id C0
  intro x2 x3 x4 vV H locs ls hp hP hD hS hl
  unfold ws_X5_addToDusk_52 at hp
  obtain ⟨v_3, aGW⟩ : ∃ y : Int32, y = x4 + (-1) := ⟨_, rfl⟩
  refine lv_iinc (v := v_3) (lv' := [(4, .int v_3), (0, .ref xH), (2, .int x2), (3, .int x3)]) hx hb aMd.2.2.2.2.2.2.2.2.2.2.2.2.2.2.1 hl (k := 3) rfl (by rw [aGW]; rfl) (by decide) rfl (fun ls hl => ?_)
  have hp := hp v_3 aGW
  refine lv_goto (tgt := 3) hx hb aMd.2.2.2.2.2.2.2.2.2.2.2.2.2.2.2 (by decide) ?_
  exact hK3 x2 x3 v_3 vV H locs ls hp hP hD hS (lv_sub hl [1, 2, 3, 0] rfl)
def ws_X5_addToDusk_3 (post : (Nat -> Int32) -> Prop) (next : Int32 -> Int32 -> Int32 -> (Nat -> Int32) -> Prop) (x2 x3 x4 : Int32) (vV : Nat -> Int32) : Prop := (x4 < x2 -> post vV) /\ (¬ x4 < x2 -> ∀ v_1 : Int32, v_1 = x4 - x2 -> vp_in v_1 301 /\ (∀ v_2 : Int32, v_2 = vV v_1.toNatClampNeg -> (v_2 = (-2147483648) -> ws_X5_addToDusk_52 post next x2 x3 x4 vV) /\ (¬ v_2 = (-2147483648) -> ∀ v_4 : Int32, v_4 = v_2 + x3 -> vp_in x4 301 /\ ((v_4 <= (vV x4.toNatClampNeg) -> ws_X5_addToDusk_52 post next x2 x3 x4 vV) /\ (¬ v_4 <= (vV x4.toNatClampNeg) -> ∀ v_5 : Int32, v_5 = v_2 + x3 -> vp_in x4 301 /\ (ws_X5_addToDusk_52 post next x2 x3 x4 (upd vV x4.toNatClampNeg v_5)))))))
noncomputable def wb_X5_addToDusk_3 (post : (Nat -> Int32) -> Prop) : Nat -> Int32 -> Int32 -> Int32 -> (Nat -> Int32) -> Prop := fun n => Nat.rec (motive := fun _ => Int32 -> Int32 -> Int32 -> (Nat -> Int32) -> Prop) (fun _ _ _ _ => False) (fun _ ih => ws_X5_addToDusk_3 post ih) n
set_option maxHeartbeats 4000000 in
set_option maxRecDepth 100000 in
theorem ks_X5_addToDusk_3 (C0 : gc aFF none 6 RX5 (dC, dI) (tyl cI cC cZ cB cJ) A p s m args meth c) {next : Int32 -> Int32 -> Int32 -> (Nat -> Int32) -> Prop} (hKn : ∀ (x2 : Int32) (x3 : Int32) (x4 : Int32) (vV : Nat -> Int32) (H : Heap) (locs : List Loc) (ls : Array Slot), next x2 x3 x4 vV -> va_P (dC, dI) classes (aLd cI cC cZ cB cJ xH xB vI uJ rW uQ uP uO oY rJ pX rO vV) H -> va_D A (aLd cI cC cZ cB cJ xH xB vI uJ rW uQ uP uO oY rJ pX rO vV) -> va_S A s.heap H locs -> lv_has ls 6 [(0, .ref xH), (2, .int x2), (3, .int x3), (4, .int x4)] -> W p l e rm_X5_addToDusk s m args below meth c H locs 0 0 (MQ below (q_X5_addToDusk dC dI cI cC cZ cB cJ A xH xB vI uJ rW uQ uP uO oY rJ pX rO post) args s 0 0 A) (F0 m 3 ls [])) : ∀ (x2 x3 x4 : Int32) (vV : Nat -> Int32) (H : Heap) (locs : List Loc) (ls : Array Slot), (ws_X5_addToDusk_3 post next) x2 x3 x4 vV -> va_P (dC, dI) classes (aLd cI cC cZ cB cJ xH xB vI uJ rW uQ uP uO oY rJ pX rO vV) H -> va_D A (aLd cI cC cZ cB cJ xH xB vI uJ rW uQ uP uO oY rJ pX rO vV) -> va_S A s.heap H locs -> lv_has ls 6 [(0, .ref xH), (2, .int x2), (3, .int x3), (4, .int x4)] -> W p l e rm_X5_addToDusk s m args below meth c H locs 0 0 (MQ below (q_X5_addToDusk dC dI cI cC cZ cB cJ A xH xB vI uJ rW uQ uP uO oY rJ pX rO post) args s 0 0 A) (F0 m 3 ls []) := by
  obtain ⟨hx, hb, hr, hml, hown, hts, hlocks, hA, hK, hN, tL, tM, hZL, hTL, hZM, hTM, hZX⟩ := id C0
  intro x2 x3 x4 vV H locs ls hp hP hD hS hl
  unfold ws_X5_addToDusk_3 at hp
  refine lv_iload hx hb aOJ.2.2.1 (lv_at hl 3 rfl) ?_
  refine lv_iload_n hx hb aOJ.2.2.2.1 rfl (lv_at hl 1 rfl) ?_
  refine lv_icmp_lt (tgt := 58) hx hb aOJ.2.2.2.2.1 (by decide) (fun hc => ?_) (fun hc => ?_)
  · have hp := hp.1 hc
    exact W.vret hx hb hr (fun t ht hW => ⟨⟨vV, rfl, hp, by rw [ht]; exact hP, va_K.moved hW.alike hK, hD⟩, hS.F ht⟩) hS.2.2 dX5_addToDusk_58
  · have hp := hp.2 hc
    refine lv_aload_n hx hb aOJ.2.2.2.2.2.1 rfl (lv_at hl 0 rfl) ?_
    refine va_get (D := (dC, dI)) (ci := 5) (v := .ref uO) (C := RX5) (T := TX5) (N := 11) hx hb hts i_X5 hown hK hP 0 rfl rfl 6 (lbz rfl) (hts _ q_545) (fun _ h9 => h9) rfl aOJ.2.2.2.2.2.2.1 ?_
    refine lv_iload hx hb aOJ.2.2.2.2.2.2.2.1 (lv_at hl 3 rfl) ?_
    refine lv_iload_n hx hb aOJ.2.2.2.2.2.2.2.2.1 rfl (lv_at hl 1 rfl) ?_
    refine lv_isub hx hb aOJ.2.2.2.2.2.2.2.2.2.1 ?_
    refine lv_topi (fun v_1 aFJ => ?_)
    have hp := hp v_1 aFJ
    have hin := hp.1
    have hp := hp.2
    refine va_iald hx hb hK hP 1 0 rfl rfl hin aOJ.2.2.2.2.2.2.2.2.2.2.1 ?_
    refine lv_topi (fun v_2 aGO => ?_)
    have hp := hp v_2 aGO
    refine lv_istore (lv' := [(5, .int v_2), (0, .ref xH), (2, .int x2), (3, .int x3), (4, .int x4)]) hx hb aOJ.2.2.2.2.2.2.2.2.2.2.2.1 hl (by decide) rfl (fun ls hl => ?_)
    refine lv_iload hx hb aOJ.2.2.2.2.2.2.2.2.2.2.2.2.1 (lv_at hl 0 rfl) ?_
    refine lv_ldc (v := (-2147483648)) hx hb hown (hts _ q_546) aOJ.2.2.2.2.2.2.2.2.2.2.2.2.2.1 ?_
    refine lv_icmp_eq (tgt := 52) hx hb aOJ.2.2.2.2.2.2.2.2.2.2.2.2.2.2.1 (by decide) (fun hc => ?_) (fun hc => ?_)
    · have hp := hp.1 hc
      exact ks_X5_addToDusk_52 C0 hKn x2 x3 x4 vV H locs ls hp hP hD hS (lv_sub hl [1, 2, 3, 4] rfl)
    · have hp := hp.2 hc
      refine lv_iload hx hb aOJ.2.2.2.2.2.2.2.2.2.2.2.2.2.2.2 (lv_at hl 0 rfl) ?_
      refine lv_iload_n hx hb aMd.1 rfl (lv_at hl 3 rfl) ?_
      refine lv_iadd hx hb aMd.2.1 ?_
      refine lv_topi (fun v_4 aHM => ?_)
      have hp := hp v_4 aHM
      refine lv_aload_n hx hb aMd.2.2.1 rfl (lv_at hl 1 rfl) ?_
      refine va_get (D := (dC, dI)) (ci := 5) (v := .ref uO) (C := RX5) (T := TX5) (N := 11) hx hb hts i_X5 hown hK hP 0 rfl rfl 6 (lbz rfl) (hts _ q_545) (fun _ h9 => h9) rfl aMd.2.2.2.1 ?_
      refine lv_iload hx hb aMd.2.2.2.2.1 (lv_at hl 4 rfl) ?_
      have hin := hp.1
      have hp := hp.2
      refine va_iald hx hb hK hP 1 0 rfl rfl hin aMd.2.2.2.2.2.1 ?_
      refine lv_icmp_le (tgt := 52) hx hb aMd.2.2.2.2.2.2.1 (by decide) (fun hc => ?_) (fun hc => ?_)
      · have hp := hp.1 hc
        exact ks_X5_addToDusk_52 C0 hKn x2 x3 x4 vV H locs ls hp hP hD hS (lv_sub hl [1, 2, 3, 4] rfl)
      · have hp := hp.2 hc
        refine lv_aload_n hx hb aMd.2.2.2.2.2.2.2.1 rfl (lv_at hl 1 rfl) ?_
        refine va_get (D := (dC, dI)) (ci := 5) (v := .ref uO) (C := RX5) (T := TX5) (N := 11) hx hb hts i_X5 hown hK hP 0 rfl rfl 6 (lbz rfl) (hts _ q_545) (fun _ h9 => h9) rfl aMd.2.2.2.2.2.2.2.2.1 ?_
        refine lv_iload hx hb aMd.2.2.2.2.2.2.2.2.2.1 (lv_at hl 4 rfl) ?_
        refine lv_iload hx hb aMd.2.2.2.2.2.2.2.2.2.2.1 (lv_at hl 0 rfl) ?_
        refine lv_iload_n hx hb aMd.2.2.2.2.2.2.2.2.2.2.2.1 rfl (lv_at hl 3 rfl) ?_
        refine lv_iadd hx hb aMd.2.2.2.2.2.2.2.2.2.2.2.2.1 ?_
        refine lv_topi (fun v_5 aJD => ?_)
        have hp := hp v_5 aJD
        have hin := hp.1
        have hp := hp.2
        refine va_iast hx hb hK hP hD hS 1 0 rfl rfl hin aMd.2.2.2.2.2.2.2.2.2.2.2.2.2.1 (fun H locs hP hD hS => ?_)
        have hPD := PDw (ws' := (aLd cI cC cZ cB cJ xH xB vI uJ rW uQ uP uO oY rJ pX rO (upd vV x4.toNatClampNeg v_5))) hP hD rfl
        have hP := hPD.1
        have hD := hPD.2
        exact ks_X5_addToDusk_52 C0 hKn x2 x3 x4 (upd vV x4.toNatClampNeg v_5) H locs ls hp hP hD hS (lv_sub hl [1, 2, 3, 4] rfl)
set_option maxHeartbeats 4000000 in
set_option maxRecDepth 100000 in
theorem kb_X5_addToDusk_3 (C0 : gc aFF none 6 RX5 (dC, dI) (tyl cI cC cZ cB cJ) A p s m args meth c) : ∀ (n : Nat), ∀ (x2 x3 x4 : Int32) (vV : Nat -> Int32) (H : Heap) (locs : List Loc) (ls : Array Slot), (wb_X5_addToDusk_3 post n) x2 x3 x4 vV -> va_P (dC, dI) classes (aLd cI cC cZ cB cJ xH xB vI uJ rW uQ uP uO oY rJ pX rO vV) H -> va_D A (aLd cI cC cZ cB cJ xH xB vI uJ rW uQ uP uO oY rJ pX rO vV) -> va_S A s.heap H locs -> lv_has ls 6 [(0, .ref xH), (2, .int x2), (3, .int x3), (4, .int x4)] -> W p l e rm_X5_addToDusk s m args below meth c H locs 0 0 (MQ below (q_X5_addToDusk dC dI cI cC cZ cB cJ A xH xB vI uJ rW uQ uP uO oY rJ pX rO post) args s 0 0 A) (F0 m 3 ls []) := by
  intro n
  induction n with
  | zero =>
    intro x2 x3 x4 vV H locs ls hp
    exact False.elim hp
  | succ n ih =>
    intro x2 x3 x4 vV H locs ls hp
    exact ks_X5_addToDusk_3 C0 ih x2 x3 x4 vV H locs ls hp
end S_X5_addToDusk
def wp_X5_addToDusk (post : (Nat -> Int32) -> Prop) (p0 p1 p2 : Int32) (vV : Nat -> Int32) : Prop := ∃ n : Nat, wb_X5_addToDusk_3 post n p1 p2 p0 vV
set_option maxHeartbeats 4000000 in
set_option maxRecDepth 100000 in
theorem c_X5_addToDusk (l : Launch) (dC : Nat -> ClassId) (dI : Nat -> Nat -> Nat) (cI cC cZ cB cJ : ClassId) (xH xB vI uJ rW uQ uP uO sz : Nat) (p0 p1 p2 oY rJ pX rO : Int32) (vV : Nat -> Int32) (post : (Nat -> Int32) -> Prop) (hw : wp_X5_addToDusk post p0 p1 p2 vV) : Met l yX5_addToDusk (gw yX5_addToDusk aFF 6 none) rm_X5_addToDusk (va_Pc [.ref xH, .int p0, .int p1, .int p2] (gPre (dC, dI) (tyl cI cC cZ cB cJ) (aLd cI cC cZ cB cJ xH xB vI uJ rW uQ uP uO oY rJ pX rO vV) sz)) (q_X5_addToDusk dC dI cI cC cZ cB cJ (va_A (aLd cI cC cZ cB cJ xH xB vI uJ rW uQ uP uO oY rJ pX rO vV) sz) xH xB vI uJ rW uQ uP uO oY rJ pX rO post) 0 0 (va_A (aLd cI cC cZ cB cJ xH xB vI uJ rW uQ uP uO oY rJ pX rO vV) sz) := by
  refine aBJ (own := RX5) (dC, dI) (tyl cI cC cZ cB cJ) (aLd cI cC cZ cB cJ xH xB vI uJ rW uQ uP uO oY rJ pX rO vV) sz [.ref xH, .int p0, .int p1, .int p2] (fun A => q_X5_addToDusk dC dI cI cC cZ cB cJ A xH xB vI uJ rW uQ uP uO oY rJ pX rO post) pn_RX5 rfl (lbz rfl) ?_
  intro p e s m args below meth c A H locs ls C0 hP hD hS hl
  have hl : lv_has ls 6 [(0, .ref xH), (1, .int p0), (2, .int p1), (3, .int p2)] := hl
  obtain ⟨hx, hb, hr, hml, hown, hts, hlocks, hA, hK, hN, tL, tM, hZL, hTL, hZM, hTM, hZX⟩ := id C0
  have hp := hw
  unfold wp_X5_addToDusk at hp
  refine lv_iload_n hx hb aOJ.1 rfl (lv_at hl 1 rfl) ?_
  refine lv_istore (lv' := [(4, .int p0), (0, .ref xH), (1, .int p0), (2, .int p1), (3, .int p2)]) hx hb aOJ.2.1 hl (by decide) rfl (fun ls hl => ?_)
  obtain ⟨n9, hp⟩ := hp
  exact kb_X5_addToDusk_3 C0 n9 p1 p2 p0 vV H locs ls hp hP hD hS (lv_sub hl [1, 3, 4, 0] rfl)
abbrev aGQ (cI cC cZ cB cJ : ClassId) (xH xB vI uJ rW uQ uP uO wY xO tJ jJ mY pG pD pE eO uS tX uR rY tY : Nat) (oY rJ pX rO : Int32) (vV : Nat -> Int32) (dN bD bJ aI : Int32) (uU gF pL qF mX oE dY : Nat -> Int32) (jE eW eY dU fY gJ jG nU pQ qI sY uG pY nJ : Int32) (qY qU pN : Nat -> Int32) : va_W := [(xH, .inr (5, [.ref xB, .ref vI, .ref uJ, .ref rW, .ref uQ, .ref uP, .ref uO, .int oY, .int rJ, .int pX, .int rO])), (uO, .inl (cI, 301, .inl vV)), (xB, .inr (0, [.ref vI, .ref wY, .ref xO])), (vI, .inr (3, [.ref tJ, .ref jJ, .ref mY, .ref pG, .ref pD, .ref pE, .ref eO, .int dN, .int bD, .int bJ, .int aI])), (tJ, .inl (cI, 16, .inl uU)), (jJ, .inl (cI, 16, .inl gF)), (mY, .inl (cI, 16, .inl pL)), (pG, .inl (cI, 16, .inl qF)), (pD, .inl (cI, 8, .inl mX)), (pE, .inl (cI, 8, .inl oE)), (eO, .inl (cI, 5, .inl dY)), (wY, .inr (2, [.int jE, .int eW, .int eY, .int dU, .int fY, .int gJ, .int jG, .int nU])), (xO, .inr (7, [.ref uS, .ref tX, .ref uR, .ref rY, .ref tY, .int pQ, .int qI, .int sY, .int uG, .int pY, .int nJ])), (uS, .inl (cI, 7, .inl qY)), (uR, .inl (cI, 40, .inl qU)), (rY, .inl (cI, 40, .inl pN))]
abbrev q_X5_fillDusk (dC : Nat -> ClassId) (dI : Nat -> Nat -> Nat) (cI cC cZ cB cJ : ClassId) (A : Nat -> Prop) (xH xB vI uJ rW uQ uP uO wY xO tJ jJ mY pG pD pE eO uS tX uR rY tY : Nat) (oY rJ pX rO dN bD bJ aI : Int32) (uU gF pL qF mX oE dY : Nat -> Int32) (jE eW eY dU fY gJ jG nU pQ qI sY uG pY nJ : Int32) (pN : Nat -> Int32) (post : (Nat -> Int32) -> (Nat -> Int32) -> (Nat -> Int32) -> Prop) : Array Value -> State -> Outcome -> State -> Prop := va_Qv (fun (u : (Nat -> Int32) × (Nat -> Int32) × (Nat -> Int32)) => post u.1 u.2.1 u.2.2) (fun u t => gB (dC, dI) (tyl cI cC cZ cB cJ) A (aGQ cI cC cZ cB cJ xH xB vI uJ rW uQ uP uO wY xO tJ jJ mY pG pD pE eO uS tX uR rY tY oY rJ pX rO u.1 dN bD bJ aI uU gF pL qF mX oE dY jE eW eY dU fY gJ jG nU pQ qI sY uG pY nJ u.2.1 u.2.2 pN) t) A
abbrev rm_X5_fillDusk : Room := { frames := 4, cells := 0, slots := 0, locals := 92 }
section S_X5_fillDusk
variable {p : Program} {l : Launch} {e : Env} {s : State} {m : MethodId} {args : Array Value} {below : List Frame} {meth : Method} {c : Code} {dC : Nat -> ClassId} {dI : Nat -> Nat -> Nat} {cI cC cZ cB cJ : ClassId} {A : Nat -> Prop} {xH xB vI uJ rW uQ uP uO wY xO tJ jJ mY pG pD pE eO uS tX uR rY tY : Nat} {oY rJ pX rO dN bD bJ aI : Int32} {uU gF pL qF mX oE dY : Nat -> Int32} {jE eW eY dU fY gJ jG nU pQ qI sY uG pY nJ : Int32} {pN : Nat -> Int32} {post : (Nat -> Int32) -> (Nat -> Int32) -> (Nat -> Int32) -> Prop}
def ws_X5_fillDusk_123 (post : (Nat -> Int32) -> (Nat -> Int32) -> (Nat -> Int32) -> Prop) (K47 : Int32 -> Int32 -> Int32 -> (Nat -> Int32) -> (Nat -> Int32) -> (Nat -> Int32) -> Prop) (dN : Int32) (uU gF pL qF mX oE dY : Nat -> Int32) (jE eW eY dU fY gJ jG pQ : Int32) (pN : Nat -> Int32) (x2 x3 x4 : Int32) (vV qY qU : Nat -> Int32) : Prop := ∀ v_4 : Int32, v_4 = x4 + 1 -> K47 x2 x3 v_4 vV qY qU
set_option maxHeartbeats 4000000 in
set_option maxRecDepth 100000 in
theorem ks_X5_fillDusk_123 (C0 : gc aCS none 7 RX5 (dC, dI) (tyl cI cC cZ cB cJ) A p s m args meth c) {K47 : Int32 -> Int32 -> Int32 -> (Nat -> Int32) -> (Nat -> Int32) -> (Nat -> Int32) -> Prop} (hK47 : ∀ (x2 : Int32) (x3 : Int32) (x4 : Int32) (vV : Nat -> Int32) (qY : Nat -> Int32) (qU : Nat -> Int32) (H : Heap) (locs : List Loc) (ls : Array Slot), K47 x2 x3 x4 vV qY qU -> va_P (dC, dI) classes (aGQ cI cC cZ cB cJ xH xB vI uJ rW uQ uP uO wY xO tJ jJ mY pG pD pE eO uS tX uR rY tY oY rJ pX rO vV dN bD bJ aI uU gF pL qF mX oE dY jE eW eY dU fY gJ jG nU pQ qI sY uG pY nJ qY qU pN) H -> va_D A (aGQ cI cC cZ cB cJ xH xB vI uJ rW uQ uP uO wY xO tJ jJ mY pG pD pE eO uS tX uR rY tY oY rJ pX rO vV dN bD bJ aI uU gF pL qF mX oE dY jE eW eY dU fY gJ jG nU pQ qI sY uG pY nJ qY qU pN) -> va_S A s.heap H locs -> lv_has ls 7 [(0, .ref xH), (2, .int x2), (3, .int x3), (4, .int x4)] -> W p l e rm_X5_fillDusk s m args below meth c H locs 0 0 (MQ below (q_X5_fillDusk dC dI cI cC cZ cB cJ A xH xB vI uJ rW uQ uP uO wY xO tJ jJ mY pG pD pE eO uS tX uR rY tY oY rJ pX rO dN bD bJ aI uU gF pL qF mX oE dY jE eW eY dU fY gJ jG nU pQ qI sY uG pY nJ pN post) args s 0 0 A) (F0 m 47 ls [])) : ∀ (x2 x3 x4 : Int32) (vV qY qU : Nat -> Int32) (H : Heap) (locs : List Loc) (ls : Array Slot), (ws_X5_fillDusk_123 post K47 dN uU gF pL qF mX oE dY jE eW eY dU fY gJ jG pQ pN) x2 x3 x4 vV qY qU -> va_P (dC, dI) classes (aGQ cI cC cZ cB cJ xH xB vI uJ rW uQ uP uO wY xO tJ jJ mY pG pD pE eO uS tX uR rY tY oY rJ pX rO vV dN bD bJ aI uU gF pL qF mX oE dY jE eW eY dU fY gJ jG nU pQ qI sY uG pY nJ qY qU pN) H -> va_D A (aGQ cI cC cZ cB cJ xH xB vI uJ rW uQ uP uO wY xO tJ jJ mY pG pD pE eO uS tX uR rY tY oY rJ pX rO vV dN bD bJ aI uU gF pL qF mX oE dY jE eW eY dU fY gJ jG nU pQ qI sY uG pY nJ qY qU pN) -> va_S A s.heap H locs -> lv_has ls 7 [(0, .ref xH), (2, .int x2), (3, .int x3), (4, .int x4)] -> W p l e rm_X5_fillDusk s m args below meth c H locs 0 0 (MQ below (q_X5_fillDusk dC dI cI cC cZ cB cJ A xH xB vI uJ rW uQ uP uO wY xO tJ jJ mY pG pD pE eO uS tX uR rY tY oY rJ pX rO dN bD bJ aI uU gF pL qF mX oE dY jE eW eY dU fY gJ jG nU pQ qI sY uG pY nJ pN post) args s 0 0 A) (F0 m 123 ls []) := by
  obtain ⟨hx, hb, hr, hml, hown, hts, hlocks, hA, hK, hN, tL, tM, hZL, hTL, hZM, hTM, hZX⟩ := id C0
  intro x2 x3 x4 vV qY qU H locs ls hp hP hD hS hl
  unfold ws_X5_fillDusk_123 at hp
  obtain ⟨v_4, aHM⟩ : ∃ y : Int32, y = x4 + 1 := ⟨_, rfl⟩
  refine lv_iinc (v := v_4) (lv' := [(4, .int v_4), (0, .ref xH), (2, .int x2), (3, .int x3)]) hx hb eX5_fillDusk_117.2.2.2.1 hl (k := 3) rfl (by rw [aHM]; rfl) (by decide) rfl (fun ls hl => ?_)
  have hp := hp v_4 aHM
  refine lv_goto (tgt := 47) hx hb eX5_fillDusk_117.2.2.2.2.1 (by decide) ?_
  exact hK47 x2 x3 v_4 vV qY qU H locs ls hp hP hD hS (lv_sub hl [1, 2, 3, 0] rfl)
def ws_X5_fillDusk_47 (post : (Nat -> Int32) -> (Nat -> Int32) -> (Nat -> Int32) -> Prop) (next : Int32 -> Int32 -> Int32 -> (Nat -> Int32) -> (Nat -> Int32) -> (Nat -> Int32) -> Prop) (dN : Int32) (uU gF pL qF mX oE dY : Nat -> Int32) (jE eW eY dU fY gJ jG pQ : Int32) (pN : Nat -> Int32) (x2 x3 x4 : Int32) (vV qY qU : Nat -> Int32) : Prop := (dN <= x4 -> post vV qY qU) /\ (¬ dN <= x4 -> ∀ v_3 : Int32, v_3 = x3 >>> (x4 &&& 31) -> ((v_3 &&& 1) = 0 -> ws_X5_fillDusk_123 post next dN uU gF pL qF mX oE dY jE eW eY dU fY gJ jG pQ pN x2 x3 x4 vV qY qU) /\ (¬ (v_3 &&& 1) = 0 -> ∀ v_5 : Int32, v_5 = 1 <<< (x4 &&& 31) -> aSP (fun r_6 ru_given_7 ru_stack_8 => ∀ v_9 : Int32, v_9 = (if 1 < r_6 then r_6 else 1) -> aVC (fun r_10 => ∀ aGH : Int32, aGH = r_10 <<< (16 &&& 31) -> ∀ aEp : Int32, aEp = aGH - v_5 -> wp_X5_addToDusk (fun pl_best_13 => ws_X5_fillDusk_123 post next dN uU gF pL qF mX oE dY jE eW eY dU fY gJ jG pQ pN x2 x3 x4 pl_best_13 ru_given_7 ru_stack_8) x2 v_9 aEp vV) v_5 dN pL dU) x4 fY 0 0 dN uU gF pL mX oE dU pQ qY qU pN))
noncomputable def wb_X5_fillDusk_47 (post : (Nat -> Int32) -> (Nat -> Int32) -> (Nat -> Int32) -> Prop) (dN : Int32) (uU gF pL qF mX oE dY : Nat -> Int32) (jE eW eY dU fY gJ jG pQ : Int32) (pN : Nat -> Int32) : Nat -> Int32 -> Int32 -> Int32 -> (Nat -> Int32) -> (Nat -> Int32) -> (Nat -> Int32) -> Prop := fun n => Nat.rec (motive := fun _ => Int32 -> Int32 -> Int32 -> (Nat -> Int32) -> (Nat -> Int32) -> (Nat -> Int32) -> Prop) (fun _ _ _ _ _ _ => False) (fun _ ih => ws_X5_fillDusk_47 post ih dN uU gF pL qF mX oE dY jE eW eY dU fY gJ jG pQ pN) n
set_option maxHeartbeats 4000000 in
set_option maxRecDepth 100000 in
theorem ks_X5_fillDusk_47 (C0 : gc aCS none 7 RX5 (dC, dI) (tyl cI cC cZ cB cJ) A p s m args meth c) {next : Int32 -> Int32 -> Int32 -> (Nat -> Int32) -> (Nat -> Int32) -> (Nat -> Int32) -> Prop} (hKn : ∀ (x2 : Int32) (x3 : Int32) (x4 : Int32) (vV : Nat -> Int32) (qY : Nat -> Int32) (qU : Nat -> Int32) (H : Heap) (locs : List Loc) (ls : Array Slot), next x2 x3 x4 vV qY qU -> va_P (dC, dI) classes (aGQ cI cC cZ cB cJ xH xB vI uJ rW uQ uP uO wY xO tJ jJ mY pG pD pE eO uS tX uR rY tY oY rJ pX rO vV dN bD bJ aI uU gF pL qF mX oE dY jE eW eY dU fY gJ jG nU pQ qI sY uG pY nJ qY qU pN) H -> va_D A (aGQ cI cC cZ cB cJ xH xB vI uJ rW uQ uP uO wY xO tJ jJ mY pG pD pE eO uS tX uR rY tY oY rJ pX rO vV dN bD bJ aI uU gF pL qF mX oE dY jE eW eY dU fY gJ jG nU pQ qI sY uG pY nJ qY qU pN) -> va_S A s.heap H locs -> lv_has ls 7 [(0, .ref xH), (2, .int x2), (3, .int x3), (4, .int x4)] -> W p l e rm_X5_fillDusk s m args below meth c H locs 0 0 (MQ below (q_X5_fillDusk dC dI cI cC cZ cB cJ A xH xB vI uJ rW uQ uP uO wY xO tJ jJ mY pG pD pE eO uS tX uR rY tY oY rJ pX rO dN bD bJ aI uU gF pL qF mX oE dY jE eW eY dU fY gJ jG nU pQ qI sY uG pY nJ pN post) args s 0 0 A) (F0 m 47 ls [])) : ∀ (x2 x3 x4 : Int32) (vV qY qU : Nat -> Int32) (H : Heap) (locs : List Loc) (ls : Array Slot), (ws_X5_fillDusk_47 post next dN uU gF pL qF mX oE dY jE eW eY dU fY gJ jG pQ pN) x2 x3 x4 vV qY qU -> va_P (dC, dI) classes (aGQ cI cC cZ cB cJ xH xB vI uJ rW uQ uP uO wY xO tJ jJ mY pG pD pE eO uS tX uR rY tY oY rJ pX rO vV dN bD bJ aI uU gF pL qF mX oE dY jE eW eY dU fY gJ jG nU pQ qI sY uG pY nJ qY qU pN) H -> va_D A (aGQ cI cC cZ cB cJ xH xB vI uJ rW uQ uP uO wY xO tJ jJ mY pG pD pE eO uS tX uR rY tY oY rJ pX rO vV dN bD bJ aI uU gF pL qF mX oE dY jE eW eY dU fY gJ jG nU pQ qI sY uG pY nJ qY qU pN) -> va_S A s.heap H locs -> lv_has ls 7 [(0, .ref xH), (2, .int x2), (3, .int x3), (4, .int x4)] -> W p l e rm_X5_fillDusk s m args below meth c H locs 0 0 (MQ below (q_X5_fillDusk dC dI cI cC cZ cB cJ A xH xB vI uJ rW uQ uP uO wY xO tJ jJ mY pG pD pE eO uS tX uR rY tY oY rJ pX rO dN bD bJ aI uU gF pL qF mX oE dY jE eW eY dU fY gJ jG nU pQ qI sY uG pY nJ pN post) args s 0 0 A) (F0 m 47 ls []) := by
  obtain ⟨hx, hb, hr, hml, hown, hts, hlocks, hA, hK, hN, tL, tM, hZL, hTL, hZM, hTM, hZX⟩ := id C0
  intro x2 x3 x4 vV qY qU H locs ls hp hP hD hS hl
  unfold ws_X5_fillDusk_47 at hp
  refine lv_iload hx hb aOL.2.2.2.2.2.2.2.2.2.2.2.1 (lv_at hl 3 rfl) ?_
  refine lv_aload_n hx hb aOL.2.2.2.2.2.2.2.2.2.2.2.2.1 rfl (lv_at hl 0 rfl) ?_
  refine va_get (D := (dC, dI)) (ci := 5) (v := .ref vI) (C := RX5) (T := TX5) (N := 11) hx hb hts i_X5 hown hK hP 0 rfl rfl 1 (lbz rfl) (hts _ q_419) (fun _ h9 => h9) rfl aOL.2.2.2.2.2.2.2.2.2.2.2.2.2.1 ?_
  refine va_get (D := (dC, dI)) (ci := 3) (v := .int dN) (C := RX3) (T := TX3) (N := 11) hx hb hts i_X3 hown hK hP 3 rfl rfl 7 (lbz rfl) (hts _ q_504) (fun _ h9 => h9) rfl aOL.2.2.2.2.2.2.2.2.2.2.2.2.2.2.1 ?_
  refine lv_icmp_ge (tgt := 129) hx hb aOL.2.2.2.2.2.2.2.2.2.2.2.2.2.2.2 (by decide) (fun hc => ?_) (fun hc => ?_)
  · have hp := hp.1 hc
    exact W.vret hx hb hr (fun t ht hW => ⟨⟨(vV, qY, qU), rfl, hp, by rw [ht]; exact hP, va_K.moved hW.alike hK, hD⟩, hS.F ht⟩) hS.2.2 eX5_fillDusk_117.2.2.2.2.2
  · have hp := hp.2 hc
    refine lv_iload_n hx hb aOM.1 rfl (lv_at hl 2 rfl) ?_
    refine lv_iload hx hb aOM.2.1 (lv_at hl 3 rfl) ?_
    refine lv_ishr hx hb aOM.2.2.1 ?_
    refine lv_topi (fun v_3 aGW => ?_)
    have hp := hp v_3 aGW
    refine lv_iconst (v := 1) hx hb aOM.2.2.2.1 aDx ?_
    refine lv_iand hx hb aOM.2.2.2.2.1 ?_
    refine lv_if_eq (tgt := 123) hx hb aOM.2.2.2.2.2.1 (by decide) (fun hc => ?_) (fun hc => ?_)
    · have hp := hp.1 hc
      exact ks_X5_fillDusk_123 C0 hKn x2 x3 x4 vV qY qU H locs ls hp hP hD hS (lv_sub hl [0, 1, 2, 3] rfl)
    · have hp := hp.2 hc
      refine lv_iconst (v := 1) hx hb aOM.2.2.2.2.2.2.1 aDx ?_
      refine lv_iload hx hb aOM.2.2.2.2.2.2.2.1 (lv_at hl 3 rfl) ?_
      refine lv_ishl hx hb aOM.2.2.2.2.2.2.2.2.1 ?_
      refine lv_topi (fun v_5 aJD => ?_)
      have hp := hp v_5 aJD
      refine lv_istore (lv' := [(5, .int v_5), (0, .ref xH), (2, .int x2), (3, .int x3), (4, .int x4)]) hx hb aOM.2.2.2.2.2.2.2.2.2.1 hl (by decide) rfl (fun ls hl => ?_)
      refine lv_aload_n hx hb aOM.2.2.2.2.2.2.2.2.2.2.1 rfl (lv_at hl 1 rfl) ?_
      refine va_get (D := (dC, dI)) (ci := 5) (v := .ref xB) (C := RX5) (T := TX5) (N := 11) hx hb hts i_X5 hown hK hP 0 rfl rfl 0 (lbz rfl) (hts _ q_423) (fun _ h9 => h9) rfl aOM.2.2.2.2.2.2.2.2.2.2.2.1 ?_
      refine lv_iload hx hb aOM.2.2.2.2.2.2.2.2.2.2.2.2.1 (lv_at hl 4 rfl) ?_
      refine lv_aload_n hx hb aOM.2.2.2.2.2.2.2.2.2.2.2.2.2.1 rfl (lv_at hl 1 rfl) ?_
      refine va_get (D := (dC, dI)) (ci := 5) (v := .ref xB) (C := RX5) (T := TX5) (N := 11) hx hb hts i_X5 hown hK hP 0 rfl rfl 0 (lbz rfl) (hts _ q_423) (fun _ h9 => h9) rfl aOM.2.2.2.2.2.2.2.2.2.2.2.2.2.2.1 ?_
      refine va_get (D := (dC, dI)) (ci := 0) (v := .ref wY) (C := RX0) (T := TX0) (N := 3) hx hb hts i_X0 hown hK hP 2 rfl rfl 1 (lbz rfl) (hts _ q_437) (fun _ h9 => h9) rfl aOM.2.2.2.2.2.2.2.2.2.2.2.2.2.2.2 ?_
      refine va_get (D := (dC, dI)) (ci := 2) (v := .int fY) (C := RX2) (T := TX2) (N := 8) hx hb hts i_X2 hown hK hP 11 rfl rfl 4 (lbz rfl) (hts _ q_511) (fun _ h9 => h9) rfl aON.1 ?_
      refine lv_iconst (v := 0) hx hb aON.2.1 aCi ?_
      refine lv_iconst (v := 0) hx hb aON.2.2.1 aCi ?_
      have hm := mgk (wc := (aDu cI cC cZ cB cJ xB vI wY xO tJ jJ mY pG pD pE eO uS tX uR rY tY dN bD bJ aI uU gF pL mX oE jE eW eY dU fY gJ jG nU pQ qI sY uG pY nJ qY qU pN)) hP mk_163 16 rfl rfl rfl
      refine yW hP hD hS hA (yS mk_163) (aAi mk_163) hm.1 hm.2 (aAk _) (zW _) (zF (As := [.int x4, .int fY, .int 0, .int 0]) (rest := []) C0 hP hD hS (yS mk_163) hm.1 (aAl _) 2 0 rfl rfl (c_X0_pickSeconds l dC dI cI cC cZ cB cJ xB vI wY xO tJ jJ mY pG pD pE eO uS tX uR rY tY H.size x4 fY 0 0 dN bD bJ aI uU gF pL mX oE jE eW eY dU fY gJ jG nU pQ qI sY uG pY nJ qY qU pN _ hp) q_325 q_507 q_326 q_327 q_187 h_X0_pickSeconds rfl rfl ⟨lbz rfl, lbz rfl⟩ rfl rfl hl.1 rfl (lv_room (lbz rfl)) aON.2.2.2.1 ⟨Nat.zero_le _, Nat.zero_le _⟩) (fun r_6 u H locs hp hP hD hS => ?_)
      obtain ⟨ru_given_7, ru_stack_8⟩ := u
      have hPD := PDm (ws' := (aGQ cI cC cZ cB cJ xH xB vI uJ rW uQ uP uO wY xO tJ jJ mY pG pD pE eO uS tX uR rY tY oY rJ pX rO vV dN bD bJ aI uU gF pL qF mX oE dY jE eW eY dU fY gJ jG nU pQ qI sY uG pY nJ ru_given_7 ru_stack_8 pN)) hP hD 16 rfl rfl rfl
      have hP := hPD.1
      have hD := hPD.2
      refine lv_istore (lv' := [(6, .int r_6), (5, .int v_5), (0, .ref xH), (2, .int x2), (3, .int x3), (4, .int x4)]) hx hb aON.2.2.2.2.1 hl (by decide) rfl (fun ls hl => ?_)
      refine lv_aload_n hx hb aON.2.2.2.2.2.1 rfl (lv_at hl 2 rfl) ?_
      refine lv_iload_n hx hb aON.2.2.2.2.2.2.1 rfl (lv_at hl 3 rfl) ?_
      refine lv_iconst (v := 1) hx hb aON.2.2.2.2.2.2.2.1 aDx ?_
      refine lv_iload hx hb aON.2.2.2.2.2.2.2.2.1 (lv_at hl 0 rfl) ?_
      refine va_mmax hx hb (by rw [hml]; exact hl.1.symm) hown (hts _ q_549) (hts _ q_134) (hts _ q_16) (hts _ q_135) (lbz rfl) (lbz rfl) (Nat.zero_le _) (Nat.zero_le _) aON.2.2.2.2.2.2.2.2.2.1 ?_
      refine lv_topi (fun v_9 ev_9 => ?_)
      have hp := hp v_9 ev_9
      refine lv_aload_n hx hb aON.2.2.2.2.2.2.2.2.2.2.1 rfl (lv_at hl 2 rfl) ?_
      refine va_get (D := (dC, dI)) (ci := 5) (v := .ref xB) (C := RX5) (T := TX5) (N := 11) hx hb hts i_X5 hown hK hP 0 rfl rfl 0 (lbz rfl) (hts _ q_423) (fun _ h9 => h9) rfl aON.2.2.2.2.2.2.2.2.2.2.2.1 ?_
      refine lv_iload hx hb aON.2.2.2.2.2.2.2.2.2.2.2.2.1 (lv_at hl 1 rfl) ?_
      have hm := mgk (wc := (aT8 cI cC cZ cB cJ xB vI wY xO tJ jJ mY pG pD pE eO dN bD bJ aI pL jE eW eY dU fY gJ jG nU)) hP mk_164 16 rfl rfl rfl
      refine yW hP hD hS hA (yS mk_164) (aAi mk_164) hm.1 hm.2 (aAk _) (zW _) (zF (As := [.int v_5]) (rest := [.int v_9, .int x2, .ref xH]) C0 hP hD hS (yS mk_164) hm.1 (aAl _) 2 0 rfl rfl (c_X0_worthOf l dC dI cI cC cZ cB cJ xB vI wY xO tJ jJ mY pG pD pE eO H.size v_5 dN bD bJ aI pL jE eW eY dU fY gJ jG nU _ hp) q_297 q_473 q_298 q_299 q_187 h_X0_worthOf rfl rfl ⟨lbz rfl, lbz rfl⟩ rfl rfl hl.1 rfl (lv_room (lbz rfl)) aON.2.2.2.2.2.2.2.2.2.2.2.2.2.1 ⟨Nat.zero_le _, Nat.zero_le _⟩) (fun r_10 u H locs hp hP hD hS => ?_)
      have hPD := PDm (ws' := (aGQ cI cC cZ cB cJ xH xB vI uJ rW uQ uP uO wY xO tJ jJ mY pG pD pE eO uS tX uR rY tY oY rJ pX rO vV dN bD bJ aI uU gF pL qF mX oE dY jE eW eY dU fY gJ jG nU pQ qI sY uG pY nJ ru_given_7 ru_stack_8 pN)) hP hD 16 rfl rfl rfl
      have hP := hPD.1
      have hD := hPD.2
      refine lv_bipush (v := 16) hx hb aON.2.2.2.2.2.2.2.2.2.2.2.2.2.2.1 bp_16 ?_
      refine lv_ishl hx hb aON.2.2.2.2.2.2.2.2.2.2.2.2.2.2.2 ?_
      refine lv_topi (fun aGH ev_11 => ?_)
      have hp := hp aGH ev_11
      refine lv_iload hx hb eX5_fillDusk_117.1 (lv_at hl 1 rfl) ?_
      refine lv_isub hx hb eX5_fillDusk_117.2.1 ?_
      refine lv_topi (fun aEp ev_12 => ?_)
      have hp := hp aEp ev_12
      have hm := mgk (wc := (aLd cI cC cZ cB cJ xH xB vI uJ rW uQ uP uO oY rJ pX rO vV)) hP mk_165 16 rfl rfl rfl
      refine aBn hP hD hS hA (yS mk_165) (aAi mk_165) hm.1 hm.2 (aAk _) (zW _) (zF (As := [.int x2, .int v_9, .int aEp]) (rest := []) C0 hP hD hS (yS mk_165) hm.1 (aAl _) 0 5 rfl rfl (c_X5_addToDusk l dC dI cI cC cZ cB cJ xH xB vI uJ rW uQ uP uO H.size x2 v_9 aEp oY rJ pX rO vV _ hp) q_550 q_553 q_551 q_552 aRn h_X5_addToDusk rfl rfl ⟨lbz rfl, lbz rfl⟩ rfl rfl hl.1 rfl (lv_room (lbz rfl)) eX5_fillDusk_117.2.2.1 ⟨Nat.zero_le _, Nat.zero_le _⟩) (fun u H locs hp hP hD hS => ?_)
      obtain ⟨pl_best_13, rfl⟩ : ∃ z, z = u := ⟨_, rfl⟩
      have hPD := PDm (ws' := (aGQ cI cC cZ cB cJ xH xB vI uJ rW uQ uP uO wY xO tJ jJ mY pG pD pE eO uS tX uR rY tY oY rJ pX rO pl_best_13 dN bD bJ aI uU gF pL qF mX oE dY jE eW eY dU fY gJ jG nU pQ qI sY uG pY nJ ru_given_7 ru_stack_8 pN)) hP hD 16 rfl rfl rfl
      have hP := hPD.1
      have hD := hPD.2
      exact ks_X5_fillDusk_123 C0 hKn x2 x3 x4 pl_best_13 ru_given_7 ru_stack_8 H locs ls hp hP hD hS (lv_sub hl [2, 3, 4, 5] rfl)
set_option maxHeartbeats 4000000 in
set_option maxRecDepth 100000 in
theorem kb_X5_fillDusk_47 (C0 : gc aCS none 7 RX5 (dC, dI) (tyl cI cC cZ cB cJ) A p s m args meth c) : ∀ (n : Nat), ∀ (x2 x3 x4 : Int32) (vV qY qU : Nat -> Int32) (H : Heap) (locs : List Loc) (ls : Array Slot), (wb_X5_fillDusk_47 post dN uU gF pL qF mX oE dY jE eW eY dU fY gJ jG pQ pN n) x2 x3 x4 vV qY qU -> va_P (dC, dI) classes (aGQ cI cC cZ cB cJ xH xB vI uJ rW uQ uP uO wY xO tJ jJ mY pG pD pE eO uS tX uR rY tY oY rJ pX rO vV dN bD bJ aI uU gF pL qF mX oE dY jE eW eY dU fY gJ jG nU pQ qI sY uG pY nJ qY qU pN) H -> va_D A (aGQ cI cC cZ cB cJ xH xB vI uJ rW uQ uP uO wY xO tJ jJ mY pG pD pE eO uS tX uR rY tY oY rJ pX rO vV dN bD bJ aI uU gF pL qF mX oE dY jE eW eY dU fY gJ jG nU pQ qI sY uG pY nJ qY qU pN) -> va_S A s.heap H locs -> lv_has ls 7 [(0, .ref xH), (2, .int x2), (3, .int x3), (4, .int x4)] -> W p l e rm_X5_fillDusk s m args below meth c H locs 0 0 (MQ below (q_X5_fillDusk dC dI cI cC cZ cB cJ A xH xB vI uJ rW uQ uP uO wY xO tJ jJ mY pG pD pE eO uS tX uR rY tY oY rJ pX rO dN bD bJ aI uU gF pL qF mX oE dY jE eW eY dU fY gJ jG nU pQ qI sY uG pY nJ pN post) args s 0 0 A) (F0 m 47 ls []) := by
  intro n
  induction n with
  | zero =>
    intro x2 x3 x4 vV qY qU H locs ls hp
    exact False.elim hp
  | succ n ih =>
    intro x2 x3 x4 vV qY qU H locs ls hp
    exact ks_X5_fillDusk_47 C0 ih x2 x3 x4 vV qY qU H locs ls hp
def ws_X5_fillDusk_17 (post : (Nat -> Int32) -> (Nat -> Int32) -> (Nat -> Int32) -> Prop) (next : Int32 -> Int32 -> (Nat -> Int32) -> (Nat -> Int32) -> (Nat -> Int32) -> Prop) (dN : Int32) (uU gF pL qF mX oE dY : Nat -> Int32) (jE eW eY dU fY gJ jG pQ : Int32) (pN : Nat -> Int32) (x2 x3 : Int32) (vV qY qU : Nat -> Int32) : Prop := (x2 < x3 -> wp_X0_readyHere (fun r_2 => ∃ n : Nat, wb_X5_fillDusk_47 post dN uU gF pL qF mX oE dY jE eW eY dU fY gJ jG pQ pN n x2 r_2 0 vV qY qU) dN uU gF qF mX oE dY jE eW eY fY gJ jG) /\ (¬ x2 < x3 -> vp_in x3 301 /\ (∀ aGC : Int32, aGC = x3 + 1 -> next x2 aGC (upd vV x3.toNatClampNeg (-2147483648)) qY qU))
noncomputable def wb_X5_fillDusk_17 (post : (Nat -> Int32) -> (Nat -> Int32) -> (Nat -> Int32) -> Prop) (dN : Int32) (uU gF pL qF mX oE dY : Nat -> Int32) (jE eW eY dU fY gJ jG pQ : Int32) (pN : Nat -> Int32) : Nat -> Int32 -> Int32 -> (Nat -> Int32) -> (Nat -> Int32) -> (Nat -> Int32) -> Prop := fun n => Nat.rec (motive := fun _ => Int32 -> Int32 -> (Nat -> Int32) -> (Nat -> Int32) -> (Nat -> Int32) -> Prop) (fun _ _ _ _ _ => False) (fun _ ih => ws_X5_fillDusk_17 post ih dN uU gF pL qF mX oE dY jE eW eY dU fY gJ jG pQ pN) n
set_option maxHeartbeats 4000000 in
set_option maxRecDepth 100000 in
theorem ks_X5_fillDusk_17 (C0 : gc aCS none 7 RX5 (dC, dI) (tyl cI cC cZ cB cJ) A p s m args meth c) {next : Int32 -> Int32 -> (Nat -> Int32) -> (Nat -> Int32) -> (Nat -> Int32) -> Prop} (hKn : ∀ (x2 : Int32) (x3 : Int32) (vV : Nat -> Int32) (qY : Nat -> Int32) (qU : Nat -> Int32) (H : Heap) (locs : List Loc) (ls : Array Slot), next x2 x3 vV qY qU -> va_P (dC, dI) classes (aGQ cI cC cZ cB cJ xH xB vI uJ rW uQ uP uO wY xO tJ jJ mY pG pD pE eO uS tX uR rY tY oY rJ pX rO vV dN bD bJ aI uU gF pL qF mX oE dY jE eW eY dU fY gJ jG nU pQ qI sY uG pY nJ qY qU pN) H -> va_D A (aGQ cI cC cZ cB cJ xH xB vI uJ rW uQ uP uO wY xO tJ jJ mY pG pD pE eO uS tX uR rY tY oY rJ pX rO vV dN bD bJ aI uU gF pL qF mX oE dY jE eW eY dU fY gJ jG nU pQ qI sY uG pY nJ qY qU pN) -> va_S A s.heap H locs -> lv_has ls 7 [(0, .ref xH), (2, .int x2), (3, .int x3)] -> W p l e rm_X5_fillDusk s m args below meth c H locs 0 0 (MQ below (q_X5_fillDusk dC dI cI cC cZ cB cJ A xH xB vI uJ rW uQ uP uO wY xO tJ jJ mY pG pD pE eO uS tX uR rY tY oY rJ pX rO dN bD bJ aI uU gF pL qF mX oE dY jE eW eY dU fY gJ jG nU pQ qI sY uG pY nJ pN post) args s 0 0 A) (F0 m 17 ls [])) : ∀ (x2 x3 : Int32) (vV qY qU : Nat -> Int32) (H : Heap) (locs : List Loc) (ls : Array Slot), (ws_X5_fillDusk_17 post next dN uU gF pL qF mX oE dY jE eW eY dU fY gJ jG pQ pN) x2 x3 vV qY qU -> va_P (dC, dI) classes (aGQ cI cC cZ cB cJ xH xB vI uJ rW uQ uP uO wY xO tJ jJ mY pG pD pE eO uS tX uR rY tY oY rJ pX rO vV dN bD bJ aI uU gF pL qF mX oE dY jE eW eY dU fY gJ jG nU pQ qI sY uG pY nJ qY qU pN) H -> va_D A (aGQ cI cC cZ cB cJ xH xB vI uJ rW uQ uP uO wY xO tJ jJ mY pG pD pE eO uS tX uR rY tY oY rJ pX rO vV dN bD bJ aI uU gF pL qF mX oE dY jE eW eY dU fY gJ jG nU pQ qI sY uG pY nJ qY qU pN) -> va_S A s.heap H locs -> lv_has ls 7 [(0, .ref xH), (2, .int x2), (3, .int x3)] -> W p l e rm_X5_fillDusk s m args below meth c H locs 0 0 (MQ below (q_X5_fillDusk dC dI cI cC cZ cB cJ A xH xB vI uJ rW uQ uP uO wY xO tJ jJ mY pG pD pE eO uS tX uR rY tY oY rJ pX rO dN bD bJ aI uU gF pL qF mX oE dY jE eW eY dU fY gJ jG nU pQ qI sY uG pY nJ pN post) args s 0 0 A) (F0 m 17 ls []) := by
  obtain ⟨hx, hb, hr, hml, hown, hts, hlocks, hA, hK, hN, tL, tM, hZL, hTL, hZM, hTM, hZX⟩ := id C0
  intro x2 x3 vV qY qU H locs ls hp hP hD hS hl
  unfold ws_X5_fillDusk_17 at hp
  refine lv_iload_n hx hb aQm.2.2.2.2.2.2.2.2.2.2.2.1 rfl (lv_at hl 2 rfl) ?_
  refine lv_iload_n hx hb aQm.2.2.2.2.2.2.2.2.2.2.2.2.1 rfl (lv_at hl 1 rfl) ?_
  refine lv_icmp_gt (tgt := 36) hx hb aQm.2.2.2.2.2.2.2.2.2.2.2.2.2.1 (by decide) (fun hc => ?_) (fun hc => ?_)
  · have hp := hp.1 hc
    refine lv_aload_n hx hb aOL.2.2.2.2.2.1 rfl (lv_at hl 0 rfl) ?_
    refine va_get (D := (dC, dI)) (ci := 5) (v := .ref xB) (C := RX5) (T := TX5) (N := 11) hx hb hts i_X5 hown hK hP 0 rfl rfl 0 (lbz rfl) (hts _ q_423) (fun _ h9 => h9) rfl aOL.2.2.2.2.2.2.1 ?_
    have hm := mgk (wc := (aUW cI cC cZ cB cJ xB vI wY xO tJ jJ mY pG pD pE eO dN bD bJ aI uU gF qF mX oE dY jE eW eY dU fY gJ jG nU)) hP mk_166 16 rfl rfl rfl
    refine yW hP hD hS hA (yS mk_166) (aAi mk_166) hm.1 hm.2 (aAk _) (zW _) (zF (As := []) (rest := []) C0 hP hD hS (yS mk_166) hm.1 (aAl _) 2 0 rfl rfl (c_X0_readyHere l dC dI cI cC cZ cB cJ xB vI wY xO tJ jJ mY pG pD pE eO H.size dN bD bJ aI uU gF qF mX oE dY jE eW eY dU fY gJ jG nU _ hp) q_347 q_548 q_348 q_349 q_187 h_X0_readyHere rfl rfl ⟨lbz rfl, lbz rfl⟩ rfl rfl hl.1 rfl (lv_room (lbz rfl)) aOL.2.2.2.2.2.2.2.1 ⟨Nat.zero_le _, Nat.zero_le _⟩) (fun r_2 u H locs hp hP hD hS => ?_)
    have hPD := PDm (ws' := (aGQ cI cC cZ cB cJ xH xB vI uJ rW uQ uP uO wY xO tJ jJ mY pG pD pE eO uS tX uR rY tY oY rJ pX rO vV dN bD bJ aI uU gF pL qF mX oE dY jE eW eY dU fY gJ jG nU pQ qI sY uG pY nJ qY qU pN)) hP hD 16 rfl rfl rfl
    have hP := hPD.1
    have hD := hPD.2
    refine lv_istore_n (lv' := [(3, .int r_2), (0, .ref xH), (2, .int x2)]) hx hb aOL.2.2.2.2.2.2.2.2.1 rfl hl (by decide) rfl (fun ls hl => ?_)
    refine lv_iconst (v := 0) hx hb aOL.2.2.2.2.2.2.2.2.2.1 aCi ?_
    refine lv_istore (lv' := [(4, .int 0), (3, .int r_2), (0, .ref xH), (2, .int x2)]) hx hb aOL.2.2.2.2.2.2.2.2.2.2.1 hl (by decide) rfl (fun ls hl => ?_)
    obtain ⟨n9, hp⟩ := hp
    exact kb_X5_fillDusk_47 C0 n9 x2 r_2 0 vV qY qU H locs ls hp hP hD hS (lv_sub hl [2, 3, 1, 0] rfl)
  · have hp := hp.2 hc
    refine lv_aload_n hx hb aQm.2.2.2.2.2.2.2.2.2.2.2.2.2.2.1 rfl (lv_at hl 0 rfl) ?_
    refine va_get (D := (dC, dI)) (ci := 5) (v := .ref uO) (C := RX5) (T := TX5) (N := 11) hx hb hts i_X5 hown hK hP 0 rfl rfl 6 (lbz rfl) (hts _ q_545) (fun _ h9 => h9) rfl aQm.2.2.2.2.2.2.2.2.2.2.2.2.2.2.2 ?_
    refine lv_iload_n hx hb aOL.1 rfl (lv_at hl 2 rfl) ?_
    refine lv_ldc (v := (-2147483648)) hx hb hown (hts _ q_546) aOL.2.1 ?_
    have hin := hp.1
    have hp := hp.2
    refine va_iast hx hb hK hP hD hS 1 0 rfl rfl hin aOL.2.2.1 (fun H locs hP hD hS => ?_)
    have hPD := PDw (ws' := (aGQ cI cC cZ cB cJ xH xB vI uJ rW uQ uP uO wY xO tJ jJ mY pG pD pE eO uS tX uR rY tY oY rJ pX rO (upd vV x3.toNatClampNeg (-2147483648)) dN bD bJ aI uU gF pL qF mX oE dY jE eW eY dU fY gJ jG nU pQ qI sY uG pY nJ qY qU pN)) hP hD rfl
    have hP := hPD.1
    have hD := hPD.2
    obtain ⟨aGC, ev_14⟩ : ∃ y : Int32, y = x3 + 1 := ⟨_, rfl⟩
    refine lv_iinc (v := aGC) (lv' := [(3, .int aGC), (0, .ref xH), (2, .int x2)]) hx hb aOL.2.2.2.1 hl (k := 2) rfl (by rw [ev_14]; rfl) (by decide) rfl (fun ls hl => ?_)
    have hp := hp aGC ev_14
    refine lv_goto (tgt := 17) hx hb aOL.2.2.2.2.1 (by decide) ?_
    exact hKn x2 aGC (upd vV x3.toNatClampNeg (-2147483648)) qY qU H locs ls hp hP hD hS (lv_sub hl [1, 2, 0] rfl)
set_option maxHeartbeats 4000000 in
set_option maxRecDepth 100000 in
theorem kb_X5_fillDusk_17 (C0 : gc aCS none 7 RX5 (dC, dI) (tyl cI cC cZ cB cJ) A p s m args meth c) : ∀ (n : Nat), ∀ (x2 x3 : Int32) (vV qY qU : Nat -> Int32) (H : Heap) (locs : List Loc) (ls : Array Slot), (wb_X5_fillDusk_17 post dN uU gF pL qF mX oE dY jE eW eY dU fY gJ jG pQ pN n) x2 x3 vV qY qU -> va_P (dC, dI) classes (aGQ cI cC cZ cB cJ xH xB vI uJ rW uQ uP uO wY xO tJ jJ mY pG pD pE eO uS tX uR rY tY oY rJ pX rO vV dN bD bJ aI uU gF pL qF mX oE dY jE eW eY dU fY gJ jG nU pQ qI sY uG pY nJ qY qU pN) H -> va_D A (aGQ cI cC cZ cB cJ xH xB vI uJ rW uQ uP uO wY xO tJ jJ mY pG pD pE eO uS tX uR rY tY oY rJ pX rO vV dN bD bJ aI uU gF pL qF mX oE dY jE eW eY dU fY gJ jG nU pQ qI sY uG pY nJ qY qU pN) -> va_S A s.heap H locs -> lv_has ls 7 [(0, .ref xH), (2, .int x2), (3, .int x3)] -> W p l e rm_X5_fillDusk s m args below meth c H locs 0 0 (MQ below (q_X5_fillDusk dC dI cI cC cZ cB cJ A xH xB vI uJ rW uQ uP uO wY xO tJ jJ mY pG pD pE eO uS tX uR rY tY oY rJ pX rO dN bD bJ aI uU gF pL qF mX oE dY jE eW eY dU fY gJ jG nU pQ qI sY uG pY nJ pN post) args s 0 0 A) (F0 m 17 ls []) := by
  intro n
  induction n with
  | zero =>
    intro x2 x3 vV qY qU H locs ls hp
    exact False.elim hp
  | succ n ih =>
    intro x2 x3 vV qY qU H locs ls hp
    exact ks_X5_fillDusk_17 C0 ih x2 x3 vV qY qU H locs ls hp
end S_X5_fillDusk
def wp_X5_fillDusk (post : (Nat -> Int32) -> (Nat -> Int32) -> (Nat -> Int32) -> Prop) (p0 : Int32) (vV : Nat -> Int32) (dN : Int32) (uU gF pL qF mX oE dY : Nat -> Int32) (jE eW eY dU fY gJ jG pQ : Int32) (qY qU pN : Nat -> Int32) : Prop := ∀ v_1 : Int32, v_1 = (if 300 < p0 then 300 else p0) -> ∃ n : Nat, wb_X5_fillDusk_17 post dN uU gF pL qF mX oE dY jE eW eY dU fY gJ jG pQ pN n v_1 1 (upd vV (0 : Int32).toNatClampNeg 0) qY qU
set_option maxHeartbeats 4000000 in
set_option maxRecDepth 100000 in
theorem c_X5_fillDusk (l : Launch) (dC : Nat -> ClassId) (dI : Nat -> Nat -> Nat) (cI cC cZ cB cJ : ClassId) (xH xB vI uJ rW uQ uP uO wY xO tJ jJ mY pG pD pE eO uS tX uR rY tY sz : Nat) (p0 oY rJ pX rO : Int32) (vV : Nat -> Int32) (dN bD bJ aI : Int32) (uU gF pL qF mX oE dY : Nat -> Int32) (jE eW eY dU fY gJ jG nU pQ qI sY uG pY nJ : Int32) (qY qU pN : Nat -> Int32) (post : (Nat -> Int32) -> (Nat -> Int32) -> (Nat -> Int32) -> Prop) (hw : wp_X5_fillDusk post p0 vV dN uU gF pL qF mX oE dY jE eW eY dU fY gJ jG pQ qY qU pN) : Met l yX5_fillDusk (gw yX5_fillDusk aCS 7 none) rm_X5_fillDusk (va_Pc [.ref xH, .int p0] (gPre (dC, dI) (tyl cI cC cZ cB cJ) (aGQ cI cC cZ cB cJ xH xB vI uJ rW uQ uP uO wY xO tJ jJ mY pG pD pE eO uS tX uR rY tY oY rJ pX rO vV dN bD bJ aI uU gF pL qF mX oE dY jE eW eY dU fY gJ jG nU pQ qI sY uG pY nJ qY qU pN) sz)) (q_X5_fillDusk dC dI cI cC cZ cB cJ (va_A (aGQ cI cC cZ cB cJ xH xB vI uJ rW uQ uP uO wY xO tJ jJ mY pG pD pE eO uS tX uR rY tY oY rJ pX rO vV dN bD bJ aI uU gF pL qF mX oE dY jE eW eY dU fY gJ jG nU pQ qI sY uG pY nJ qY qU pN) sz) xH xB vI uJ rW uQ uP uO wY xO tJ jJ mY pG pD pE eO uS tX uR rY tY oY rJ pX rO dN bD bJ aI uU gF pL qF mX oE dY jE eW eY dU fY gJ jG nU pQ qI sY uG pY nJ pN post) 0 0 (va_A (aGQ cI cC cZ cB cJ xH xB vI uJ rW uQ uP uO wY xO tJ jJ mY pG pD pE eO uS tX uR rY tY oY rJ pX rO vV dN bD bJ aI uU gF pL qF mX oE dY jE eW eY dU fY gJ jG nU pQ qI sY uG pY nJ qY qU pN) sz) := by
  refine aBJ (own := RX5) (dC, dI) (tyl cI cC cZ cB cJ) (aGQ cI cC cZ cB cJ xH xB vI uJ rW uQ uP uO wY xO tJ jJ mY pG pD pE eO uS tX uR rY tY oY rJ pX rO vV dN bD bJ aI uU gF pL qF mX oE dY jE eW eY dU fY gJ jG nU pQ qI sY uG pY nJ qY qU pN) sz [.ref xH, .int p0] (fun A => q_X5_fillDusk dC dI cI cC cZ cB cJ A xH xB vI uJ rW uQ uP uO wY xO tJ jJ mY pG pD pE eO uS tX uR rY tY oY rJ pX rO dN bD bJ aI uU gF pL qF mX oE dY jE eW eY dU fY gJ jG nU pQ qI sY uG pY nJ pN post) pn_RX5 rfl (lbz rfl) ?_
  intro p e s m args below meth c A H locs ls C0 hP hD hS hl
  have hl : lv_has ls 7 [(0, .ref xH), (1, .int p0)] := hl
  obtain ⟨hx, hb, hr, hml, hown, hts, hlocks, hA, hK, hN, tL, tM, hZL, hTL, hZM, hTM, hZX⟩ := id C0
  have hp := hw
  unfold wp_X5_fillDusk at hp
  refine lv_iload_n hx hb aQm.1 rfl (lv_at hl 1 rfl) ?_
  refine lv_sipush (v := 300) hx hb aQm.2.1 sp_300 ?_
  refine va_mmin hx hb (by rw [hml]; exact hl.1.symm) hown (hts _ q_547) (hts _ q_15) (hts _ q_16) (hts _ q_17) (lbz rfl) (lbz rfl) (Nat.zero_le _) (Nat.zero_le _) aQm.2.2.1 ?_
  refine lv_topi (fun v_1 aFJ => ?_)
  have hp := hp v_1 aFJ
  refine lv_istore_n (lv' := [(2, .int v_1), (0, .ref xH), (1, .int p0)]) hx hb aQm.2.2.2.1 rfl hl (by decide) rfl (fun ls hl => ?_)
  refine lv_aload_n hx hb aQm.2.2.2.2.1 rfl (lv_at hl 1 rfl) ?_
  refine va_get (D := (dC, dI)) (ci := 5) (v := .ref uO) (C := RX5) (T := TX5) (N := 11) hx hb hts i_X5 hown hK hP 0 rfl rfl 6 (lbz rfl) (hts _ q_545) (fun _ h9 => h9) rfl aQm.2.2.2.2.2.1 ?_
  refine lv_iconst (v := 0) hx hb aQm.2.2.2.2.2.2.1 aCi ?_
  refine lv_iconst (v := 0) hx hb aQm.2.2.2.2.2.2.2.1 aCi ?_
  refine va_iast hx hb hK hP hD hS 1 0 rfl rfl (g_in rfl) aQm.2.2.2.2.2.2.2.2.1 (fun H locs hP hD hS => ?_)
  have hPD := PDw (ws' := (aGQ cI cC cZ cB cJ xH xB vI uJ rW uQ uP uO wY xO tJ jJ mY pG pD pE eO uS tX uR rY tY oY rJ pX rO (upd vV (0 : Int32).toNatClampNeg 0) dN bD bJ aI uU gF pL qF mX oE dY jE eW eY dU fY gJ jG nU pQ qI sY uG pY nJ qY qU pN)) hP hD rfl
  have hP := hPD.1
  have hD := hPD.2
  refine lv_iconst (v := 1) hx hb aQm.2.2.2.2.2.2.2.2.2.1 aDx ?_
  refine lv_istore_n (lv' := [(3, .int 1), (2, .int v_1), (0, .ref xH), (1, .int p0)]) hx hb aQm.2.2.2.2.2.2.2.2.2.2.1 rfl hl (by decide) rfl (fun ls hl => ?_)
  obtain ⟨n9, hp⟩ := hp
  exact kb_X5_fillDusk_17 C0 n9 v_1 1 (upd vV (0 : Int32).toNatClampNeg 0) qY qU H locs ls hp hP hD hS (lv_sub hl [2, 1, 0] rfl)
