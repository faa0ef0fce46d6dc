abbrev wd_X5_duskWorth (cI cC cZ cB cJ : ClassId) (xH xB vI uJ rW uQ uP uO : Nat) (oY rJ pX rO : Int32) (vV : Nat -> Int32) : va_W := [(xH, .inr (5, [.ref xB, .ref vI, .ref uJ, .ref rW, .ref uQ, .ref uP, .ref uO, .int oY, .int rJ, .int pX, .int rO])), (uO, .inl (cI, 301, .inl vV))]
abbrev q_X5_duskWorth (dC : Nat -> ClassId) (dI : Nat -> Nat -> Nat) (cI cC cZ cB cJ : ClassId) (A : Nat -> Prop) (xH xB vI uJ rW uQ uP uO : Nat) (oY rJ pX rO : Int32) (vV : Nat -> Int32) (post : Int32 -> Prop) : Array Value -> State -> Outcome -> State -> Prop := va_Qi (fun (r : Int32) (u : Unit) => post r) (fun u t => gB (dC, dI) (tyl cI cC cZ cB cJ) A (wd_X5_duskWorth cI cC cZ cB cJ xH xB vI uJ rW uQ uP uO oY rJ pX rO vV) t) A
abbrev rm_X5_duskWorth : Room := { frames := 0, cells := 0, slots := 0, locals := 0 }
def wp_X5_duskWorth (post : Int32 -> Prop) (p0 : Int32) (vV : Nat -> Int32) : Prop := vp_in p0 301 /\ (∀ v_1 : Int32, v_1 = vV p0.toNatClampNeg -> (¬ v_1 = (-2147483648) -> vp_in p0 301 /\ (∀ v_2 : Int32, v_2 = vV p0.toNatClampNeg -> ∀ v_3 : Int32, v_3 = v_2 + 65535 -> post (v_3 >>> (16 &&& 31)))) /\ (v_1 = (-2147483648) -> post (-1)))
set_option maxHeartbeats 4000000 in
set_option maxRecDepth 100000 in
theorem c_X5_duskWorth (l : Launch) (dC : Nat -> ClassId) (dI : Nat -> Nat -> Nat) (cI cC cZ cB cJ : ClassId) (xH xB vI uJ rW uQ uP uO sz : Nat) (p0 oY rJ pX rO : Int32) (vV : Nat -> Int32) (post : Int32 -> Prop) (hw : wp_X5_duskWorth post p0 vV) : Met l yX5_duskWorth (gw yX5_duskWorth aOc 2 (some .int)) rm_X5_duskWorth (va_Pc [.ref xH, .int p0] (gPre (dC, dI) (tyl cI cC cZ cB cJ) (wd_X5_duskWorth cI cC cZ cB cJ xH xB vI uJ rW uQ uP uO oY rJ pX rO vV) sz)) (q_X5_duskWorth dC dI cI cC cZ cB cJ (va_A (wd_X5_duskWorth cI cC cZ cB cJ xH xB vI uJ rW uQ uP uO oY rJ pX rO vV) sz) xH xB vI uJ rW uQ uP uO oY rJ pX rO vV post) 0 0 (va_A (wd_X5_duskWorth cI cC cZ cB cJ xH xB vI uJ rW uQ uP uO oY rJ pX rO vV) sz) := by
  refine aBJ (own := RX5) (dC, dI) (tyl cI cC cZ cB cJ) (wd_X5_duskWorth cI cC cZ cB cJ xH xB vI uJ rW uQ uP uO oY rJ pX rO vV) sz [.ref xH, .int p0] (fun A => q_X5_duskWorth dC dI cI cC cZ cB cJ A xH xB vI uJ rW uQ uP uO oY rJ pX rO vV post) pn_RX5 rfl (lbz rfl) ?_
  intro p e s m args below meth c A H locs ls C0 hP hD hS hl
  have hl : lv_has ls 2 [(0, .ref xH), (1, .int p0)] := hl
  obtain ⟨hx, hb, hr, hml, hown, hts, hlocks, hA, hK, hN, tL, tM, hZL, hTL, hZM, hTM, hZX⟩ := id C0
  have hp := hw
  unfold wp_X5_duskWorth at hp
  refine lv_aload_n hx hb aOK.1 rfl (lv_at hl 0 rfl) ?_
  refine va_get (D := (dC, dI)) (ci := 5) (v := .ref uO) (C := RX5) (T := TX5) (N := 11) hx hb hts i_X5 hown hK hP 0 rfl rfl 6 (lbz rfl) (hts _ q_545) (fun _ h9 => h9) rfl aOK.2.1 ?_
  refine lv_iload_n hx hb aOK.2.2.1 rfl (lv_at hl 1 rfl) ?_
  have hin := hp.1
  have hp := hp.2
  refine va_iald hx hb hK hP 1 0 rfl rfl hin aOK.2.2.2.1 ?_
  refine lv_topi (fun v_1 aFJ => ?_)
  have hp := hp v_1 aFJ
  refine lv_ldc (v := (-2147483648)) hx hb hown (hts _ q_546) aOK.2.2.2.2.1 ?_
  refine lv_icmp_ne (tgt := 15) hx hb aOK.2.2.2.2.2.1 (by decide) (fun hc => ?_) (fun hc => ?_)
  · have hp := hp.1 hc
    refine lv_aload_n hx hb aOK.2.2.2.2.2.2.2.2.1 rfl (lv_at hl 0 rfl) ?_
    refine va_get (D := (dC, dI)) (ci := 5) (v := .ref uO) (C := RX5) (T := TX5) (N := 11) hx hb hts i_X5 hown hK hP 0 rfl rfl 6 (lbz rfl) (hts _ q_545) (fun _ h9 => h9) rfl aOK.2.2.2.2.2.2.2.2.2.1 ?_
    refine lv_iload_n hx hb aOK.2.2.2.2.2.2.2.2.2.2.1 rfl (lv_at hl 1 rfl) ?_
    have hin := hp.1
    have hp := hp.2
    refine va_iald hx hb hK hP 1 0 rfl rfl hin aOK.2.2.2.2.2.2.2.2.2.2.2.1 ?_
    refine lv_topi (fun v_2 aGO => ?_)
    have hp := hp v_2 aGO
    refine lv_ldc (v := 65535) hx hb hown (hts _ q_554) aOK.2.2.2.2.2.2.2.2.2.2.2.2.1 ?_
    refine lv_iadd hx hb aOK.2.2.2.2.2.2.2.2.2.2.2.2.2.1 ?_
    refine lv_topi (fun v_3 aGW => ?_)
    have hp := hp v_3 aGW
    refine lv_bipush (v := 16) hx hb aOK.2.2.2.2.2.2.2.2.2.2.2.2.2.2.1 bp_16 ?_
    refine lv_ishr hx hb aOK.2.2.2.2.2.2.2.2.2.2.2.2.2.2.2 ?_
    exact W.iret (v := v_3 >>> (16 &&& 31)) hx hb hr (fun t ht hW => ⟨⟨v_3 >>> (16 &&& 31), (), rfl, hp, by rw [ht]; exact hP, va_K.moved hW.alike hK, hD⟩, hS.F ht⟩) hS.2.2 dX5_duskWorth_27
  · have hp := hp.2 hc
    refine lv_iconst (v := (-1)) hx hb aOK.2.2.2.2.2.2.1 aEJ ?_
    refine lv_goto (tgt := 27) hx hb aOK.2.2.2.2.2.2.2.1 (by decide) ?_
    exact W.iret (v := (-1)) hx hb hr (fun t ht hW => ⟨⟨(-1), (), rfl, hp, by rw [ht]; exact hP, va_K.moved hW.alike hK, hD⟩, hS.F ht⟩) hS.2.2 dX5_duskWorth_27
abbrev wd_X5_duskFruits (cI cC cZ cB cJ : ClassId) (xH xB vI uJ rW uQ uP uO : Nat) (oY rJ pX rO : Int32) (vV : Nat -> Int32) : va_W := [(xH, .inr (5, [.ref xB, .ref vI, .ref uJ, .ref rW, .ref uQ, .ref uP, .ref uO, .int oY, .int rJ, .int pX, .int rO])), (uO, .inl (cI, 301, .inl vV))]
abbrev q_X5_duskFruits (dC : Nat -> ClassId) (dI : Nat -> Nat -> Nat) (cI cC cZ cB cJ : ClassId) (A : Nat -> Prop) (xH xB vI uJ rW uQ uP uO : Nat) (oY rJ pX rO : Int32) (vV : Nat -> Int32) (post : Int32 -> Prop) : Array Value -> State -> Outcome -> State -> Prop := va_Qi (fun (r : Int32) (u : Unit) => post r) (fun u t => gB (dC, dI) (tyl cI cC cZ cB cJ) A (wd_X5_duskFruits cI cC cZ cB cJ xH xB vI uJ rW uQ uP uO oY rJ pX rO vV) t) A
abbrev rm_X5_duskFruits : Room := { frames := 0, cells := 0, slots := 0, locals := 0 }
def wp_X5_duskFruits (post : Int32 -> Prop) (p0 : Int32) (vV : Nat -> Int32) : Prop := vp_in p0 301 /\ (∀ v_1 : Int32, v_1 = vV p0.toNatClampNeg -> (¬ v_1 = (-2147483648) -> vp_in p0 301 /\ (∀ v_2 : Int32, v_2 = -(vV p0.toNatClampNeg) -> post (v_2 &&& 65535))) /\ (v_1 = (-2147483648) -> post 0))
set_option maxHeartbeats 4000000 in
set_option maxRecDepth 100000 in
theorem c_X5_duskFruits (l : Launch) (dC : Nat -> ClassId) (dI : Nat -> Nat -> Nat) (cI cC cZ cB cJ : ClassId) (xH xB vI uJ rW uQ uP uO sz : Nat) (p0 oY rJ pX rO : Int32) (vV : Nat -> Int32) (post : Int32 -> Prop) (hw : wp_X5_duskFruits post p0 vV) : Met l yX5_duskFruits (gw yX5_duskFruits aM8 2 (some .int)) rm_X5_duskFruits (va_Pc [.ref xH, .int p0] (gPre (dC, dI) (tyl cI cC cZ cB cJ) (wd_X5_duskFruits cI cC cZ cB cJ xH xB vI uJ rW uQ uP uO oY rJ pX rO vV) sz)) (q_X5_duskFruits dC dI cI cC cZ cB cJ (va_A (wd_X5_duskFruits cI cC cZ cB cJ xH xB vI uJ rW uQ uP uO oY rJ pX rO vV) sz) xH xB vI uJ rW uQ uP uO oY rJ pX rO vV post) 0 0 (va_A (wd_X5_duskFruits cI cC cZ cB cJ xH xB vI uJ rW uQ uP uO oY rJ pX rO vV) sz) := by
  refine aBJ (own := RX5) (dC, dI) (tyl cI cC cZ cB cJ) (wd_X5_duskFruits cI cC cZ cB cJ xH xB vI uJ rW uQ uP uO oY rJ pX rO vV) sz [.ref xH, .int p0] (fun A => q_X5_duskFruits dC dI cI cC cZ cB cJ A xH xB vI uJ rW uQ uP uO oY rJ pX rO vV post) pn_RX5 rfl (lbz rfl) ?_
  intro p e s m args below meth c A H locs ls C0 hP hD hS hl
  have hl : lv_has ls 2 [(0, .ref xH), (1, .int p0)] := hl
  obtain ⟨hx, hb, hr, hml, hown, hts, hlocks, hA, hK, hN, tL, tM, hZL, hTL, hZM, hTM, hZX⟩ := id C0
  have hp := hw
  unfold wp_X5_duskFruits at hp
  refine lv_aload_n hx hb aLB.1 rfl (lv_at hl 0 rfl) ?_
  refine va_get (D := (dC, dI)) (ci := 5) (v := .ref uO) (C := RX5) (T := TX5) (N := 11) hx hb hts i_X5 hown hK hP 0 rfl rfl 6 (lbz rfl) (hts _ q_545) (fun _ h9 => h9) rfl aLB.2.1 ?_
  refine lv_iload_n hx hb aLB.2.2.1 rfl (lv_at hl 1 rfl) ?_
  have hin := hp.1
  have hp := hp.2
  refine va_iald hx hb hK hP 1 0 rfl rfl hin aLB.2.2.2.1 ?_
  refine lv_topi (fun v_1 aFJ => ?_)
  have hp := hp v_1 aFJ
  refine lv_ldc (v := (-2147483648)) hx hb hown (hts _ q_546) aLB.2.2.2.2.1 ?_
  refine lv_icmp_ne (tgt := 15) hx hb aLB.2.2.2.2.2.1 (by decide) (fun hc => ?_) (fun hc => ?_)
  · have hp := hp.1 hc
    refine lv_aload_n hx hb aLB.2.2.2.2.2.2.2.2.1 rfl (lv_at hl 0 rfl) ?_
    refine va_get (D := (dC, dI)) (ci := 5) (v := .ref uO) (C := RX5) (T := TX5) (N := 11) hx hb hts i_X5 hown hK hP 0 rfl rfl 6 (lbz rfl) (hts _ q_545) (fun _ h9 => h9) rfl aLB.2.2.2.2.2.2.2.2.2.1 ?_
    refine lv_iload_n hx hb aLB.2.2.2.2.2.2.2.2.2.2.1 rfl (lv_at hl 1 rfl) ?_
    have hin := hp.1
    have hp := hp.2
    refine va_iald hx hb hK hP 1 0 rfl rfl hin aLB.2.2.2.2.2.2.2.2.2.2.2.1 ?_
    refine lv_ineg hx hb aLB.2.2.2.2.2.2.2.2.2.2.2.2.1 ?_
    refine lv_topi (fun v_2 aGO => ?_)
    have hp := hp v_2 aGO
    refine lv_ldc (v := 65535) hx hb hown (hts _ q_554) aLB.2.2.2.2.2.2.2.2.2.2.2.2.2.1 ?_
    refine lv_iand hx hb aLB.2.2.2.2.2.2.2.2.2.2.2.2.2.2.1 ?_
    exact W.iret (v := v_2 &&& 65535) hx hb hr (fun t ht hW => ⟨⟨v_2 &&& 65535, (), rfl, hp, by rw [ht]; exact hP, va_K.moved hW.alike hK, hD⟩, hS.F ht⟩) hS.2.2 aLB.2.2.2.2.2.2.2.2.2.2.2.2.2.2.2
  · have hp := hp.2 hc
    refine lv_iconst (v := 0) hx hb aLB.2.2.2.2.2.2.1 aCi ?_
    refine lv_goto (tgt := 25) hx hb aLB.2.2.2.2.2.2.2.1 (by decide) ?_
    exact W.iret (v := 0) hx hb hr (fun t ht hW => ⟨⟨0, (), rfl, hp, by rw [ht]; exact hP, va_K.moved hW.alike hK, hD⟩, hS.F ht⟩) hS.2.2 aLB.2.2.2.2.2.2.2.2.2.2.2.2.2.2.2
abbrev aXk (cI cC cZ cB cJ : ClassId) (a_x xI xH xB vI wY xX yA xY uD uJ rW uQ uP uO xO tJ jJ mY pG pD pE eO uS tX uR rY tY rG : Nat) (oY rJ pX rO : Int32) (vV : Nat -> Int32) (dN bD bJ aI : Int32) (uU gF pL qF mX oE dY : Nat -> Int32) (jE eW eY dU fY gJ jG nU pQ qI sY uG pY nJ : Int32) (qY qU pN : Nat -> Int32) (qB : Int32) (jK : Nat -> Int32) : va_W := [(a_x, .inr (9, [.ref xI, .ref xH, .ref xB, .ref vI, .ref wY, .ref xX, .ref yA, .ref xY, .ref uD])), (xH, .inr (5, [.ref xB, .ref vI, .ref uJ, .ref rW, .ref uQ, .ref uP, .ref uO, .int oY, .int rJ, .int pX, .int rO])), (uO, .inl (cI, 301, .inl vV)), (xB, .inr (0, [.ref vI, .ref wY, .ref xO])), (vI, .inr (3, [.ref tJ, .ref jJ, .ref mY, .ref pG, .ref pD, .ref pE, .ref eO, .int dN, .int bD, .int bJ, .int aI])), (tJ, .inl (cI, 16, .inl uU)), (jJ, .inl (cI, 16, .inl gF)), (mY, .inl (cI, 16, .inl pL)), (pG, .inl (cI, 16, .inl qF)), (pD, .inl (cI, 8, .inl mX)), (pE, .inl (cI, 8, .inl oE)), (eO, .inl (cI, 5, .inl dY)), (wY, .inr (2, [.int jE, .int eW, .int eY, .int dU, .int fY, .int gJ, .int jG, .int nU])), (xO, .inr (7, [.ref uS, .ref tX, .ref uR, .ref rY, .ref tY, .int pQ, .int qI, .int sY, .int uG, .int pY, .int nJ])), (uS, .inl (cI, 7, .inl qY)), (uR, .inl (cI, 40, .inl qU)), (rY, .inl (cI, 40, .inl pN)), (yA, .inr (6, [.ref rG, .int qB])), (rG, .inl (cI, 16, .inl jK))]
abbrev q_X9_dusk (dC : Nat -> ClassId) (dI : Nat -> Nat -> Nat) (cI cC cZ cB cJ : ClassId) (A : Nat -> Prop) (a_x xI xH xB vI wY xX yA xY uD uJ rW uQ uP uO xO tJ jJ mY pG pD pE eO uS tX uR rY tY rG : Nat) (oY rJ pX rO dN bD bJ aI : Int32) (uU gF pL qF mX oE dY : Nat -> Int32) (jE eW eY dU fY gJ jG nU pQ qI sY uG pY nJ : Int32) (pN : Nat -> Int32) (post : Int32 -> (Nat -> Int32) -> (Nat -> Int32) -> (Nat -> Int32) -> Int32 -> (Nat -> Int32) -> Prop) : Array Value -> State -> Outcome -> State -> Prop := va_Qi (fun (r : Int32) (u : (Nat -> Int32) × (Nat -> Int32) × (Nat -> Int32) × Int32 × (Nat -> Int32)) => post r u.1 u.2.1 u.2.2.1 u.2.2.2.1 u.2.2.2.2) (fun u t => gB (dC, dI) (tyl cI cC cZ cB cJ) A (aXk cI cC cZ cB cJ a_x xI xH xB vI wY xX yA xY uD uJ rW uQ uP uO xO tJ jJ mY pG pD pE eO uS tX uR rY tY rG oY rJ pX rO u.1 dN bD bJ aI uU gF pL qF mX oE dY jE eW eY dU fY gJ jG nU pQ qI sY uG pY nJ u.2.1 u.2.2.1 pN u.2.2.2.1 u.2.2.2.2) t) A
abbrev rm_X9_dusk : Room := { frames := 5, cells := 0, slots := 0, locals := 118 }
section S_X9_dusk
variable {p : Program} {l : Launch} {e : Env} {s : State} {m : MethodId} {args : Array Value} {below : List Frame} {meth : Method} {c : Code} {dC : Nat -> ClassId} {dI : Nat -> Nat -> Nat} {cI cC cZ cB cJ : ClassId} {A : Nat -> Prop} {a_x xI xH xB vI wY xX yA xY uD uJ rW uQ uP uO xO tJ jJ mY pG pD pE eO uS tX uR rY tY rG : Nat} {oY rJ pX rO dN bD bJ aI : Int32} {uU gF pL qF mX oE dY : Nat -> Int32} {jE eW eY dU fY gJ jG nU pQ qI sY uG pY nJ : Int32} {pN : Nat -> Int32} {post : Int32 -> (Nat -> Int32) -> (Nat -> Int32) -> (Nat -> Int32) -> Int32 -> (Nat -> Int32) -> Prop}
def ws_X9_dusk_85 (post : Int32 -> (Nat -> Int32) -> (Nat -> Int32) -> (Nat -> Int32) -> Int32 -> (Nat -> Int32) -> Prop) (K45 : Int32 -> Int32 -> Int32 -> Int32 -> Int32 -> (Nat -> Int32) -> (Nat -> Int32) -> (Nat -> Int32) -> Int32 -> (Nat -> Int32) -> Prop) (dN : Int32) (uU gF pL qF mX oE dY : Nat -> Int32) (jE eW eY dU fY gJ jG pQ : Int32) (pN : Nat -> Int32) (x1 x2 x3 x4 x5 : Int32) (vV qY qU : Nat -> Int32) (qB : Int32) (jK : Nat -> Int32) : Prop := ∀ v_7 : Int32, v_7 = x5 + 1 -> K45 x1 x2 x3 x4 v_7 vV qY qU qB jK
set_option maxHeartbeats 4000000 in
set_option maxRecDepth 100000 in
theorem ks_X9_dusk_85 (C0 : gc aGY (some .int) 7 RX9 (dC, dI) (tyl cI cC cZ cB cJ) A p s m args meth c) {K45 : Int32 -> Int32 -> Int32 -> Int32 -> Int32 -> (Nat -> Int32) -> (Nat -> Int32) -> (Nat -> Int32) -> Int32 -> (Nat -> Int32) -> Prop} (hK45 : ∀ (x1 : Int32) (x2 : Int32) (x3 : Int32) (x4 : Int32) (x5 : Int32) (vV : Nat -> Int32) (qY : Nat -> Int32) (qU : Nat -> Int32) (qB : Int32) (jK : Nat -> Int32) (H : Heap) (locs : List Loc) (ls : Array Slot), K45 x1 x2 x3 x4 x5 vV qY qU qB jK -> va_P (dC, dI) classes (aXk cI cC cZ cB cJ a_x xI xH xB vI wY xX yA xY uD uJ rW uQ uP uO xO tJ jJ mY pG pD pE eO uS tX uR rY tY rG oY rJ pX rO vV dN bD bJ aI uU gF pL qF mX oE dY jE eW eY dU fY gJ jG nU pQ qI sY uG pY nJ qY qU pN qB jK) H -> va_D A (aXk cI cC cZ cB cJ a_x xI xH xB vI wY xX yA xY uD uJ rW uQ uP uO xO tJ jJ mY pG pD pE eO uS tX uR rY tY rG oY rJ pX rO vV dN bD bJ aI uU gF pL qF mX oE dY jE eW eY dU fY gJ jG nU pQ qI sY uG pY nJ qY qU pN qB jK) -> va_S A s.heap H locs -> lv_has ls 7 [(0, .ref a_x), (1, .int x1), (2, .int x2), (3, .int x3), (4, .int x4), (5, .int x5)] -> W p l e rm_X9_dusk s m args below meth c H locs 0 0 (MQ below (q_X9_dusk dC dI cI cC cZ cB cJ A a_x xI xH xB vI wY xX yA xY uD uJ rW uQ uP uO xO tJ jJ mY pG pD pE eO uS tX uR rY tY rG oY rJ pX rO dN bD bJ aI uU gF pL qF mX oE dY jE eW eY dU fY gJ jG nU pQ qI sY uG pY nJ pN post) args s 0 0 A) (F0 m 45 ls [])) : ∀ (x1 x2 x3 x4 x5 : Int32) (vV qY qU : Nat -> Int32) (qB : Int32) (jK : Nat -> Int32) (H : Heap) (locs : List Loc) (ls : Array Slot), (ws_X9_dusk_85 post K45 dN uU gF pL qF mX oE dY jE eW eY dU fY gJ jG pQ pN) x1 x2 x3 x4 x5 vV qY qU qB jK -> va_P (dC, dI) classes (aXk cI cC cZ cB cJ a_x xI xH xB vI wY xX yA xY uD uJ rW uQ uP uO xO tJ jJ mY pG pD pE eO uS tX uR rY tY rG oY rJ pX rO vV dN bD bJ aI uU gF pL qF mX oE dY jE eW eY dU fY gJ jG nU pQ qI sY uG pY nJ qY qU pN qB jK) H -> va_D A (aXk cI cC cZ cB cJ a_x xI xH xB vI wY xX yA xY uD uJ rW uQ uP uO xO tJ jJ mY pG pD pE eO uS tX uR rY tY rG oY rJ pX rO vV dN bD bJ aI uU gF pL qF mX oE dY jE eW eY dU fY gJ jG nU pQ qI sY uG pY nJ qY qU pN qB jK) -> va_S A s.heap H locs -> lv_has ls 7 [(0, .ref a_x), (1, .int x1), (2, .int x2), (3, .int x3), (4, .int x4), (5, .int x5)] -> W p l e rm_X9_dusk s m args below meth c H locs 0 0 (MQ below (q_X9_dusk dC dI cI cC cZ cB cJ A a_x xI xH xB vI wY xX yA xY uD uJ rW uQ uP uO xO tJ jJ mY pG pD pE eO uS tX uR rY tY rG oY rJ pX rO dN bD bJ aI uU gF pL qF mX oE dY jE eW eY dU fY gJ jG nU pQ qI sY uG pY nJ pN post) args s 0 0 A) (F0 m 85 ls []) := by
  obtain ⟨hx, hb, hr, hml, hown, hts, hlocks, hA, hK, hN, tL, tM, hZL, hTL, hZM, hTM, hZX⟩ := id C0
  intro x1 x2 x3 x4 x5 vV qY qU qB jK H locs ls hp hP hD hS hl
  unfold ws_X9_dusk_85 at hp
  obtain ⟨v_7, ev_7⟩ : ∃ y : Int32, y = x5 + 1 := ⟨_, rfl⟩
  refine lv_iinc (v := v_7) (lv' := [(5, .int v_7), (0, .ref a_x), (1, .int x1), (2, .int x2), (3, .int x3), (4, .int x4)]) hx hb bAb.2.2.2.2.2.2.2.2.2.2.2.2.2.2.1 hl (k := 5) rfl (by rw [ev_7]; rfl) (by decide) rfl (fun ls hl => ?_)
  have hp := hp v_7 ev_7
  refine lv_goto (tgt := 45) hx hb bAb.2.2.2.2.2.2.2.2.2.2.2.2.2.2.2 (by decide) ?_
  exact hK45 x1 x2 x3 x4 v_7 vV qY qU qB jK H locs ls hp hP hD hS (lv_sub hl [1, 2, 3, 4, 5, 0] rfl)
def ws_X9_dusk_45 (post : Int32 -> (Nat -> Int32) -> (Nat -> Int32) -> (Nat -> Int32) -> Int32 -> (Nat -> Int32) -> Prop) (next : Int32 -> Int32 -> Int32 -> Int32 -> Int32 -> (Nat -> Int32) -> (Nat -> Int32) -> (Nat -> Int32) -> Int32 -> (Nat -> Int32) -> Prop) (dN : Int32) (uU gF pL qF mX oE dY : Nat -> Int32) (jE eW eY dU fY gJ jG pQ : Int32) (pN : Nat -> Int32) (x1 x2 x3 x4 x5 : Int32) (vV qY qU : Nat -> Int32) (qB : Int32) (jK : Nat -> Int32) : Prop := (x1 < x5 -> aPf (fun ro_size_4 ro_numbers_5 => post x2 vV qY qU ro_size_4 ro_numbers_5) x3 x4 qB jK) /\ (¬ x1 < x5 -> wp_X5_duskWorth (fun r_6 => (r_6 <= x2 -> ws_X9_dusk_85 post next dN uU gF pL qF mX oE dY jE eW eY dU fY gJ jG pQ pN x1 x2 x3 x4 x5 vV qY qU qB jK) /\ (¬ r_6 <= x2 -> wp_X5_duskFruits (fun r_8 => ws_X9_dusk_85 post next dN uU gF pL qF mX oE dY jE eW eY dU fY gJ jG pQ pN x1 r_6 r_8 x5 x5 vV qY qU qB jK) x5 vV)) x5 vV)
noncomputable def wb_X9_dusk_45 (post : Int32 -> (Nat -> Int32) -> (Nat -> Int32) -> (Nat -> Int32) -> Int32 -> (Nat -> Int32) -> Prop) (dN : Int32) (uU gF pL qF mX oE dY : Nat -> Int32) (jE eW eY dU fY gJ jG pQ : Int32) (pN : Nat -> Int32) : Nat -> Int32 -> Int32 -> Int32 -> Int32 -> Int32 -> (Nat -> Int32) -> (Nat -> Int32) -> (Nat -> Int32) -> Int32 -> (Nat -> Int32) -> Prop := fun n => Nat.rec (motive := fun _ => Int32 -> Int32 -> Int32 -> Int32 -> Int32 -> (Nat -> Int32) -> (Nat -> Int32) -> (Nat -> Int32) -> Int32 -> (Nat -> Int32) -> Prop) (fun _ _ _ _ _ _ _ _ _ _ => False) (fun _ ih => ws_X9_dusk_45 post ih dN uU gF pL qF mX oE dY jE eW eY dU fY gJ jG pQ pN) n
set_option maxHeartbeats 4000000 in
set_option maxRecDepth 100000 in
theorem ks_X9_dusk_45 (C0 : gc aGY (some .int) 7 RX9 (dC, dI) (tyl cI cC cZ cB cJ) A p s m args meth c) {next : Int32 -> Int32 -> Int32 -> Int32 -> Int32 -> (Nat -> Int32) -> (Nat -> Int32) -> (Nat -> Int32) -> Int32 -> (Nat -> Int32) -> Prop} (hKn : ∀ (x1 : Int32) (x2 : Int32) (x3 : Int32) (x4 : Int32) (x5 : Int32) (vV : Nat -> Int32) (qY : Nat -> Int32) (qU : Nat -> Int32) (qB : Int32) (jK : Nat -> Int32) (H : Heap) (locs : List Loc) (ls : Array Slot), next x1 x2 x3 x4 x5 vV qY qU qB jK -> va_P (dC, dI) classes (aXk cI cC cZ cB cJ a_x xI xH xB vI wY xX yA xY uD uJ rW uQ uP uO xO tJ jJ mY pG pD pE eO uS tX uR rY tY rG oY rJ pX rO vV dN bD bJ aI uU gF pL qF mX oE dY jE eW eY dU fY gJ jG nU pQ qI sY uG pY nJ qY qU pN qB jK) H -> va_D A (aXk cI cC cZ cB cJ a_x xI xH xB vI wY xX yA xY uD uJ rW uQ uP uO xO tJ jJ mY pG pD pE eO uS tX uR rY tY rG oY rJ pX rO vV dN bD bJ aI uU gF pL qF mX oE dY jE eW eY dU fY gJ jG nU pQ qI sY uG pY nJ qY qU pN qB jK) -> va_S A s.heap H locs -> lv_has ls 7 [(0, .ref a_x), (1, .int x1), (2, .int x2), (3, .int x3), (4, .int x4), (5, .int x5)] -> W p l e rm_X9_dusk s m args below meth c H locs 0 0 (MQ below (q_X9_dusk dC dI cI cC cZ cB cJ A a_x xI xH xB vI wY xX yA xY uD uJ rW uQ uP uO xO tJ jJ mY pG pD pE eO uS tX uR rY tY rG oY rJ pX rO dN bD bJ aI uU gF pL qF mX oE dY jE eW eY dU fY gJ jG nU pQ qI sY uG pY nJ pN post) args s 0 0 A) (F0 m 45 ls [])) : ∀ (x1 x2 x3 x4 x5 : Int32) (vV qY qU : Nat -> Int32) (qB : Int32) (jK : Nat -> Int32) (H : Heap) (locs : List Loc) (ls : Array Slot), (ws_X9_dusk_45 post next dN uU gF pL qF mX oE dY jE eW eY dU fY gJ jG pQ pN) x1 x2 x3 x4 x5 vV qY qU qB jK -> va_P (dC, dI) classes (aXk cI cC cZ cB cJ a_x xI xH xB vI wY xX yA xY uD uJ rW uQ uP uO xO tJ jJ mY pG pD pE eO uS tX uR rY tY rG oY rJ pX rO vV dN bD bJ aI uU gF pL qF mX oE dY jE eW eY dU fY gJ jG nU pQ qI sY uG pY nJ qY qU pN qB jK) H -> va_D A (aXk cI cC cZ cB cJ a_x xI xH xB vI wY xX yA xY uD uJ rW uQ uP uO xO tJ jJ mY pG pD pE eO uS tX uR rY tY rG oY rJ pX rO vV dN bD bJ aI uU gF pL qF mX oE dY jE eW eY dU fY gJ jG nU pQ qI sY uG pY nJ qY qU pN qB jK) -> va_S A s.heap H locs -> lv_has ls 7 [(0, .ref a_x), (1, .int x1), (2, .int x2), (3, .int x3), (4, .int x4), (5, .int x5)] -> W p l e rm_X9_dusk s m args below meth c H locs 0 0 (MQ below (q_X9_dusk dC dI cI cC cZ cB cJ A a_x xI xH xB vI wY xX yA xY uD uJ rW uQ uP uO xO tJ jJ mY pG pD pE eO uS tX uR rY tY rG oY rJ pX rO dN bD bJ aI uU gF pL qF mX oE dY jE eW eY dU fY gJ jG nU pQ qI sY uG pY nJ pN post) args s 0 0 A) (F0 m 45 ls []) := by
  obtain ⟨hx, hb, hr, hml, hown, hts, hlocks, hA, hK, hN, tL, tM, hZL, hTL, hZM, hTM, hZX⟩ := id C0
  intro x1 x2 x3 x4 x5 vV qY qU qB jK H locs ls hp hP hD hS hl
  unfold ws_X9_dusk_45 at hp
  refine lv_iload hx hb bAa.2.2.2.2.2.2.2.2.2.2.1 (lv_at hl 5 rfl) ?_
  refine lv_iload_n hx hb bAa.2.2.2.2.2.2.2.2.2.2.2.1 rfl (lv_at hl 1 rfl) ?_
  refine lv_icmp_gt (tgt := 91) hx hb bAa.2.2.2.2.2.2.2.2.2.2.2.2.1 (by decide) (fun hc => ?_) (fun hc => ?_)
  · have hp := hp.1 hc
    refine lv_aload_n hx hb eX9_dusk_91.1 rfl (lv_at hl 0 rfl) ?_
    refine lv_iload_n hx hb eX9_dusk_91.2.1 rfl (lv_at hl 3 rfl) ?_
    refine lv_iload hx hb eX9_dusk_91.2.2.1 (lv_at hl 4 rfl) ?_
    have hm := mgk (wc := (aRW cI cC cZ cB cJ a_x xI xH xB vI wY xX yA xY uD rG qB jK)) hP mk_151 19 rfl rfl rfl
    refine aBn hP hD hS hA (yS mk_151) (aAi mk_151) hm.1 hm.2 (aAk _) (zW _) (zF (As := [.int x3, .int x4]) (rest := []) C0 hP hD hS (yS mk_151) hm.1 (aAl _) 0 9 rfl rfl (c_X9_tell_ l dC dI cI cC cZ cB cJ a_x xI xH xB vI wY xX yA xY uD rG H.size x3 x4 qB jK _ hp) q_377 q_380 q_378 q_379 aIl h_X9_tell_ rfl rfl ⟨lbz rfl, lbz rfl⟩ rfl rfl hl.1 rfl (lv_room (lbz rfl)) eX9_dusk_91.2.2.2.1 ⟨Nat.zero_le _, Nat.zero_le _⟩) (fun u H locs hp hP hD hS => ?_)
    obtain ⟨ro_size_4, ro_numbers_5⟩ := u
    have hPD := PDm (ws' := (aXk cI cC cZ cB cJ a_x xI xH xB vI wY xX yA xY uD uJ rW uQ uP uO xO tJ jJ mY pG pD pE eO uS tX uR rY tY rG oY rJ pX rO vV dN bD bJ aI uU gF pL qF mX oE dY jE eW eY dU fY gJ jG nU pQ qI sY uG pY nJ qY qU pN ro_size_4 ro_numbers_5)) hP hD 19 rfl rfl rfl
    have hP := hPD.1
    have hD := hPD.2
    refine lv_iload_n hx hb eX9_dusk_91.2.2.2.2.1 rfl (lv_at hl 2 rfl) ?_
    exact W.iret (v := x2) hx hb hr (fun t ht hW => ⟨⟨x2, (vV, qY, qU, ro_size_4, ro_numbers_5), rfl, hp, by rw [ht]; exact hP, va_K.moved hW.alike hK, hD⟩, hS.F ht⟩) hS.2.2 eX9_dusk_91.2.2.2.2.2
  · have hp := hp.2 hc
    refine lv_aload_n hx hb bAa.2.2.2.2.2.2.2.2.2.2.2.2.2.1 rfl (lv_at hl 0 rfl) ?_
    refine va_get (D := (dC, dI)) (ci := 9) (v := .ref xH) (C := RX9) (T := TX9) (N := 9) hx hb hts aC3 hown hK hP 0 rfl rfl 1 (lbz rfl) (hts _ aOt) (fun _ h9 => h9) rfl bAa.2.2.2.2.2.2.2.2.2.2.2.2.2.2.1 ?_
    refine lv_iload hx hb bAa.2.2.2.2.2.2.2.2.2.2.2.2.2.2.2 (lv_at hl 5 rfl) ?_
    have hm := mgk (wc := (wd_X5_duskWorth cI cC cZ cB cJ xH xB vI uJ rW uQ uP uO oY rJ pX rO vV)) hP mk_156 19 rfl rfl rfl
    refine yW hP hD hS hA (yS mk_156) (aAi mk_156) hm.1 hm.2 (aAk _) (zW _) (zF (As := [.int x5]) (rest := []) C0 hP hD hS (yS mk_156) hm.1 (aAl _) 1 5 rfl rfl (c_X5_duskWorth l dC dI cI cC cZ cB cJ xH xB vI uJ rW uQ uP uO H.size x5 oY rJ pX rO vV _ hp) q_559 q_562 q_560 q_561 aRn h_X5_duskWorth rfl rfl ⟨lbz rfl, lbz rfl⟩ rfl rfl hl.1 rfl (lv_room (lbz rfl)) bAb.1 ⟨Nat.zero_le _, Nat.zero_le _⟩) (fun r_6 u H locs hp hP hD hS => ?_)
    have hPD := PDm (ws' := (aXk cI cC cZ cB cJ a_x xI xH xB vI wY xX yA xY uD uJ rW uQ uP uO xO tJ jJ mY pG pD pE eO uS tX uR rY tY rG oY rJ pX rO vV dN bD bJ aI uU gF pL qF mX oE dY jE eW eY dU fY gJ jG nU pQ qI sY uG pY nJ qY qU pN qB jK)) hP hD 19 rfl rfl rfl
    have hP := hPD.1
    have hD := hPD.2
    refine lv_istore (lv' := [(6, .int r_6), (0, .ref a_x), (1, .int x1), (2, .int x2), (3, .int x3), (4, .int x4), (5, .int x5)]) hx hb bAb.2.1 hl (by decide) rfl (fun ls hl => ?_)
    refine lv_iload hx hb bAb.2.2.1 (lv_at hl 0 rfl) ?_
    refine lv_iload_n hx hb bAb.2.2.2.1 rfl (lv_at hl 3 rfl) ?_
    refine lv_icmp_le (tgt := 85) hx hb bAb.2.2.2.2.1 (by decide) (fun hc => ?_) (fun hc => ?_)
    · have hp := hp.1 hc
      exact ks_X9_dusk_85 C0 hKn x1 x2 x3 x4 x5 vV qY qU qB jK H locs ls hp hP hD hS (lv_sub hl [1, 2, 3, 4, 5, 6] rfl)
    · have hp := hp.2 hc
      refine lv_iload hx hb bAb.2.2.2.2.2.1 (lv_at hl 0 rfl) ?_
      refine lv_istore_n (lv' := [(2, .int r_6), (6, .int r_6), (0, .ref a_x), (1, .int x1), (3, .int x3), (4, .int x4), (5, .int x5)]) hx hb bAb.2.2.2.2.2.2.1 rfl hl (by decide) rfl (fun ls hl => ?_)
      refine lv_aload_n hx hb bAb.2.2.2.2.2.2.2.1 rfl (lv_at hl 2 rfl) ?_
      refine va_get (D := (dC, dI)) (ci := 9) (v := .ref xH) (C := RX9) (T := TX9) (N := 9) hx hb hts aC3 hown hK hP 0 rfl rfl 1 (lbz rfl) (hts _ aOt) (fun _ h9 => h9) rfl bAb.2.2.2.2.2.2.2.2.1 ?_
      refine lv_iload hx hb bAb.2.2.2.2.2.2.2.2.2.1 (lv_at hl 6 rfl) ?_
      have hm := mgk (wc := (wd_X5_duskFruits cI cC cZ cB cJ xH xB vI uJ rW uQ uP uO oY rJ pX rO vV)) hP mk_156 19 rfl rfl rfl
      refine yW hP hD hS hA (yS mk_156) (aAi mk_156) hm.1 hm.2 (aAk _) (zW _) (zF (As := [.int x5]) (rest := []) C0 hP hD hS (yS mk_156) hm.1 (aAl _) 1 5 rfl rfl (c_X5_duskFruits l dC dI cI cC cZ cB cJ xH xB vI uJ rW uQ uP uO H.size x5 oY rJ pX rO vV _ hp) q_563 q_566 q_564 q_565 aRn h_X5_duskFruits rfl rfl ⟨lbz rfl, lbz rfl⟩ rfl rfl hl.1 rfl (lv_room (lbz rfl)) bAb.2.2.2.2.2.2.2.2.2.2.1 ⟨Nat.zero_le _, Nat.zero_le _⟩) (fun r_8 u H locs hp hP hD hS => ?_)
      have hPD := PDm (ws' := (aXk cI cC cZ cB cJ a_x xI xH xB vI wY xX yA xY uD uJ rW uQ uP uO xO tJ jJ mY pG pD pE eO uS tX uR rY tY rG oY rJ pX rO vV dN bD bJ aI uU gF pL qF mX oE dY jE eW eY dU fY gJ jG nU pQ qI sY uG pY nJ qY qU pN qB jK)) hP hD 19 rfl rfl rfl
      have hP := hPD.1
      have hD := hPD.2
      refine lv_istore_n (lv' := [(3, .int r_8), (2, .int r_6), (6, .int r_6), (0, .ref a_x), (1, .int x1), (4, .int x4), (5, .int x5)]) hx hb bAb.2.2.2.2.2.2.2.2.2.2.2.1 rfl hl (by decide) rfl (fun ls hl => ?_)
      refine lv_iload hx hb bAb.2.2.2.2.2.2.2.2.2.2.2.2.1 (lv_at hl 6 rfl) ?_
      refine lv_istore (lv' := [(4, .int x5), (3, .int r_8), (2, .int r_6), (6, .int r_6), (0, .ref a_x), (1, .int x1), (5, .int x5)]) hx hb bAb.2.2.2.2.2.2.2.2.2.2.2.2.2.1 hl (by decide) rfl (fun ls hl => ?_)
      exact ks_X9_dusk_85 C0 hKn x1 r_6 r_8 x5 x5 vV qY qU qB jK H locs ls hp hP hD hS (lv_sub hl [4, 5, 2, 1, 0, 6] rfl)
set_option maxHeartbeats 4000000 in
set_option maxRecDepth 100000 in
theorem kb_X9_dusk_45 (C0 : gc aGY (some .int) 7 RX9 (dC, dI) (tyl cI cC cZ cB cJ) A p s m args meth c) : ∀ (n : Nat), ∀ (x1 x2 x3 x4 x5 : Int32) (vV qY qU : Nat -> Int32) (qB : Int32) (jK : Nat -> Int32) (H : Heap) (locs : List Loc) (ls : Array Slot), (wb_X9_dusk_45 post dN uU gF pL qF mX oE dY jE eW eY dU fY gJ jG pQ pN n) x1 x2 x3 x4 x5 vV qY qU qB jK -> va_P (dC, dI) classes (aXk cI cC cZ cB cJ a_x xI xH xB vI wY xX yA xY uD uJ rW uQ uP uO xO tJ jJ mY pG pD pE eO uS tX uR rY tY rG oY rJ pX rO vV dN bD bJ aI uU gF pL qF mX oE dY jE eW eY dU fY gJ jG nU pQ qI sY uG pY nJ qY qU pN qB jK) H -> va_D A (aXk cI cC cZ cB cJ a_x xI xH xB vI wY xX yA xY uD uJ rW uQ uP uO xO tJ jJ mY pG pD pE eO uS tX uR rY tY rG oY rJ pX rO vV dN bD bJ aI uU gF pL qF mX oE dY jE eW eY dU fY gJ jG nU pQ qI sY uG pY nJ qY qU pN qB jK) -> va_S A s.heap H locs -> lv_has ls 7 [(0, .ref a_x), (1, .int x1), (2, .int x2), (3, .int x3), (4, .int x4), (5, .int x5)] -> W p l e rm_X9_dusk s m args below meth c H locs 0 0 (MQ below (q_X9_dusk dC dI cI cC cZ cB cJ A a_x xI xH xB vI wY xX yA xY uD uJ rW uQ uP uO xO tJ jJ mY pG pD pE eO uS tX uR rY tY rG oY rJ pX rO dN bD bJ aI uU gF pL qF mX oE dY jE eW eY dU fY gJ jG nU pQ qI sY uG pY nJ pN post) args s 0 0 A) (F0 m 45 ls []) := by
  intro n
  induction n with
  | zero =>
    intro x1 x2 x3 x4 x5 vV qY qU qB jK H locs ls hp
    exact False.elim hp
  | succ n ih =>
    intro x1 x2 x3 x4 x5 vV qY qU qB jK H locs ls hp
    exact ks_X9_dusk_45 C0 ih x1 x2 x3 x4 x5 vV qY qU qB jK H locs ls hp
end S_X9_dusk
def wp_X9_dusk (post : Int32 -> (Nat -> Int32) -> (Nat -> Int32) -> (Nat -> Int32) -> Int32 -> (Nat -> Int32) -> Prop) (p0 : Int32) (vV : Nat -> Int32) (dN : Int32) (uU gF pL qF mX oE dY : Nat -> Int32) (jE eW eY dU fY gJ jG pQ : Int32) (qY qU pN : Nat -> Int32) (qB : Int32) (jK : Nat -> Int32) : Prop := (p0 < 0 -> post (-1) vV qY qU qB jK) /\ (¬ p0 < 0 -> (p0 <= 300 -> (¬ fY = (-1) -> wp_X5_fillDusk (fun pl_best_1 ru_given_2 ru_stack_3 => ∃ n : Nat, wb_X9_dusk_45 post dN uU gF pL qF mX oE dY jE eW eY dU fY gJ jG pQ pN n p0 0 0 0 1 pl_best_1 ru_given_2 ru_stack_3 qB jK) p0 vV dN uU gF pL qF mX oE dY jE eW eY dU fY gJ jG pQ qY qU pN) /\ (fY = (-1) -> post (-2) vV qY qU qB jK)) /\ (¬ p0 <= 300 -> post (-1) vV qY qU qB jK))
set_option maxHeartbeats 4000000 in
set_option maxRecDepth 100000 in
theorem c_X9_dusk (l : Launch) (dC : Nat -> ClassId) (dI : Nat -> Nat -> Nat) (cI cC cZ cB cJ : ClassId) (a_x xI xH xB vI wY xX yA xY uD uJ rW uQ uP uO xO tJ jJ mY pG pD pE eO uS tX uR rY tY rG sz : Nat) (p0 oY rJ pX rO : Int32) (vV : Nat -> Int32) (dN bD bJ aI : Int32) (uU gF pL qF mX oE dY : Nat -> Int32) (jE eW eY dU fY gJ jG nU pQ qI sY uG pY nJ : Int32) (qY qU pN : Nat -> Int32) (qB : Int32) (jK : Nat -> Int32) (post : Int32 -> (Nat -> Int32) -> (Nat -> Int32) -> (Nat -> Int32) -> Int32 -> (Nat -> Int32) -> Prop) (hw : wp_X9_dusk post p0 vV dN uU gF pL qF mX oE dY jE eW eY dU fY gJ jG pQ qY qU pN qB jK) : Met l yX9_dusk (gw yX9_dusk aGY 7 (some .int)) rm_X9_dusk (va_Pc [.ref a_x, .int p0] (gPre (dC, dI) (tyl cI cC cZ cB cJ) (aXk cI cC cZ cB cJ a_x xI xH xB vI wY xX yA xY uD uJ rW uQ uP uO xO tJ jJ mY pG pD pE eO uS tX uR rY tY rG oY rJ pX rO vV dN bD bJ aI uU gF pL qF mX oE dY jE eW eY dU fY gJ jG nU pQ qI sY uG pY nJ qY qU pN qB jK) sz)) (q_X9_dusk dC dI cI cC cZ cB cJ (va_A (aXk cI cC cZ cB cJ a_x xI xH xB vI wY xX yA xY uD uJ rW uQ uP uO xO tJ jJ mY pG pD pE eO uS tX uR rY tY rG oY rJ pX rO vV dN bD bJ aI uU gF pL qF mX oE dY jE eW eY dU fY gJ jG nU pQ qI sY uG pY nJ qY qU pN qB jK) sz) a_x xI xH xB vI wY xX yA xY uD uJ rW uQ uP uO xO tJ jJ mY pG pD pE eO uS tX uR rY tY rG oY rJ pX rO dN bD bJ aI uU gF pL qF mX oE dY jE eW eY dU fY gJ jG nU pQ qI sY uG pY nJ pN post) 0 0 (va_A (aXk cI cC cZ cB cJ a_x xI xH xB vI wY xX yA xY uD uJ rW uQ uP uO xO tJ jJ mY pG pD pE eO uS tX uR rY tY rG oY rJ pX rO vV dN bD bJ aI uU gF pL qF mX oE dY jE eW eY dU fY gJ jG nU pQ qI sY uG pY nJ qY qU pN qB jK) sz) := by
  refine aBJ (own := RX9) (dC, dI) (tyl cI cC cZ cB cJ) (aXk cI cC cZ cB cJ a_x xI xH xB vI wY xX yA xY uD uJ rW uQ uP uO xO tJ jJ mY pG pD pE eO uS tX uR rY tY rG oY rJ pX rO vV dN bD bJ aI uU gF pL qF mX oE dY jE eW eY dU fY gJ jG nU pQ qI sY uG pY nJ qY qU pN qB jK) sz [.ref a_x, .int p0] (fun A => q_X9_dusk dC dI cI cC cZ cB cJ A a_x xI xH xB vI wY xX yA xY uD uJ rW uQ uP uO xO tJ jJ mY pG pD pE eO uS tX uR rY tY rG oY rJ pX rO dN bD bJ aI uU gF pL qF mX oE dY jE eW eY dU fY gJ jG nU pQ qI sY uG pY nJ pN post) pn_RX9 rfl (lbz rfl) ?_
  intro p e s m args below meth c A H locs ls C0 hP hD hS hl
  have hl : lv_has ls 7 [(0, .ref a_x), (1, .int p0)] := hl
  obtain ⟨hx, hb, hr, hml, hown, hts, hlocks, hA, hK, hN, tL, tM, hZL, hTL, hZM, hTM, hZX⟩ := id C0
  have hp := hw
  unfold wp_X9_dusk at hp
  refine lv_iload_n hx hb bAy.1 rfl (lv_at hl 1 rfl) ?_
  refine lv_if_lt (tgt := 11) hx hb bAy.2.1 (by decide) (fun hc => ?_) (fun hc => ?_)
  · have hp := hp.1 hc
    refine lv_iconst (v := (-1)) hx hb bAy.2.2.2.2.2.1 aEJ ?_
    exact W.iret (v := (-1)) hx hb hr (fun t ht hW => ⟨⟨(-1), (vV, qY, qU, qB, jK), rfl, hp, by rw [ht]; exact hP, va_K.moved hW.alike hK, hD⟩, hS.F ht⟩) hS.2.2 bAy.2.2.2.2.2.2.1
  · have hp := hp.2 hc
    refine lv_iload_n hx hb bAy.2.2.1 rfl (lv_at hl 1 rfl) ?_
    refine lv_sipush (v := 300) hx hb bAy.2.2.2.1 sp_300 ?_
    refine lv_icmp_le (tgt := 13) hx hb bAy.2.2.2.2.1 (by decide) (fun hc => ?_) (fun hc => ?_)
    · have hp := hp.1 hc
      refine lv_aload_n hx hb bAy.2.2.2.2.2.2.2.1 rfl (lv_at hl 0 rfl) ?_
      refine va_get (D := (dC, dI)) (ci := 9) (v := .ref wY) (C := RX9) (T := TX9) (N := 9) hx hb hts aC3 hown hK hP 0 rfl rfl 4 (lbz rfl) (hts _ q_179) (fun _ h9 => h9) rfl bAy.2.2.2.2.2.2.2.2.1 ?_
      refine va_get (D := (dC, dI)) (ci := 2) (v := .int fY) (C := RX2) (T := TX2) (N := 8) hx hb hts i_X2 hown hK hP 12 rfl rfl 4 (lbz rfl) (hts _ q_497) (fun _ h9 => h9) rfl bAy.2.2.2.2.2.2.2.2.2.1 ?_
      refine lv_iconst (v := (-1)) hx hb bAy.2.2.2.2.2.2.2.2.2.2.1 aEJ ?_
      refine lv_icmp_ne (tgt := 27) hx hb bAy.2.2.2.2.2.2.2.2.2.2.2.1 (by decide) (fun hc => ?_) (fun hc => ?_)
      · have hp := hp.1 hc
        refine lv_aload_n hx hb bAy.2.2.2.2.2.2.2.2.2.2.2.2.2.2.1 rfl (lv_at hl 0 rfl) ?_
        refine va_get (D := (dC, dI)) (ci := 9) (v := .ref xH) (C := RX9) (T := TX9) (N := 9) hx hb hts aC3 hown hK hP 0 rfl rfl 1 (lbz rfl) (hts _ aOt) (fun _ h9 => h9) rfl bAy.2.2.2.2.2.2.2.2.2.2.2.2.2.2.2 ?_
        refine lv_iload_n hx hb bAa.1 rfl (lv_at hl 1 rfl) ?_
        have hm := mgk (wc := (aGQ cI cC cZ cB cJ xH xB vI uJ rW uQ uP uO wY xO tJ jJ mY pG pD pE eO uS tX uR rY tY oY rJ pX rO vV dN bD bJ aI uU gF pL qF mX oE dY jE eW eY dU fY gJ jG nU pQ qI sY uG pY nJ qY qU pN)) hP mk_167 19 rfl rfl rfl
        refine aBn hP hD hS hA (yS mk_167) (aAi mk_167) hm.1 hm.2 (aAk _) (zW _) (zF (As := [.int p0]) (rest := []) C0 hP hD hS (yS mk_167) hm.1 (aAl _) 1 5 rfl rfl (c_X5_fillDusk l dC dI cI cC cZ cB cJ xH xB vI uJ rW uQ uP uO wY xO tJ jJ mY pG pD pE eO uS tX uR rY tY H.size p0 oY rJ pX rO vV dN bD bJ aI uU gF pL qF mX oE dY jE eW eY dU fY gJ jG nU pQ qI sY uG pY nJ qY qU pN _ hp) q_555 q_558 q_556 q_557 aRn h_X5_fillDusk rfl rfl ⟨lbz rfl, lbz rfl⟩ rfl rfl hl.1 rfl (lv_room (lbz rfl)) bAa.2.1 ⟨Nat.zero_le _, Nat.zero_le _⟩) (fun u H locs hp hP hD hS => ?_)
        obtain ⟨pl_best_1, ru_given_2, ru_stack_3⟩ := u
        have hPD := PDm (ws' := (aXk cI cC cZ cB cJ a_x xI xH xB vI wY xX yA xY uD uJ rW uQ uP uO xO tJ jJ mY pG pD pE eO uS tX uR rY tY rG oY rJ pX rO pl_best_1 dN bD bJ aI uU gF pL qF mX oE dY jE eW eY dU fY gJ jG nU pQ qI sY uG pY nJ ru_given_2 ru_stack_3 pN qB jK)) hP hD 19 rfl rfl rfl
        have hP := hPD.1
        have hD := hPD.2
        refine lv_iconst (v := 0) hx hb bAa.2.2.1 aCi ?_
        refine lv_istore_n (lv' := [(2, .int 0), (0, .ref a_x), (1, .int p0)]) hx hb bAa.2.2.2.1 rfl hl (by decide) rfl (fun ls hl => ?_)
        refine lv_iconst (v := 0) hx hb bAa.2.2.2.2.1 aCi ?_
        refine lv_istore_n (lv' := [(3, .int 0), (2, .int 0), (0, .ref a_x), (1, .int p0)]) hx hb bAa.2.2.2.2.2.1 rfl hl (by decide) rfl (fun ls hl => ?_)
        refine lv_iconst (v := 0) hx hb bAa.2.2.2.2.2.2.1 aCi ?_
        refine lv_istore (lv' := [(4, .int 0), (3, .int 0), (2, .int 0), (0, .ref a_x), (1, .int p0)]) hx hb bAa.2.2.2.2.2.2.2.1 hl (by decide) rfl (fun ls hl => ?_)
        refine lv_iconst (v := 1) hx hb bAa.2.2.2.2.2.2.2.2.1 aDx ?_
        refine lv_istore (lv' := [(5, .int 1), (4, .int 0), (3, .int 0), (2, .int 0), (0, .ref a_x), (1, .int p0)]) hx hb bAa.2.2.2.2.2.2.2.2.2.1 hl (by decide) rfl (fun ls hl => ?_)
        obtain ⟨n9, hp⟩ := hp
        exact kb_X9_dusk_45 C0 n9 p0 0 0 0 1 pl_best_1 ru_given_2 ru_stack_3 qB jK H locs ls hp hP hD hS (lv_sub hl [4, 5, 3, 2, 1, 0] rfl)
      · have hp := hp.2 hc
        refine lv_bipush (v := (-2)) hx hb bAy.2.2.2.2.2.2.2.2.2.2.2.2.1 bp_m2 ?_
        exact W.iret (v := (-2)) hx hb hr (fun t ht hW => ⟨⟨(-2), (vV, qY, qU, qB, jK), rfl, hp, by rw [ht]; exact hP, va_K.moved hW.alike hK, hD⟩, hS.F ht⟩) hS.2.2 bAy.2.2.2.2.2.2.2.2.2.2.2.2.2.1
    · have hp := hp.2 hc
      refine lv_iconst (v := (-1)) hx hb bAy.2.2.2.2.2.1 aEJ ?_
      exact W.iret (v := (-1)) hx hb hr (fun t ht hW => ⟨⟨(-1), (vV, qY, qU, qB, jK), rfl, hp, by rw [ht]; exact hP, va_K.moved hW.alike hK, hD⟩, hS.F ht⟩) hS.2.2 bAy.2.2.2.2.2.2.1
abbrev aG7 (cI cC cZ cB cJ : ClassId) (vI tJ jJ mY pG pD pE eO : Nat) (dN bD bJ aI : Int32) (uU gF : Nat -> Int32) : va_W := [(vI, .inr (3, [.ref tJ, .ref jJ, .ref mY, .ref pG, .ref pD, .ref pE, .ref eO, .int dN, .int bD, .int bJ, .int aI])), (tJ, .inl (cI, 16, .inl uU)), (jJ, .inl (cI, 16, .inl gF))]
abbrev bBm (dC : Nat -> ClassId) (dI : Nat -> Nat -> Nat) (cI cC cZ cB cJ : ClassId) (A : Nat -> Prop) (vI tJ jJ mY pG pD pE eO : Nat) (dN bD bJ aI : Int32) (uU gF : Nat -> Int32) (post : Int32 -> Prop) : Array Value -> State -> Outcome -> State -> Prop := va_Qi (fun (r : Int32) (u : Unit) => post r) (fun u t => gB (dC, dI) (tyl cI cC cZ cB cJ) A (aG7 cI cC cZ cB cJ vI tJ jJ mY pG pD pE eO dN bD bJ aI uU gF) t) A
abbrev rm_X3_firstUncovering : Room := { frames := 2, cells := 0, slots := 0, locals := 46 }
section S_X3_firstUncovering
variable {p : Program} {l : Launch} {e : Env} {s : State} {m : MethodId} {args : Array Value} {below : List Frame} {meth : Method} {c : Code} {dC : Nat -> ClassId} {dI : Nat -> Nat -> Nat} {cI cC cZ cB cJ : ClassId} {A : Nat -> Prop} {vI tJ jJ mY pG pD pE eO : Nat} {dN bD bJ aI : Int32} {uU gF : Nat -> Int32} {post : Int32 -> Prop}
def ws_X3_firstUncovering_29 (post : Int32 -> Prop) (K2 : Int32 -> Int32 -> Int32 -> Prop) (dN : Int32) (uU gF : Nat -> Int32) (x1 x2 x3 : Int32) : Prop := ∀ v_2 : Int32, v_2 = x3 + 1 -> K2 x1 x2 v_2
set_option maxHeartbeats 4000000 in
set_option maxRecDepth 100000 in
theorem ks_X3_firstUncovering_29 (C0 : gc aEA (some .int) 4 RX3 (dC, dI) (tyl cI cC cZ cB cJ) A p s m args meth c) {K2 : Int32 -> Int32 -> Int32 -> Prop} (hK2 : ∀ (x1 : Int32) (x2 : Int32) (x3 : Int32) (H : Heap) (locs : List Loc) (ls : Array Slot), K2 x1 x2 x3 -> va_P (dC, dI) classes (aG7 cI cC cZ cB cJ vI tJ jJ mY pG pD pE eO dN bD bJ aI uU gF) H -> va_D A (aG7 cI cC cZ cB cJ vI tJ jJ mY pG pD pE eO dN bD bJ aI uU gF) -> va_S A s.heap H locs -> lv_has ls 4 [(0, .ref vI), (1, .int x1), (2, .int x2), (3, .int x3)] -> W p l e rm_X3_firstUncovering s m args below meth c H locs 0 0 (MQ below (bBm dC dI cI cC cZ cB cJ A vI tJ jJ mY pG pD pE eO dN bD bJ aI uU gF post) args s 0 0 A) (F0 m 2 ls [])) : ∀ (x1 x2 x3 : Int32) (H : Heap) (locs : List Loc) (ls : Array Slot), (ws_X3_firstUncovering_29 post K2 dN uU gF) x1 x2 x3 -> va_P (dC, dI) classes (aG7 cI cC cZ cB cJ vI tJ jJ mY pG pD pE eO dN bD bJ aI uU gF) H -> va_D A (aG7 cI cC cZ cB cJ vI tJ jJ mY pG pD pE eO dN bD bJ aI uU gF) -> va_S A s.heap H locs -> lv_has ls 4 [(0, .ref vI), (1, .int x1), (2, .int x2), (3, .int x3)] -> W p l e rm_X3_firstUncovering s m args below meth c H locs 0 0 (MQ below (bBm dC dI cI cC cZ cB cJ A vI tJ jJ mY pG pD pE eO dN bD bJ aI uU gF post) args s 0 0 A) (F0 m 29 ls []) := by
  obtain ⟨hx, hb, hr, hml, hown, hts, hlocks, hA, hK, hN, tL, tM, hZL, hTL, hZM, hTM, hZX⟩ := id C0
  intro x1 x2 x3 H locs ls hp hP hD hS hl
  unfold ws_X3_firstUncovering_29 at hp
  obtain ⟨v_2, aGO⟩ : ∃ y : Int32, y = x3 + 1 := ⟨_, rfl⟩
  refine lv_iinc (v := v_2) (lv' := [(3, .int v_2), (0, .ref vI), (1, .int x1), (2, .int x2)]) hx hb aYX.2.2.2.1 hl (k := 3) rfl (by rw [aGO]; rfl) (by decide) rfl (fun ls hl => ?_)
  have hp := hp v_2 aGO
  refine lv_goto (tgt := 2) hx hb aYX.2.2.2.2.1 (by decide) ?_
  exact hK2 x1 x2 v_2 H locs ls hp hP hD hS (lv_sub hl [1, 2, 3, 0] rfl)
def ws_X3_firstUncovering_2 (post : Int32 -> Prop) (next : Int32 -> Int32 -> Int32 -> Prop) (dN : Int32) (uU gF : Nat -> Int32) (x1 x2 x3 : Int32) : Prop := (dN <= x3 -> post (-1)) /\ (¬ dN <= x3 -> ∀ v_1 : Int32, v_1 = x1 >>> (x3 &&& 31) -> ((v_1 &&& 1) = 0 -> ws_X3_firstUncovering_29 post next dN uU gF x1 x2 x3) /\ (¬ (v_1 &&& 1) = 0 -> bA6 (fun r_3 => (¬ r_3 = 0 -> ws_X3_firstUncovering_29 post next dN uU gF x1 x2 x3) /\ (r_3 = 0 -> post x3)) x3 x2 dN uU gF))
noncomputable def wb_X3_firstUncovering_2 (post : Int32 -> Prop) (dN : Int32) (uU gF : Nat -> Int32) : Nat -> Int32 -> Int32 -> Int32 -> Prop := fun n => Nat.rec (motive := fun _ => Int32 -> Int32 -> Int32 -> Prop) (fun _ _ _ => False) (fun _ ih => ws_X3_firstUncovering_2 post ih dN uU gF) n
set_option maxHeartbeats 4000000 in
set_option maxRecDepth 100000 in
theorem ks_X3_firstUncovering_2 (C0 : gc aEA (some .int) 4 RX3 (dC, dI) (tyl cI cC cZ cB cJ) A p s m args meth c) {next : Int32 -> Int32 -> Int32 -> Prop} (hKn : ∀ (x1 : Int32) (x2 : Int32) (x3 : Int32) (H : Heap) (locs : List Loc) (ls : Array Slot), next x1 x2 x3 -> va_P (dC, dI) classes (aG7 cI cC cZ cB cJ vI tJ jJ mY pG pD pE eO dN bD bJ aI uU gF) H -> va_D A (aG7 cI cC cZ cB cJ vI tJ jJ mY pG pD pE eO dN bD bJ aI uU gF) -> va_S A s.heap H locs -> lv_has ls 4 [(0, .ref vI), (1, .int x1), (2, .int x2), (3, .int x3)] -> W p l e rm_X3_firstUncovering s m args below meth c H locs 0 0 (MQ below (bBm dC dI cI cC cZ cB cJ A vI tJ jJ mY pG pD pE eO dN bD bJ aI uU gF post) args s 0 0 A) (F0 m 2 ls [])) : ∀ (x1 x2 x3 : Int32) (H : Heap) (locs : List Loc) (ls : Array Slot), (ws_X3_firstUncovering_2 post next dN uU gF) x1 x2 x3 -> va_P (dC, dI) classes (aG7 cI cC cZ cB cJ vI tJ jJ mY pG pD pE eO dN bD bJ aI uU gF) H -> va_D A (aG7 cI cC cZ cB cJ vI tJ jJ mY pG pD pE eO dN bD bJ aI uU gF) -> va_S A s.heap H locs -> lv_has ls 4 [(0, .ref vI), (1, .int x1), (2, .int x2), (3, .int x3)] -> W p l e rm_X3_firstUncovering s m args below meth c H locs 0 0 (MQ below (bBm dC dI cI cC cZ cB cJ A vI tJ jJ mY pG pD pE eO dN bD bJ aI uU gF post) args s 0 0 A) (F0 m 2 ls []) := by
  obtain ⟨hx, hb, hr, hml, hown, hts, hlocks, hA, hK, hN, tL, tM, hZL, hTL, hZM, hTM, hZX⟩ := id C0
  intro x1 x2 x3 H locs ls hp hP hD hS hl
  unfold ws_X3_firstUncovering_2 at hp
  refine lv_iload_n hx hb aHn.2.2.1 rfl (lv_at hl 3 rfl) ?_
  refine lv_aload_n hx hb aHn.2.2.2.1 rfl (lv_at hl 0 rfl) ?_
  refine va_get (D := (dC, dI)) (ci := 3) (v := .int dN) (C := RX3) (T := TX3) (N := 11) hx hb hts i_X3 hown hK hP 0 rfl rfl 7 (lbz rfl) (hts _ q_20) (fun _ h9 => h9) rfl aHn.2.2.2.2.1 ?_
  refine lv_icmp_ge (tgt := 35) hx hb aHn.2.2.2.2.2.1 (by decide) (fun hc => ?_) (fun hc => ?_)
  · have hp := hp.1 hc
    refine lv_iconst (v := (-1)) hx hb aYX.2.2.2.2.2.1 aEJ ?_
    exact W.iret (v := (-1)) hx hb hr (fun t ht hW => ⟨⟨(-1), (), rfl, hp, by rw [ht]; exact hP, va_K.moved hW.alike hK, hD⟩, hS.F ht⟩) hS.2.2 aYX.2.2.2.2.2.2
  · have hp := hp.2 hc
    refine lv_iload_n hx hb aHn.2.2.2.2.2.2.1 rfl (lv_at hl 1 rfl) ?_
    refine lv_iload_n hx hb aHn.2.2.2.2.2.2.2.1 rfl (lv_at hl 3 rfl) ?_
    refine lv_ishr hx hb aHn.2.2.2.2.2.2.2.2.1 ?_
    refine lv_topi (fun v_1 aFJ => ?_)
    have hp := hp v_1 aFJ
    refine lv_iconst (v := 1) hx hb aHn.2.2.2.2.2.2.2.2.2.1 aDx ?_
    refine lv_iand hx hb aHn.2.2.2.2.2.2.2.2.2.2.1 ?_
    refine lv_if_eq (tgt := 29) hx hb aHn.2.2.2.2.2.2.2.2.2.2.2.1 (by decide) (fun hc => ?_) (fun hc => ?_)
    · have hp := hp.1 hc
      exact ks_X3_firstUncovering_29 C0 hKn x1 x2 x3 H locs ls hp hP hD hS (lv_sub hl [0, 1, 2, 3] rfl)
    · have hp := hp.2 hc
      refine lv_aload_n hx hb aHn.2.2.2.2.2.2.2.2.2.2.2.2.1 rfl (lv_at hl 0 rfl) ?_
      refine lv_iload_n hx hb aHn.2.2.2.2.2.2.2.2.2.2.2.2.2.1 rfl (lv_at hl 3 rfl) ?_
      refine lv_iload_n hx hb aHn.2.2.2.2.2.2.2.2.2.2.2.2.2.2.1 rfl (lv_at hl 2 rfl) ?_
      have hm := mgk (wc := (aGD cI cC cZ cB cJ vI tJ jJ mY pG pD pE eO dN bD bJ aI uU gF)) hP mk_85 3 rfl rfl rfl
      refine yW hP hD hS hA (yS mk_85) (aAi mk_85) hm.1 hm.2 (aAk _) (zW _) (zF (As := [.int x3, .int x2]) (rest := []) C0 hP hD hS (yS mk_85) hm.1 (aAl _) 0 3 rfl rfl (c_X3_lowerThan l dC dI cI cC cZ cB cJ vI tJ jJ mY pG pD pE eO H.size x3 x2 dN bD bJ aI uU gF _ hp) q_191 q_567 q_192 q_193 q_48 h_X3_lowerThan rfl rfl ⟨lbz rfl, lbz rfl⟩ rfl rfl hl.1 rfl (lv_room (lbz rfl)) aHn.2.2.2.2.2.2.2.2.2.2.2.2.2.2.2 ⟨Nat.zero_le _, Nat.zero_le _⟩) (fun r_3 u H locs hp hP hD hS => ?_)
      have hPD := PDm (ws' := (aG7 cI cC cZ cB cJ vI tJ jJ mY pG pD pE eO dN bD bJ aI uU gF)) hP hD 3 rfl rfl rfl
      have hP := hPD.1
      have hD := hPD.2
      refine lv_if_ne (tgt := 29) hx hb aYX.1 (by decide) (fun hc => ?_) (fun hc => ?_)
      · have hp := hp.1 hc
        exact ks_X3_firstUncovering_29 C0 hKn x1 x2 x3 H locs ls hp hP hD hS (lv_sub hl [0, 1, 2, 3] rfl)
      · have hp := hp.2 hc
        refine lv_iload_n hx hb aYX.2.1 rfl (lv_at hl 3 rfl) ?_
        exact W.iret (v := x3) hx hb hr (fun t ht hW => ⟨⟨x3, (), rfl, hp, by rw [ht]; exact hP, va_K.moved hW.alike hK, hD⟩, hS.F ht⟩) hS.2.2 aYX.2.2.1
set_option maxHeartbeats 4000000 in
set_option maxRecDepth 100000 in
theorem kb_X3_firstUncovering_2 (C0 : gc aEA (some .int) 4 RX3 (dC, dI) (tyl cI cC cZ cB cJ) A p s m args meth c) : ∀ (n : Nat), ∀ (x1 x2 x3 : Int32) (H : Heap) (locs : List Loc) (ls : Array Slot), (wb_X3_firstUncovering_2 post dN uU gF n) x1 x2 x3 -> va_P (dC, dI) classes (aG7 cI cC cZ cB cJ vI tJ jJ mY pG pD pE eO dN bD bJ aI uU gF) H -> va_D A (aG7 cI cC cZ cB cJ vI tJ jJ mY pG pD pE eO dN bD bJ aI uU gF) -> va_S A s.heap H locs -> lv_has ls 4 [(0, .ref vI), (1, .int x1), (2, .int x2), (3, .int x3)] -> W p l e rm_X3_firstUncovering s m args below meth c H locs 0 0 (MQ below (bBm dC dI cI cC cZ cB cJ A vI tJ jJ mY pG pD pE eO dN bD bJ aI uU gF post) args s 0 0 A) (F0 m 2 ls []) := by
  intro n
  induction n with
  | zero =>
    intro x1 x2 x3 H locs ls hp
    exact False.elim hp
  | succ n ih =>
    intro x1 x2 x3 H locs ls hp
    exact ks_X3_firstUncovering_2 C0 ih x1 x2 x3 H locs ls hp
end S_X3_firstUncovering
def wp_X3_firstUncovering (post : Int32 -> Prop) (p0 p1 dN : Int32) (uU gF : Nat -> Int32) : Prop := ∃ n : Nat, wb_X3_firstUncovering_2 post dN uU gF n p0 p1 0
set_option maxHeartbeats 4000000 in
set_option maxRecDepth 100000 in
theorem c_X3_firstUncovering (l : Launch) (dC : Nat -> ClassId) (dI : Nat -> Nat -> Nat) (cI cC cZ cB cJ : ClassId) (vI tJ jJ mY pG pD pE eO sz : Nat) (p0 p1 dN bD bJ aI : Int32) (uU gF : Nat -> Int32) (post : Int32 -> Prop) (hw : wp_X3_firstUncovering post p0 p1 dN uU gF) : Met l aUB (gw aUB aEA 4 (some .int)) rm_X3_firstUncovering (va_Pc [.ref vI, .int p0, .int p1] (gPre (dC, dI) (tyl cI cC cZ cB cJ) (aG7 cI cC cZ cB cJ vI tJ jJ mY pG pD pE eO dN bD bJ aI uU gF) sz)) (bBm dC dI cI cC cZ cB cJ (va_A (aG7 cI cC cZ cB cJ vI tJ jJ mY pG pD pE eO dN bD bJ aI uU gF) sz) vI tJ jJ mY pG pD pE eO dN bD bJ aI uU gF post) 0 0 (va_A (aG7 cI cC cZ cB cJ vI tJ jJ mY pG pD pE eO dN bD bJ aI uU gF) sz) := by
  refine aBJ (own := RX3) (dC, dI) (tyl cI cC cZ cB cJ) (aG7 cI cC cZ cB cJ vI tJ jJ mY pG pD pE eO dN bD bJ aI uU gF) sz [.ref vI, .int p0, .int p1] (fun A => bBm dC dI cI cC cZ cB cJ A vI tJ jJ mY pG pD pE eO dN bD bJ aI uU gF post) pn_RX3 rfl (lbz rfl) ?_
  intro p e s m args below meth c A H locs ls C0 hP hD hS hl
  have hl : lv_has ls 4 [(0, .ref vI), (1, .int p0), (2, .int p1)] := hl
  obtain ⟨hx, hb, hr, hml, hown, hts, hlocks, hA, hK, hN, tL, tM, hZL, hTL, hZM, hTM, hZX⟩ := id C0
  have hp := hw
  unfold wp_X3_firstUncovering at hp
  refine lv_iconst (v := 0) hx hb aHn.1 aCi ?_
  refine lv_istore_n (lv' := [(3, .int 0), (0, .ref vI), (1, .int p0), (2, .int p1)]) hx hb aHn.2.1 rfl hl (by decide) rfl (fun ls hl => ?_)
  obtain ⟨n9, hp⟩ := hp
  exact kb_X3_firstUncovering_2 C0 n9 p0 p1 0 H locs ls hp hP hD hS (lv_sub hl [1, 2, 3, 0] rfl)
abbrev aRN (cI cC cZ cB cJ : ClassId) (a_x xI xH xB vI wY xX yA xY uD xO tJ jJ mY pG pD pE eO rG : Nat) (dN bD bJ aI : Int32) (uU gF qF mX oE dY : Nat -> Int32) (jE eW eY dU fY gJ jG nU qB : Int32) (jK : Nat -> Int32) : va_W := [(a_x, .inr (9, [.ref xI, .ref xH, .ref xB, .ref vI, .ref wY, .ref xX, .ref yA, .ref xY, .ref uD])), (xB, .inr (0, [.ref vI, .ref wY, .ref xO])), (vI, .inr (3, [.ref tJ, .ref jJ, .ref mY, .ref pG, .ref pD, .ref pE, .ref eO, .int dN, .int bD, .int bJ, .int aI])), (tJ, .inl (cI, 16, .inl uU)), (jJ, .inl (cI, 16, .inl gF)), (pG, .inl (cI, 16, .inl qF)), (pD, .inl (cI, 8, .inl mX)), (pE, .inl (cI, 8, .inl oE)), (eO, .inl (cI, 5, .inl dY)), (wY, .inr (2, [.int jE, .int eW, .int eY, .int dU, .int fY, .int gJ, .int jG, .int nU])), (yA, .inr (6, [.ref rG, .int qB])), (rG, .inl (cI, 16, .inl jK))]
abbrev q_X9_gentle (dC : Nat -> ClassId) (dI : Nat -> Nat -> Nat) (cI cC cZ cB cJ : ClassId) (A : Nat -> Prop) (a_x xI xH xB vI wY xX yA xY uD xO tJ jJ mY pG pD pE eO rG : Nat) (dN bD bJ aI : Int32) (uU gF qF mX oE dY : Nat -> Int32) (jE eW eY dU fY gJ jG nU : Int32) (post : Int32 -> Int32 -> (Nat -> Int32) -> Prop) : Array Value -> State -> Outcome -> State -> Prop := va_Qi (fun (r : Int32) (u : Int32 × (Nat -> Int32)) => post r u.1 u.2) (fun u t => gB (dC, dI) (tyl cI cC cZ cB cJ) A (aRN cI cC cZ cB cJ a_x xI xH xB vI wY xX yA xY uD xO tJ jJ mY pG pD pE eO rG dN bD bJ aI uU gF qF mX oE dY jE eW eY dU fY gJ jG nU u.1 u.2) t) A
abbrev rm_X9_gentle : Room := { frames := 4, cells := 0, slots := 0, locals := 92 }
section S_X9_gentle
variable {p : Program} {l : Launch} {e : Env} {s : State} {m : MethodId} {args : Array Value} {below : List Frame} {meth : Method} {c : Code} {dC : Nat -> ClassId} {dI : Nat -> Nat -> Nat} {cI cC cZ cB cJ : ClassId} {A : Nat -> Prop} {a_x xI xH xB vI wY xX yA xY uD xO tJ jJ mY pG pD pE eO rG : Nat} {dN bD bJ aI : Int32} {uU gF qF mX oE dY : Nat -> Int32} {jE eW eY dU fY gJ jG nU : Int32} {post : Int32 -> Int32 -> (Nat -> Int32) -> Prop}
def ws_X9_gentle_91 (post : Int32 -> Int32 -> (Nat -> Int32) -> Prop) (dN : Int32) (uU gF qF mX oE dY : Nat -> Int32) (jE eW eY fY gJ jG qB : Int32) (jK : Nat -> Int32) : Prop := post qB qB jK
set_option maxHeartbeats 4000000 in
set_option maxRecDepth 100000 in
theorem ks_X9_gentle_91 (C0 : gc aEW (some .int) 5 RX9 (dC, dI) (tyl cI cC cZ cB cJ) A p s m args meth c) : ∀ (qB : Int32) (jK : Nat -> Int32) (H : Heap) (locs : List Loc) (ls : Array Slot), (ws_X9_gentle_91 post dN uU gF qF mX oE dY jE eW eY fY gJ jG) qB jK -> va_P (dC, dI) classes (aRN cI cC cZ cB cJ a_x xI xH xB vI wY xX yA xY uD xO tJ jJ mY pG pD pE eO rG dN bD bJ aI uU gF qF mX oE dY jE eW eY dU fY gJ jG nU qB jK) H -> va_D A (aRN cI cC cZ cB cJ a_x xI xH xB vI wY xX yA xY uD xO tJ jJ mY pG pD pE eO rG dN bD bJ aI uU gF qF mX oE dY jE eW eY dU fY gJ jG nU qB jK) -> va_S A s.heap H locs -> lv_has ls 5 [(0, .ref a_x)] -> W p l e rm_X9_gentle s m args below meth c H locs 0 0 (MQ below (q_X9_gentle dC dI cI cC cZ cB cJ A a_x xI xH xB vI wY xX yA xY uD xO tJ jJ mY pG pD pE eO rG dN bD bJ aI uU gF qF mX oE dY jE eW eY dU fY gJ jG nU post) args s 0 0 A) (F0 m 91 ls []) := by
  obtain ⟨hx, hb, hr, hml, hown, hts, hlocks, hA, hK, hN, tL, tM, hZL, hTL, hZM, hTM, hZX⟩ := id C0
  intro qB jK H locs ls hp hP hD hS hl
  unfold ws_X9_gentle_91 at hp
  refine lv_aload_n hx hb eX9_gentle_88.2.1 rfl (lv_at hl 0 rfl) ?_
  refine va_get (D := (dC, dI)) (ci := 9) (v := .ref yA) (C := RX9) (T := TX9) (N := 9) hx hb hts aC3 hown hK hP 0 rfl rfl 6 (lbz rfl) (hts _ q_363) (fun _ h9 => h9) rfl eX9_gentle_88.2.2.1 ?_
  refine va_get (D := (dC, dI)) (ci := 6) (v := .int qB) (C := RX6) (T := TX6) (N := 2) hx hb hts i_X6 hown hK hP 10 rfl rfl 1 (lbz rfl) (hts _ q_461) (fun _ h9 => h9) rfl eX9_gentle_88.2.2.2.1 ?_
  exact W.iret (v := qB) hx hb hr (fun t ht hW => ⟨⟨qB, (qB, jK), rfl, hp, by rw [ht]; exact hP, va_K.moved hW.alike hK, hD⟩, hS.F ht⟩) hS.2.2 eX9_gentle_88.2.2.2.2
def ws_X9_gentle_39 (post : Int32 -> Int32 -> (Nat -> Int32) -> Prop) (next : Int32 -> Int32 -> Int32 -> Int32 -> (Nat -> Int32) -> Prop) (dN : Int32) (uU gF qF mX oE dY : Nat -> Int32) (jE eW eY fY gJ jG x1 x2 x3 qB : Int32) (jK : Nat -> Int32) : Prop := (16 <= x3 -> ws_X9_gentle_91 post dN uU gF qF mX oE dY jE eW eY fY gJ jG qB jK) /\ (¬ 16 <= x3 -> ∀ v_4 : Int32, v_4 = x2 &&& x1 -> wp_X3_firstUncovering (fun r_5 => (¬ r_5 = (-1) -> wp_X6_add (fun aKD aF9 => ∀ v_8 : Int32, v_8 = 1 <<< (r_5 &&& 31) -> ∀ v_9 : Int32, v_9 = x1 &&& (v_8 ^^^ (-1)) -> ∀ aEr : Int32, aEr = x3 + 1 -> next v_9 x2 aEr aKD aF9) r_5 qB jK) /\ (r_5 = (-1) -> ws_X9_gentle_91 post dN uU gF qF mX oE dY jE eW eY fY gJ jG qB jK)) v_4 x1 dN uU gF)
noncomputable def wb_X9_gentle_39 (post : Int32 -> Int32 -> (Nat -> Int32) -> Prop) (dN : Int32) (uU gF qF mX oE dY : Nat -> Int32) (jE eW eY fY gJ jG : Int32) : Nat -> Int32 -> Int32 -> Int32 -> Int32 -> (Nat -> Int32) -> Prop := fun n => Nat.rec (motive := fun _ => Int32 -> Int32 -> Int32 -> Int32 -> (Nat -> Int32) -> Prop) (fun _ _ _ _ _ => False) (fun _ ih => ws_X9_gentle_39 post ih dN uU gF qF mX oE dY jE eW eY fY gJ jG) n
set_option maxHeartbeats 4000000 in
set_option maxRecDepth 100000 in
theorem ks_X9_gentle_39 (C0 : gc aEW (some .int) 5 RX9 (dC, dI) (tyl cI cC cZ cB cJ) A p s m args meth c) {next : Int32 -> Int32 -> Int32 -> Int32 -> (Nat -> Int32) -> Prop} (hKn : ∀ (x1 : Int32) (x2 : Int32) (x3 : Int32) (qB : Int32) (jK : Nat -> Int32) (H : Heap) (locs : List Loc) (ls : Array Slot), next x1 x2 x3 qB jK -> va_P (dC, dI) classes (aRN cI cC cZ cB cJ a_x xI xH xB vI wY xX yA xY uD xO tJ jJ mY pG pD pE eO rG dN bD bJ aI uU gF qF mX oE dY jE eW eY dU fY gJ jG nU qB jK) H -> va_D A (aRN cI cC cZ cB cJ a_x xI xH xB vI wY xX yA xY uD xO tJ jJ mY pG pD pE eO rG dN bD bJ aI uU gF qF mX oE dY jE eW eY dU fY gJ jG nU qB jK) -> va_S A s.heap H locs -> lv_has ls 5 [(0, .ref a_x), (1, .int x1), (2, .int x2), (3, .int x3)] -> W p l e rm_X9_gentle s m args below meth c H locs 0 0 (MQ below (q_X9_gentle dC dI cI cC cZ cB cJ A a_x xI xH xB vI wY xX yA xY uD xO tJ jJ mY pG pD pE eO rG dN bD bJ aI uU gF qF mX oE dY jE eW eY dU fY gJ jG nU post) args s 0 0 A) (F0 m 39 ls [])) : ∀ (x1 x2 x3 qB : Int32) (jK : Nat -> Int32) (H : Heap) (locs : List Loc) (ls : Array Slot), (ws_X9_gentle_39 post next dN uU gF qF mX oE dY jE eW eY fY gJ jG) x1 x2 x3 qB jK -> va_P (dC, dI) classes (aRN cI cC cZ cB cJ a_x xI xH xB vI wY xX yA xY uD xO tJ jJ mY pG pD pE eO rG dN bD bJ aI uU gF qF mX oE dY jE eW eY dU fY gJ jG nU qB jK) H -> va_D A (aRN cI cC cZ cB cJ a_x xI xH xB vI wY xX yA xY uD xO tJ jJ mY pG pD pE eO rG dN bD bJ aI uU gF qF mX oE dY jE eW eY dU fY gJ jG nU qB jK) -> va_S A s.heap H locs -> lv_has ls 5 [(0, .ref a_x), (1, .int x1), (2, .int x2), (3, .int x3)] -> W p l e rm_X9_gentle s m args below meth c H locs 0 0 (MQ below (q_X9_gentle dC dI cI cC cZ cB cJ A a_x xI xH xB vI wY xX yA xY uD xO tJ jJ mY pG pD pE eO rG dN bD bJ aI uU gF qF mX oE dY jE eW eY dU fY gJ jG nU post) args s 0 0 A) (F0 m 39 ls []) := by
  obtain ⟨hx, hb, hr, hml, hown, hts, hlocks, hA, hK, hN, tL, tM, hZL, hTL, hZM, hTM, hZX⟩ := id C0
  intro x1 x2 x3 qB jK H locs ls hp hP hD hS hl
  unfold ws_X9_gentle_39 at hp
  refine lv_iload_n hx hb aTs.2.2.2.2.1 rfl (lv_at hl 3 rfl) ?_
  refine lv_bipush (v := 16) hx hb aTs.2.2.2.2.2.1 bp_16 ?_
  refine lv_icmp_ge (tgt := 91) hx hb aTs.2.2.2.2.2.2.1 (by decide) (fun hc => ?_) (fun hc => ?_)
  · have hp := hp.1 hc
    exact ks_X9_gentle_91 C0 qB jK H locs ls hp hP hD hS (lv_sub hl [0] rfl)
  · have hp := hp.2 hc
    refine lv_aload_n hx hb aTs.2.2.2.2.2.2.2.1 rfl (lv_at hl 0 rfl) ?_
    refine va_get (D := (dC, dI)) (ci := 9) (v := .ref vI) (C := RX9) (T := TX9) (N := 9) hx hb hts aC3 hown hK hP 0 rfl rfl 3 (lbz rfl) (hts _ q_74) (fun _ h9 => h9) rfl aTs.2.2.2.2.2.2.2.2.1 ?_
    refine lv_iload_n hx hb aTs.2.2.2.2.2.2.2.2.2.1 rfl (lv_at hl 2 rfl) ?_
    refine lv_iload_n hx hb aTs.2.2.2.2.2.2.2.2.2.2.1 rfl (lv_at hl 1 rfl) ?_
    refine lv_iand hx hb aTs.2.2.2.2.2.2.2.2.2.2.2.1 ?_
    refine lv_topi (fun v_4 aHM => ?_)
    have hp := hp v_4 aHM
    refine lv_iload_n hx hb aTs.2.2.2.2.2.2.2.2.2.2.2.2.1 rfl (lv_at hl 1 rfl) ?_
    have hm := mgk (wc := (aG7 cI cC cZ cB cJ vI tJ jJ mY pG pD pE eO dN bD bJ aI uU gF)) hP mk_168 12 rfl rfl rfl
    refine yW hP hD hS hA (yS mk_168) (aAi mk_168) hm.1 hm.2 (aAk _) (zW _) (zF (As := [.int v_4, .int x1]) (rest := []) C0 hP hD hS (yS mk_168) hm.1 (aAl _) 2 3 rfl rfl (c_X3_firstUncovering l dC dI cI cC cZ cB cJ vI tJ jJ mY pG pD pE eO H.size v_4 x1 dN bD bJ aI uU gF _ hp) q_569 q_572 q_570 q_571 q_48 h_X3_firstUncovering rfl rfl ⟨lbz rfl, lbz rfl⟩ rfl rfl hl.1 rfl (lv_room (lbz rfl)) aTs.2.2.2.2.2.2.2.2.2.2.2.2.2.1 ⟨Nat.zero_le _, Nat.zero_le _⟩) (fun r_5 u H locs hp hP hD hS => ?_)
    have hPD := PDm (ws' := (aRN cI cC cZ cB cJ a_x xI xH xB vI wY xX yA xY uD xO tJ jJ mY pG pD pE eO rG dN bD bJ aI uU gF qF mX oE dY jE eW eY dU fY gJ jG nU qB jK)) hP hD 12 rfl rfl rfl
    have hP := hPD.1
    have hD := hPD.2
    refine lv_istore (lv' := [(4, .int r_5), (0, .ref a_x), (1, .int x1), (2, .int x2), (3, .int x3)]) hx hb aTs.2.2.2.2.2.2.2.2.2.2.2.2.2.2.1 hl (by decide) rfl (fun ls hl => ?_)
    refine lv_iload hx hb aTs.2.2.2.2.2.2.2.2.2.2.2.2.2.2.2 (lv_at hl 0 rfl) ?_
    refine lv_iconst (v := (-1)) hx hb aTt.1 aEJ ?_
    refine lv_icmp_ne (tgt := 67) hx hb aTt.2.1 (by decide) (fun hc => ?_) (fun hc => ?_)
    · have hp := hp.1 hc
      refine lv_aload_n hx hb aTt.2.2.2.1 rfl (lv_at hl 1 rfl) ?_
      refine va_get (D := (dC, dI)) (ci := 9) (v := .ref yA) (C := RX9) (T := TX9) (N := 9) hx hb hts aC3 hown hK hP 0 rfl rfl 6 (lbz rfl) (hts _ q_363) (fun _ h9 => h9) rfl aTt.2.2.2.2.1 ?_
      refine lv_iload hx hb aTt.2.2.2.2.2.1 (lv_at hl 0 rfl) ?_
      have hm := mgk (wc := (wd_X6_add cI cC cZ cB cJ yA rG qB jK)) hP mk_12 12 rfl rfl rfl
      refine aBn hP hD hS hA (yS mk_12) (aAi mk_12) hm.1 hm.2 (aAk _) (zW _) (zF (As := [.int r_5]) (rest := []) C0 hP hD hS (yS mk_12) hm.1 (aAl _) 10 6 rfl rfl (c_X6_add l dC dI cI cC cZ cB cJ yA rG H.size r_5 qB jK _ hp) q_369 q_372 q_370 q_371 q_365 h_X6_add rfl rfl ⟨lbz rfl, lbz rfl⟩ rfl rfl hl.1 rfl (lv_room (lbz rfl)) aTt.2.2.2.2.2.2.1 ⟨Nat.zero_le _, Nat.zero_le _⟩) (fun u H locs hp hP hD hS => ?_)
      obtain ⟨aKD, aF9⟩ := u
      have hPD := PDm (ws' := (aRN cI cC cZ cB cJ a_x xI xH xB vI wY xX yA xY uD xO tJ jJ mY pG pD pE eO rG dN bD bJ aI uU gF qF mX oE dY jE eW eY dU fY gJ jG nU aKD aF9)) hP hD 12 rfl rfl rfl
      have hP := hPD.1
      have hD := hPD.2
      refine lv_iload_n hx hb aTt.2.2.2.2.2.2.2.1 rfl (lv_at hl 2 rfl) ?_
      refine lv_iconst (v := 1) hx hb aTt.2.2.2.2.2.2.2.2.1 aDx ?_
      refine lv_iload hx hb aTt.2.2.2.2.2.2.2.2.2.1 (lv_at hl 0 rfl) ?_
      refine lv_ishl hx hb aTt.2.2.2.2.2.2.2.2.2.2.1 ?_
      refine lv_topi (fun v_8 ev_8 => ?_)
      have hp := hp v_8 ev_8
      refine lv_iconst (v := (-1)) hx hb aTt.2.2.2.2.2.2.2.2.2.2.2.1 aEJ ?_
      refine lv_ixor hx hb aTt.2.2.2.2.2.2.2.2.2.2.2.2.1 ?_
      refine lv_iand hx hb aTt.2.2.2.2.2.2.2.2.2.2.2.2.2.1 ?_
      refine lv_topi (fun v_9 ev_9 => ?_)
      have hp := hp v_9 ev_9
      refine lv_istore_n (lv' := [(1, .int v_9), (4, .int r_5), (0, .ref a_x), (2, .int x2), (3, .int x3)]) hx hb aTt.2.2.2.2.2.2.2.2.2.2.2.2.2.2.1 rfl hl (by decide) rfl (fun ls hl => ?_)
      obtain ⟨aEr, aNB⟩ : ∃ y : Int32, y = x3 + 1 := ⟨_, rfl⟩
      refine lv_iinc (v := aEr) (lv' := [(3, .int aEr), (1, .int v_9), (4, .int r_5), (0, .ref a_x), (2, .int x2)]) hx hb aTt.2.2.2.2.2.2.2.2.2.2.2.2.2.2.2 hl (k := 4) rfl (by rw [aNB]; rfl) (by decide) rfl (fun ls hl => ?_)
      have hp := hp aEr aNB
      refine lv_goto (tgt := 39) hx hb eX9_gentle_88.1 (by decide) ?_
      exact hKn v_9 x2 aEr aKD aF9 H locs ls hp hP hD hS (lv_sub hl [3, 1, 4, 0] rfl)
    · have hp := hp.2 hc
      refine lv_goto (tgt := 91) hx hb aTt.2.2.1 (by decide) ?_
      exact ks_X9_gentle_91 C0 qB jK H locs ls hp hP hD hS (lv_sub hl [1] rfl)
set_option maxHeartbeats 4000000 in
set_option maxRecDepth 100000 in
theorem kb_X9_gentle_39 (C0 : gc aEW (some .int) 5 RX9 (dC, dI) (tyl cI cC cZ cB cJ) A p s m args meth c) : ∀ (n : Nat), ∀ (x1 x2 x3 qB : Int32) (jK : Nat -> Int32) (H : Heap) (locs : List Loc) (ls : Array Slot), (wb_X9_gentle_39 post dN uU gF qF mX oE dY jE eW eY fY gJ jG n) x1 x2 x3 qB jK -> va_P (dC, dI) classes (aRN cI cC cZ cB cJ a_x xI xH xB vI wY xX yA xY uD xO tJ jJ mY pG pD pE eO rG dN bD bJ aI uU gF qF mX oE dY jE eW eY dU fY gJ jG nU qB jK) H -> va_D A (aRN cI cC cZ cB cJ a_x xI xH xB vI wY xX yA xY uD xO tJ jJ mY pG pD pE eO rG dN bD bJ aI uU gF qF mX oE dY jE eW eY dU fY gJ jG nU qB jK) -> va_S A s.heap H locs -> lv_has ls 5 [(0, .ref a_x), (1, .int x1), (2, .int x2), (3, .int x3)] -> W p l e rm_X9_gentle s m args below meth c H locs 0 0 (MQ below (q_X9_gentle dC dI cI cC cZ cB cJ A a_x xI xH xB vI wY xX yA xY uD xO tJ jJ mY pG pD pE eO rG dN bD bJ aI uU gF qF mX oE dY jE eW eY dU fY gJ jG nU post) args s 0 0 A) (F0 m 39 ls []) := by
  intro n
  induction n with
  | zero =>
    intro x1 x2 x3 qB jK H locs ls hp
    exact False.elim hp
  | succ n ih =>
    intro x1 x2 x3 qB jK H locs ls hp
    exact ks_X9_gentle_39 C0 ih x1 x2 x3 qB jK H locs ls hp
end S_X9_gentle
def wp_X9_gentle (post : Int32 -> Int32 -> (Nat -> Int32) -> Prop) (dN : Int32) (uU gF qF mX oE dY : Nat -> Int32) (jE eW eY fY gJ jG qB : Int32) (jK : Nat -> Int32) : Prop := (¬ fY = (-1) -> wp_X6_clear (fun aKV => aOu (fun r_2 => wp_X0_readyHere (fun r_3 => ∃ n : Nat, wb_X9_gentle_39 post dN uU gF qF mX oE dY jE eW eY fY gJ jG n r_2 r_3 0 aKV jK) dN uU gF qF mX oE dY jE eW eY fY gJ jG) dN jE eW eY) qB) /\ (fY = (-1) -> post (-2) qB jK)
set_option maxHeartbeats 4000000 in
set_option maxRecDepth 100000 in
theorem c_X9_gentle (l : Launch) (dC : Nat -> ClassId) (dI : Nat -> Nat -> Nat) (cI cC cZ cB cJ : ClassId) (a_x xI xH xB vI wY xX yA xY uD xO tJ jJ mY pG pD pE eO rG sz : Nat) (dN bD bJ aI : Int32) (uU gF qF mX oE dY : Nat -> Int32) (jE eW eY dU fY gJ jG nU qB : Int32) (jK : Nat -> Int32) (post : Int32 -> Int32 -> (Nat -> Int32) -> Prop) (hw : wp_X9_gentle post dN uU gF qF mX oE dY jE eW eY fY gJ jG qB jK) : Met l yX9_gentle (gw yX9_gentle aEW 5 (some .int)) rm_X9_gentle (va_Pc [.ref a_x] (gPre (dC, dI) (tyl cI cC cZ cB cJ) (aRN cI cC cZ cB cJ a_x xI xH xB vI wY xX yA xY uD xO tJ jJ mY pG pD pE eO rG dN bD bJ aI uU gF qF mX oE dY jE eW eY dU fY gJ jG nU qB jK) sz)) (q_X9_gentle dC dI cI cC cZ cB cJ (va_A (aRN cI cC cZ cB cJ a_x xI xH xB vI wY xX yA xY uD xO tJ jJ mY pG pD pE eO rG dN bD bJ aI uU gF qF mX oE dY jE eW eY dU fY gJ jG nU qB jK) sz) a_x xI xH xB vI wY xX yA xY uD xO tJ jJ mY pG pD pE eO rG dN bD bJ aI uU gF qF mX oE dY jE eW eY dU fY gJ jG nU post) 0 0 (va_A (aRN cI cC cZ cB cJ a_x xI xH xB vI wY xX yA xY uD xO tJ jJ mY pG pD pE eO rG dN bD bJ aI uU gF qF mX oE dY jE eW eY dU fY gJ jG nU qB jK) sz) := by
  refine aBJ (own := RX9) (dC, dI) (tyl cI cC cZ cB cJ) (aRN cI cC cZ cB cJ a_x xI xH xB vI wY xX yA xY uD xO tJ jJ mY pG pD pE eO rG dN bD bJ aI uU gF qF mX oE dY jE eW eY dU fY gJ jG nU qB jK) sz [.ref a_x] (fun A => q_X9_gentle dC dI cI cC cZ cB cJ A a_x xI xH xB vI wY xX yA xY uD xO tJ jJ mY pG pD pE eO rG dN bD bJ aI uU gF qF mX oE dY jE eW eY dU fY gJ jG nU post) pn_RX9 rfl (lbz rfl) ?_
  intro p e s m args below meth c A H locs ls C0 hP hD hS hl
  have hl : lv_has ls 5 [(0, .ref a_x)] := hl
  obtain ⟨hx, hb, hr, hml, hown, hts, hlocks, hA, hK, hN, tL, tM, hZL, hTL, hZM, hTM, hZX⟩ := id C0
  have hp := hw
  unfold wp_X9_gentle at hp
  refine lv_aload_n hx hb aWn.1 rfl (lv_at hl 0 rfl) ?_
  refine va_get (D := (dC, dI)) (ci := 9) (v := .ref wY) (C := RX9) (T := TX9) (N := 9) hx hb hts aC3 hown hK hP 0 rfl rfl 4 (lbz rfl) (hts _ q_179) (fun _ h9 => h9) rfl aWn.2.1 ?_
  refine va_get (D := (dC, dI)) (ci := 2) (v := .int fY) (C := RX2) (T := TX2) (N := 8) hx hb hts i_X2 hown hK hP 9 rfl rfl 4 (lbz rfl) (hts _ q_497) (fun _ h9 => h9) rfl aWn.2.2.1 ?_
  refine lv_iconst (v := (-1)) hx hb aWn.2.2.2.1 aEJ ?_
  refine lv_icmp_ne (tgt := 14) hx hb aWn.2.2.2.2.1 (by decide) (fun hc => ?_) (fun hc => ?_)
  · have hp := hp.1 hc
    refine lv_aload_n hx hb aWn.2.2.2.2.2.2.2.1 rfl (lv_at hl 0 rfl) ?_
    refine va_get (D := (dC, dI)) (ci := 9) (v := .ref yA) (C := RX9) (T := TX9) (N := 9) hx hb hts aC3 hown hK hP 0 rfl rfl 6 (lbz rfl) (hts _ q_363) (fun _ h9 => h9) rfl aWn.2.2.2.2.2.2.2.2.1 ?_
    have hm := mgk (wc := (wd_X6_clear cI cC cZ cB cJ yA rG qB)) hP mk_169 12 rfl rfl rfl
    refine aBn hP hD hS hA (yS mk_169) (aAi mk_169) hm.1 hm.2 (aAk _) (zW _) (zF (As := []) (rest := []) C0 hP hD hS (yS mk_169) hm.1 (aAl _) 10 6 rfl rfl (c_X6_clear l dC dI cI cC cZ cB cJ yA rG H.size qB _ hp) q_364 q_368 q_366 q_367 q_365 h_X6_clear rfl rfl ⟨lbz rfl, lbz rfl⟩ rfl rfl hl.1 rfl (lv_room (lbz rfl)) aWn.2.2.2.2.2.2.2.2.2.1 ⟨Nat.zero_le _, Nat.zero_le _⟩) (fun u H locs hp hP hD hS => ?_)
    obtain ⟨aKV, rfl⟩ : ∃ z, z = u := ⟨_, rfl⟩
    have hPD := PDm (ws' := (aRN cI cC cZ cB cJ a_x xI xH xB vI wY xX yA xY uD xO tJ jJ mY pG pD pE eO rG dN bD bJ aI uU gF qF mX oE dY jE eW eY dU fY gJ jG nU aKV jK)) hP hD 12 rfl rfl rfl
    have hP := hPD.1
    have hD := hPD.2
    refine lv_aload_n hx hb aWn.2.2.2.2.2.2.2.2.2.2.1 rfl (lv_at hl 0 rfl) ?_
    refine va_get (D := (dC, dI)) (ci := 9) (v := .ref xB) (C := RX9) (T := TX9) (N := 9) hx hb hts aC3 hown hK hP 0 rfl rfl 2 (lbz rfl) (hts _ q_146) (fun _ h9 => h9) rfl aWn.2.2.2.2.2.2.2.2.2.2.2.1 ?_
    have hm := mgk (wc := (aOf cI cC cZ cB cJ xB vI wY xO tJ jJ mY pG pD pE eO dN bD bJ aI jE eW eY dU fY gJ jG nU)) hP mk_106 12 rfl rfl rfl
    refine yW hP hD hS hA (yS mk_106) (aAi mk_106) hm.1 hm.2 (aAk _) (zW _) (zF (As := []) (rest := []) C0 hP hD hS (yS mk_106) hm.1 (aAl _) 1 0 rfl rfl (c_X0_hanging l dC dI cI cC cZ cB cJ xB vI wY xO tJ jJ mY pG pD pE eO H.size dN bD bJ aI jE eW eY dU fY gJ jG nU _ hp) q_186 q_190 q_188 q_189 q_187 h_X0_hanging rfl rfl ⟨lbz rfl, lbz rfl⟩ rfl rfl hl.1 rfl (lv_room (lbz rfl)) aWn.2.2.2.2.2.2.2.2.2.2.2.2.1 ⟨Nat.zero_le _, Nat.zero_le _⟩) (fun r_2 u H locs hp hP hD hS => ?_)
    have hPD := PDm (ws' := (aRN cI cC cZ cB cJ a_x xI xH xB vI wY xX yA xY uD xO tJ jJ mY pG pD pE eO rG dN bD bJ aI uU gF qF mX oE dY jE eW eY dU fY gJ jG nU aKV jK)) hP hD 12 rfl rfl rfl
    have hP := hPD.1
    have hD := hPD.2
    refine lv_istore_n (lv' := [(1, .int r_2), (0, .ref a_x)]) hx hb aWn.2.2.2.2.2.2.2.2.2.2.2.2.2.1 rfl hl (by decide) rfl (fun ls hl => ?_)
    refine lv_aload_n hx hb aWn.2.2.2.2.2.2.2.2.2.2.2.2.2.2.1 rfl (lv_at hl 1 rfl) ?_
    refine va_get (D := (dC, dI)) (ci := 9) (v := .ref xB) (C := RX9) (T := TX9) (N := 9) hx hb hts aC3 hown hK hP 0 rfl rfl 2 (lbz rfl) (hts _ q_146) (fun _ h9 => h9) rfl aWn.2.2.2.2.2.2.2.2.2.2.2.2.2.2.2 ?_
    have hm := mgk (wc := (aUW cI cC cZ cB cJ xB vI wY xO tJ jJ mY pG pD pE eO dN bD bJ aI uU gF qF mX oE dY jE eW eY dU fY gJ jG nU)) hP mk_13 12 rfl rfl rfl
    refine yW hP hD hS hA (yS mk_13) (aAi mk_13) hm.1 hm.2 (aAk _) (zW _) (zF (As := []) (rest := []) C0 hP hD hS (yS mk_13) hm.1 (aAl _) 1 0 rfl rfl (c_X0_readyHere l dC dI cI cC cZ cB cJ xB vI wY xO tJ jJ mY pG pD pE eO H.size dN bD bJ aI uU gF qF mX oE dY jE eW eY dU fY gJ jG nU _ hp) q_347 q_568 q_348 q_349 q_187 h_X0_readyHere rfl rfl ⟨lbz rfl, lbz rfl⟩ rfl rfl hl.1 rfl (lv_room (lbz rfl)) aTs.1 ⟨Nat.zero_le _, Nat.zero_le _⟩) (fun r_3 u H locs hp hP hD hS => ?_)
    have hPD := PDm (ws' := (aRN cI cC cZ cB cJ a_x xI xH xB vI wY xX yA xY uD xO tJ jJ mY pG pD pE eO rG dN bD bJ aI uU gF qF mX oE dY jE eW eY dU fY gJ jG nU aKV jK)) hP hD 12 rfl rfl rfl
    have hP := hPD.1
    have hD := hPD.2
    refine lv_istore_n (lv' := [(2, .int r_3), (1, .int r_2), (0, .ref a_x)]) hx hb aTs.2.1 rfl hl (by decide) rfl (fun ls hl => ?_)
    refine lv_iconst (v := 0) hx hb aTs.2.2.1 aCi ?_
    refine lv_istore_n (lv' := [(3, .int 0), (2, .int r_3), (1, .int r_2), (0, .ref a_x)]) hx hb aTs.2.2.2.1 rfl hl (by decide) rfl (fun ls hl => ?_)
    obtain ⟨n9, hp⟩ := hp
    exact kb_X9_gentle_39 C0 n9 r_2 r_3 0 aKV jK H locs ls hp hP hD hS (lv_sub hl [3, 2, 1, 0] rfl)
  · have hp := hp.2 hc
    refine lv_bipush (v := (-2)) hx hb aWn.2.2.2.2.2.1 bp_m2 ?_
    exact W.iret (v := (-2)) hx hb hr (fun t ht hW => ⟨⟨(-2), (qB, jK), rfl, hp, by rw [ht]; exact hP, va_K.moved hW.alike hK, hD⟩, hS.F ht⟩) hS.2.2 aWn.2.2.2.2.2.2.1
abbrev aUM (cI cC cZ cB cJ : ClassId) (a_x xI xH xB vI wY xX yA xY uD xO tJ jJ mY pG pD pE eO rG : Nat) (dN bD bJ aI : Int32) (uU gF pL qF mX oE dY : Nat -> Int32) (jE eW eY dU fY gJ jG nU qB : Int32) (jK : Nat -> Int32) : va_W := [(a_x, .inr (9, [.ref xI, .ref xH, .ref xB, .ref vI, .ref wY, .ref xX, .ref yA, .ref xY, .ref uD])), (xB, .inr (0, [.ref vI, .ref wY, .ref xO])), (vI, .inr (3, [.ref tJ, .ref jJ, .ref mY, .ref pG, .ref pD, .ref pE, .ref eO, .int dN, .int bD, .int bJ, .int aI])), (tJ, .inl (cI, 16, .inl uU)), (jJ, .inl (cI, 16, .inl gF)), (mY, .inl (cI, 16, .inl pL)), (pG, .inl (cI, 16, .inl qF)), (pD, .inl (cI, 8, .inl mX)), (pE, .inl (cI, 8, .inl oE)), (eO, .inl (cI, 5, .inl dY)), (wY, .inr (2, [.int jE, .int eW, .int eY, .int dU, .int fY, .int gJ, .int jG, .int nU])), (yA, .inr (6, [.ref rG, .int qB])), (rG, .inl (cI, 16, .inl jK))]
abbrev q_X9_harm (dC : Nat -> ClassId) (dI : Nat -> Nat -> Nat) (cI cC cZ cB cJ : ClassId) (A : Nat -> Prop) (a_x xI xH xB vI wY xX yA xY uD xO tJ jJ mY pG pD pE eO rG : Nat) (dN bD bJ aI : Int32) (uU gF pL qF mX oE dY : Nat -> Int32) (jE eW eY dU fY gJ jG nU : Int32) (post : Int32 -> Int32 -> (Nat -> Int32) -> Prop) : Array Value -> State -> Outcome -> State -> Prop := va_Qi (fun (r : Int32) (u : Int32 × (Nat -> Int32)) => post r u.1 u.2) (fun u t => gB (dC, dI) (tyl cI cC cZ cB cJ) A (aUM cI cC cZ cB cJ a_x xI xH xB vI wY xX yA xY uD xO tJ jJ mY pG pD pE eO rG dN bD bJ aI uU gF pL qF mX oE dY jE eW eY dU fY gJ jG nU u.1 u.2) t) A
abbrev rm_X9_harm : Room := { frames := 4, cells := 0, slots := 0, locals := 92 }
section S_X9_harm
variable {p : Program} {l : Launch} {e : Env} {s : State} {m : MethodId} {args : Array Value} {below : List Frame} {meth : Method} {c : Code} {dC : Nat -> ClassId} {dI : Nat -> Nat -> Nat} {cI cC cZ cB cJ : ClassId} {A : Nat -> Prop} {a_x xI xH xB vI wY xX yA xY uD xO tJ jJ mY pG pD pE eO rG : Nat} {dN bD bJ aI : Int32} {uU gF pL qF mX oE dY : Nat -> Int32} {jE eW eY dU fY gJ jG nU : Int32} {post : Int32 -> Int32 -> (Nat -> Int32) -> Prop}
def ws_X9_harm_78 (post : Int32 -> Int32 -> (Nat -> Int32) -> Prop) (K35 : Int32 -> Int32 -> Int32 -> Int32 -> Int32 -> (Nat -> Int32) -> Prop) (dN : Int32) (uU gF pL qF mX oE dY : Nat -> Int32) (jE eW eY dU fY gJ jG x1 x2 x3 x4 qB : Int32) (jK : Nat -> Int32) : Prop := ∀ aEr : Int32, aEr = x4 + 1 -> K35 x1 x2 x3 aEr qB jK
set_option maxHeartbeats 4000000 in
set_option maxRecDepth 100000 in
theorem ks_X9_harm_78 (C0 : gc aE8 (some .int) 5 RX9 (dC, dI) (tyl cI cC cZ cB cJ) A p s m args meth c) {K35 : Int32 -> Int32 -> Int32 -> Int32 -> Int32 -> (Nat -> Int32) -> Prop} (hK35 : ∀ (x1 : Int32) (x2 : Int32) (x3 : Int32) (x4 : Int32) (qB : Int32) (jK : Nat -> Int32) (H : Heap) (locs : List Loc) (ls : Array Slot), K35 x1 x2 x3 x4 qB jK -> va_P (dC, dI) classes (aUM cI cC cZ cB cJ a_x xI xH xB vI wY xX yA xY uD xO tJ jJ mY pG pD pE eO rG dN bD bJ aI uU gF pL qF mX oE dY jE eW eY dU fY gJ jG nU qB jK) H -> va_D A (aUM cI cC cZ cB cJ a_x xI xH xB vI wY xX yA xY uD xO tJ jJ mY pG pD pE eO rG dN bD bJ aI uU gF pL qF mX oE dY jE eW eY dU fY gJ jG nU qB jK) -> va_S A s.heap H locs -> lv_has ls 5 [(0, .ref a_x), (1, .int x1), (2, .int x2), (3, .int x3), (4, .int x4)] -> W p l e rm_X9_harm s m args below meth c H locs 0 0 (MQ below (q_X9_harm dC dI cI cC cZ cB cJ A a_x xI xH xB vI wY xX yA xY uD xO tJ jJ mY pG pD pE eO rG dN bD bJ aI uU gF pL qF mX oE dY jE eW eY dU fY gJ jG nU post) args s 0 0 A) (F0 m 35 ls [])) : ∀ (x1 x2 x3 x4 qB : Int32) (jK : Nat -> Int32) (H : Heap) (locs : List Loc) (ls : Array Slot), (ws_X9_harm_78 post K35 dN uU gF pL qF mX oE dY jE eW eY dU fY gJ jG) x1 x2 x3 x4 qB jK -> va_P (dC, dI) classes (aUM cI cC cZ cB cJ a_x xI xH xB vI wY xX yA xY uD xO tJ jJ mY pG pD pE eO rG dN bD bJ aI uU gF pL qF mX oE dY jE eW eY dU fY gJ jG nU qB jK) H -> va_D A (aUM cI cC cZ cB cJ a_x xI xH xB vI wY xX yA xY uD xO tJ jJ mY pG pD pE eO rG dN bD bJ aI uU gF pL qF mX oE dY jE eW eY dU fY gJ jG nU qB jK) -> va_S A s.heap H locs -> lv_has ls 5 [(0, .ref a_x), (1, .int x1), (2, .int x2), (3, .int x3), (4, .int x4)] -> W p l e rm_X9_harm s m args below meth c H locs 0 0 (MQ below (q_X9_harm dC dI cI cC cZ cB cJ A a_x xI xH xB vI wY xX yA xY uD xO tJ jJ mY pG pD pE eO rG dN bD bJ aI uU gF pL qF mX oE dY jE eW eY dU fY gJ jG nU post) args s 0 0 A) (F0 m 78 ls []) := by
  obtain ⟨hx, hb, hr, hml, hown, hts, hlocks, hA, hK, hN, tL, tM, hZL, hTL, hZM, hTM, hZX⟩ := id C0
  intro x1 x2 x3 x4 qB jK H locs ls hp hP hD hS hl
  unfold ws_X9_harm_78 at hp
  obtain ⟨aEr, aNB⟩ : ∃ y : Int32, y = x4 + 1 := ⟨_, rfl⟩
  refine lv_iinc (v := aEr) (lv' := [(4, .int aEr), (0, .ref a_x), (1, .int x1), (2, .int x2), (3, .int x3)]) hx hb bAh.2.2.2.2.2.2.2.2.2.2.2.2.2.2.1 hl (k := 4) rfl (by rw [aNB]; rfl) (by decide) rfl (fun ls hl => ?_)
  have hp := hp aEr aNB
  refine lv_goto (tgt := 35) hx hb bAh.2.2.2.2.2.2.2.2.2.2.2.2.2.2.2 (by decide) ?_
  exact hK35 x1 x2 x3 aEr qB jK H locs ls hp hP hD hS (lv_sub hl [1, 2, 3, 4, 0] rfl)
def ws_X9_harm_35 (post : Int32 -> Int32 -> (Nat -> Int32) -> Prop) (next : Int32 -> Int32 -> Int32 -> Int32 -> Int32 -> (Nat -> Int32) -> Prop) (dN : Int32) (uU gF pL qF mX oE dY : Nat -> Int32) (jE eW eY dU fY gJ jG x1 x2 x3 x4 qB : Int32) (jK : Nat -> Int32) : Prop := (dN <= x4 -> aVC (fun r_3 => ∀ v_4 : Int32, v_4 = dU ||| x3 -> wp_X3_worthOf (fun r_5 => ∀ v_6 : Int32, v_6 = r_3 - r_5 -> aYk (fun ro_size_7 aO7 => post x3 ro_size_7 aO7) v_6 qB jK) x3 v_4 dN pL) x3 dN pL dU) /\ (¬ dN <= x4 -> ∀ v_9 : Int32, v_9 = x2 >>> (x4 &&& 31) -> ((v_9 &&& 1) = 0 -> ws_X9_harm_78 post next dN uU gF pL qF mX oE dY jE eW eY dU fY gJ jG x1 x2 x3 x4 qB jK) /\ (¬ (v_9 &&& 1) = 0 -> bA6 (fun r_11 => ∀ aEp : Int32, aEp = x3 ||| r_11 -> ∀ aIQ : Int32, aIQ = 1 <<< (x4 &&& 31) -> ∀ aGC : Int32, aGC = x1 &&& (aIQ ^^^ (-1)) -> ws_X9_harm_78 post next dN uU gF pL qF mX oE dY jE eW eY dU fY gJ jG aGC x2 aEp x4 qB jK) x4 x1 dN uU gF))
noncomputable def wb_X9_harm_35 (post : Int32 -> Int32 -> (Nat -> Int32) -> Prop) (dN : Int32) (uU gF pL qF mX oE dY : Nat -> Int32) (jE eW eY dU fY gJ jG : Int32) : Nat -> Int32 -> Int32 -> Int32 -> Int32 -> Int32 -> (Nat -> Int32) -> Prop := fun n => Nat.rec (motive := fun _ => Int32 -> Int32 -> Int32 -> Int32 -> Int32 -> (Nat -> Int32) -> Prop) (fun _ _ _ _ _ _ => False) (fun _ ih => ws_X9_harm_35 post ih dN uU gF pL qF mX oE dY jE eW eY dU fY gJ jG) n
set_option maxHeartbeats 4000000 in
set_option maxRecDepth 100000 in
theorem ks_X9_harm_35 (C0 : gc aE8 (some .int) 5 RX9 (dC, dI) (tyl cI cC cZ cB cJ) A p s m args meth c) {next : Int32 -> Int32 -> Int32 -> Int32 -> Int32 -> (Nat -> Int32) -> Prop} (hKn : ∀ (x1 : Int32) (x2 : Int32) (x3 : Int32) (x4 : Int32) (qB : Int32) (jK : Nat -> Int32) (H : Heap) (locs : List Loc) (ls : Array Slot), next x1 x2 x3 x4 qB jK -> va_P (dC, dI) classes (aUM cI cC cZ cB cJ a_x xI xH xB vI wY xX yA xY uD xO tJ jJ mY pG pD pE eO rG dN bD bJ aI uU gF pL qF mX oE dY jE eW eY dU fY gJ jG nU qB jK) H -> va_D A (aUM cI cC cZ cB cJ a_x xI xH xB vI wY xX yA xY uD xO tJ jJ mY pG pD pE eO rG dN bD bJ aI uU gF pL qF mX oE dY jE eW eY dU fY gJ jG nU qB jK) -> va_S A s.heap H locs -> lv_has ls 5 [(0, .ref a_x), (1, .int x1), (2, .int x2), (3, .int x3), (4, .int x4)] -> W p l e rm_X9_harm s m args below meth c H locs 0 0 (MQ below (q_X9_harm dC dI cI cC cZ cB cJ A a_x xI xH xB vI wY xX yA xY uD xO tJ jJ mY pG pD pE eO rG dN bD bJ aI uU gF pL qF mX oE dY jE eW eY dU fY gJ jG nU post) args s 0 0 A) (F0 m 35 ls [])) : ∀ (x1 x2 x3 x4 qB : Int32) (jK : Nat -> Int32) (H : Heap) (locs : List Loc) (ls : Array Slot), (ws_X9_harm_35 post next dN uU gF pL qF mX oE dY jE eW eY dU fY gJ jG) x1 x2 x3 x4 qB jK -> va_P (dC, dI) classes (aUM cI cC cZ cB cJ a_x xI xH xB vI wY xX yA xY uD xO tJ jJ mY pG pD pE eO rG dN bD bJ aI uU gF pL qF mX oE dY jE eW eY dU fY gJ jG nU qB jK) H -> va_D A (aUM cI cC cZ cB cJ a_x xI xH xB vI wY xX yA xY uD xO tJ jJ mY pG pD pE eO rG dN bD bJ aI uU gF pL qF mX oE dY jE eW eY dU fY gJ jG nU qB jK) -> va_S A s.heap H locs -> lv_has ls 5 [(0, .ref a_x), (1, .int x1), (2, .int x2), (3, .int x3), (4, .int x4)] -> W p l e rm_X9_harm s m args below meth c H locs 0 0 (MQ below (q_X9_harm dC dI cI cC cZ cB cJ A a_x xI xH xB vI wY xX yA xY uD xO tJ jJ mY pG pD pE eO rG dN bD bJ aI uU gF pL qF mX oE dY jE eW eY dU fY gJ jG nU post) args s 0 0 A) (F0 m 35 ls []) := by
  obtain ⟨hx, hb, hr, hml, hown, hts, hlocks, hA, hK, hN, tL, tM, hZL, hTL, hZM, hTM, hZX⟩ := id C0
  intro x1 x2 x3 x4 qB jK H locs ls hp hP hD hS hl
  unfold ws_X9_harm_35 at hp
  refine lv_iload hx hb bAg.2.2.2.1 (lv_at hl 4 rfl) ?_
  refine lv_aload_n hx hb bAg.2.2.2.2.1 rfl (lv_at hl 0 rfl) ?_
  refine va_get (D := (dC, dI)) (ci := 9) (v := .ref vI) (C := RX9) (T := TX9) (N := 9) hx hb hts aC3 hown hK hP 0 rfl rfl 3 (lbz rfl) (hts _ q_74) (fun _ h9 => h9) rfl bAg.2.2.2.2.2.1 ?_
  refine va_get (D := (dC, dI)) (ci := 3) (v := .int dN) (C := RX3) (T := TX3) (N := 11) hx hb hts i_X3 hown hK hP 2 rfl rfl 7 (lbz rfl) (hts _ q_539) (fun _ h9 => h9) rfl bAg.2.2.2.2.2.2.1 ?_
  refine lv_icmp_ge (tgt := 84) hx hb bAg.2.2.2.2.2.2.2.1 (by decide) (fun hc => ?_) (fun hc => ?_)
  · have hp := hp.1 hc
    refine lv_aload_n hx hb bAi.1 rfl (lv_at hl 0 rfl) ?_
    refine lv_aload_n hx hb bAi.2.1 rfl (lv_at hl 0 rfl) ?_
    refine va_get (D := (dC, dI)) (ci := 9) (v := .ref xB) (C := RX9) (T := TX9) (N := 9) hx hb hts aC3 hown hK hP 0 rfl rfl 2 (lbz rfl) (hts _ q_146) (fun _ h9 => h9) rfl bAi.2.2.1 ?_
    refine lv_iload_n hx hb bAi.2.2.2.1 rfl (lv_at hl 3 rfl) ?_
    have hm := mgk (wc := (aT8 cI cC cZ cB cJ xB vI wY xO tJ jJ mY pG pD pE eO dN bD bJ aI pL jE eW eY dU fY gJ jG nU)) hP mk_170 13 rfl rfl rfl
    refine yW hP hD hS hA (yS mk_170) (aAi mk_170) hm.1 hm.2 (aAk _) (zW _) (zF (As := [.int x3]) (rest := [.ref a_x]) C0 hP hD hS (yS mk_170) hm.1 (aAl _) 1 0 rfl rfl (c_X0_worthOf l dC dI cI cC cZ cB cJ xB vI wY xO tJ jJ mY pG pD pE eO H.size x3 dN bD bJ aI pL jE eW eY dU fY gJ jG nU _ hp) q_297 q_417 q_298 q_299 q_187 h_X0_worthOf rfl rfl ⟨lbz rfl, lbz rfl⟩ rfl rfl hl.1 rfl (lv_room (lbz rfl)) bAi.2.2.2.2.1 ⟨Nat.zero_le _, Nat.zero_le _⟩) (fun r_3 u H locs hp hP hD hS => ?_)
    have hPD := PDm (ws' := (aUM cI cC cZ cB cJ a_x xI xH xB vI wY xX yA xY uD xO tJ jJ mY pG pD pE eO rG dN bD bJ aI uU gF pL qF mX oE dY jE eW eY dU fY gJ jG nU qB jK)) hP hD 13 rfl rfl rfl
    have hP := hPD.1
    have hD := hPD.2
    refine lv_aload_n hx hb bAi.2.2.2.2.2.1 rfl (lv_at hl 0 rfl) ?_
    refine va_get (D := (dC, dI)) (ci := 9) (v := .ref vI) (C := RX9) (T := TX9) (N := 9) hx hb hts aC3 hown hK hP 0 rfl rfl 3 (lbz rfl) (hts _ q_74) (fun _ h9 => h9) rfl bAi.2.2.2.2.2.2.1 ?_
    refine lv_iload_n hx hb bAi.2.2.2.2.2.2.2.1 rfl (lv_at hl 3 rfl) ?_
    refine lv_aload_n hx hb bAi.2.2.2.2.2.2.2.2.1 rfl (lv_at hl 0 rfl) ?_
    refine va_get (D := (dC, dI)) (ci := 9) (v := .ref wY) (C := RX9) (T := TX9) (N := 9) hx hb hts aC3 hown hK hP 0 rfl rfl 4 (lbz rfl) (hts _ q_179) (fun _ h9 => h9) rfl bAi.2.2.2.2.2.2.2.2.2.1 ?_
    refine va_get (D := (dC, dI)) (ci := 2) (v := .int dU) (C := RX2) (T := TX2) (N := 8) hx hb hts i_X2 hown hK hP 10 rfl rfl 3 (lbz rfl) (hts _ q_185) (fun _ h9 => h9) rfl bAi.2.2.2.2.2.2.2.2.2.2.1 ?_
    refine lv_iload_n hx hb bAi.2.2.2.2.2.2.2.2.2.2.2.1 rfl (lv_at hl 3 rfl) ?_
    refine lv_ior hx hb bAi.2.2.2.2.2.2.2.2.2.2.2.2.1 ?_
    refine lv_topi (fun v_4 aHM => ?_)
    have hp := hp v_4 aHM
    have hm := mgk (wc := (aLh cI cC cZ cB cJ vI tJ jJ mY pG pD pE eO dN bD bJ aI pL)) hP mk_171 13 rfl rfl rfl
    refine yW hP hD hS hA (yS mk_171) (aAi mk_171) hm.1 hm.2 (aAk _) (zW _) (zF (As := [.int x3, .int v_4]) (rest := [.int r_3, .ref a_x]) C0 hP hD hS (yS mk_171) hm.1 (aAl _) 2 3 rfl rfl (c_X3_worthOf l dC dI cI cC cZ cB cJ vI tJ jJ mY pG pD pE eO H.size x3 v_4 dN bD bJ aI pL _ hp) q_279 q_573 q_280 q_281 q_48 h_X3_worthOf rfl rfl ⟨lbz rfl, lbz rfl⟩ rfl rfl hl.1 rfl (lv_room (lbz rfl)) bAi.2.2.2.2.2.2.2.2.2.2.2.2.2.1 ⟨Nat.zero_le _, Nat.zero_le _⟩) (fun r_5 u H locs hp hP hD hS => ?_)
    have hPD := PDm (ws' := (aUM cI cC cZ cB cJ a_x xI xH xB vI wY xX yA xY uD xO tJ jJ mY pG pD pE eO rG dN bD bJ aI uU gF pL qF mX oE dY jE eW eY dU fY gJ jG nU qB jK)) hP hD 13 rfl rfl rfl
    have hP := hPD.1
    have hD := hPD.2
    refine lv_isub hx hb bAi.2.2.2.2.2.2.2.2.2.2.2.2.2.2.1 ?_
    refine lv_topi (fun v_6 ev_6 => ?_)
    have hp := hp v_6 ev_6
    have hm := mgk (wc := (wd_X9_tell cI cC cZ cB cJ a_x xI xH xB vI wY xX yA xY uD rG qB jK)) hP mk_172 13 rfl rfl rfl
    refine aBn hP hD hS hA (yS mk_172) (aAi mk_172) hm.1 hm.2 (aAk _) (zW _) (zF (As := [.int v_6]) (rest := []) C0 hP hD hS (yS mk_172) hm.1 (aAl _) 0 9 rfl rfl (c_X9_tell l dC dI cI cC cZ cB cJ a_x xI xH xB vI wY xX yA xY uD rG H.size v_6 qB jK _ hp) q_373 q_376 q_374 q_375 aIl h_X9_tell rfl rfl ⟨lbz rfl, lbz rfl⟩ rfl rfl hl.1 rfl (lv_room (lbz rfl)) bAi.2.2.2.2.2.2.2.2.2.2.2.2.2.2.2 ⟨Nat.zero_le _, Nat.zero_le _⟩) (fun u H locs hp hP hD hS => ?_)
    obtain ⟨ro_size_7, aO7⟩ := u
    have hPD := PDm (ws' := (aUM cI cC cZ cB cJ a_x xI xH xB vI wY xX yA xY uD xO tJ jJ mY pG pD pE eO rG dN bD bJ aI uU gF pL qF mX oE dY jE eW eY dU fY gJ jG nU ro_size_7 aO7)) hP hD 13 rfl rfl rfl
    have hP := hPD.1
    have hD := hPD.2
    refine lv_iload_n hx hb eX9_harm_114.1 rfl (lv_at hl 3 rfl) ?_
    exact W.iret (v := x3) hx hb hr (fun t ht hW => ⟨⟨x3, (ro_size_7, aO7), rfl, hp, by rw [ht]; exact hP, va_K.moved hW.alike hK, hD⟩, hS.F ht⟩) hS.2.2 eX9_harm_114.2
  · have hp := hp.2 hc
    refine lv_iload_n hx hb bAg.2.2.2.2.2.2.2.2.1 rfl (lv_at hl 2 rfl) ?_
    refine lv_iload hx hb bAg.2.2.2.2.2.2.2.2.2.1 (lv_at hl 4 rfl) ?_
    refine lv_ishr hx hb bAg.2.2.2.2.2.2.2.2.2.2.1 ?_
    refine lv_topi (fun v_9 ev_9 => ?_)
    have hp := hp v_9 ev_9
    refine lv_iconst (v := 1) hx hb bAg.2.2.2.2.2.2.2.2.2.2.2.1 aDx ?_
    refine lv_iand hx hb bAg.2.2.2.2.2.2.2.2.2.2.2.2.1 ?_
    refine lv_if_eq (tgt := 78) hx hb bAg.2.2.2.2.2.2.2.2.2.2.2.2.2.1 (by decide) (fun hc => ?_) (fun hc => ?_)
    · have hp := hp.1 hc
      exact ks_X9_harm_78 C0 hKn x1 x2 x3 x4 qB jK H locs ls hp hP hD hS (lv_sub hl [0, 1, 2, 3, 4] rfl)
    · have hp := hp.2 hc
      refine lv_iload_n hx hb bAg.2.2.2.2.2.2.2.2.2.2.2.2.2.2.1 rfl (lv_at hl 3 rfl) ?_
      refine lv_aload_n hx hb bAg.2.2.2.2.2.2.2.2.2.2.2.2.2.2.2 rfl (lv_at hl 0 rfl) ?_
      refine va_get (D := (dC, dI)) (ci := 9) (v := .ref vI) (C := RX9) (T := TX9) (N := 9) hx hb hts aC3 hown hK hP 0 rfl rfl 3 (lbz rfl) (hts _ q_74) (fun _ h9 => h9) rfl bAh.1 ?_
      refine lv_iload hx hb bAh.2.1 (lv_at hl 4 rfl) ?_
      refine lv_iload_n hx hb bAh.2.2.1 rfl (lv_at hl 1 rfl) ?_
      have hm := mgk (wc := (aGD cI cC cZ cB cJ vI tJ jJ mY pG pD pE eO dN bD bJ aI uU gF)) hP mk_173 13 rfl rfl rfl
      refine yW hP hD hS hA (yS mk_173) (aAi mk_173) hm.1 hm.2 (aAk _) (zW _) (zF (As := [.int x4, .int x1]) (rest := [.int x3]) C0 hP hD hS (yS mk_173) hm.1 (aAl _) 2 3 rfl rfl (c_X3_lowerThan l dC dI cI cC cZ cB cJ vI tJ jJ mY pG pD pE eO H.size x4 x1 dN bD bJ aI uU gF _ hp) q_191 q_194 q_192 q_193 q_48 h_X3_lowerThan rfl rfl ⟨lbz rfl, lbz rfl⟩ rfl rfl hl.1 rfl (lv_room (lbz rfl)) bAh.2.2.2.1 ⟨Nat.zero_le _, Nat.zero_le _⟩) (fun r_11 u H locs hp hP hD hS => ?_)
      have hPD := PDm (ws' := (aUM cI cC cZ cB cJ a_x xI xH xB vI wY xX yA xY uD xO tJ jJ mY pG pD pE eO rG dN bD bJ aI uU gF pL qF mX oE dY jE eW eY dU fY gJ jG nU qB jK)) hP hD 13 rfl rfl rfl
      have hP := hPD.1
      have hD := hPD.2
      refine lv_ior hx hb bAh.2.2.2.2.1 ?_
      refine lv_topi (fun aEp ev_12 => ?_)
      have hp := hp aEp ev_12
      refine lv_istore_n (lv' := [(3, .int aEp), (0, .ref a_x), (1, .int x1), (2, .int x2), (4, .int x4)]) hx hb bAh.2.2.2.2.2.1 rfl hl (by decide) rfl (fun ls hl => ?_)
      refine lv_iload_n hx hb bAh.2.2.2.2.2.2.1 rfl (lv_at hl 2 rfl) ?_
      refine lv_iconst (v := 1) hx hb bAh.2.2.2.2.2.2.2.1 aDx ?_
      refine lv_iload hx hb bAh.2.2.2.2.2.2.2.2.1 (lv_at hl 4 rfl) ?_
      refine lv_ishl hx hb bAh.2.2.2.2.2.2.2.2.2.1 ?_
      refine lv_topi (fun aIQ ev_13 => ?_)
      have hp := hp aIQ ev_13
      refine lv_iconst (v := (-1)) hx hb bAh.2.2.2.2.2.2.2.2.2.2.1 aEJ ?_
      refine lv_ixor hx hb bAh.2.2.2.2.2.2.2.2.2.2.2.1 ?_
      refine lv_iand hx hb bAh.2.2.2.2.2.2.2.2.2.2.2.2.1 ?_
      refine lv_topi (fun aGC ev_14 => ?_)
      have hp := hp aGC ev_14
      refine lv_istore_n (lv' := [(1, .int aGC), (3, .int aEp), (0, .ref a_x), (2, .int x2), (4, .int x4)]) hx hb bAh.2.2.2.2.2.2.2.2.2.2.2.2.2.1 rfl hl (by decide) rfl (fun ls hl => ?_)
      exact ks_X9_harm_78 C0 hKn aGC x2 aEp x4 qB jK H locs ls hp hP hD hS (lv_sub hl [2, 0, 3, 1, 4] rfl)
set_option maxHeartbeats 4000000 in
set_option maxRecDepth 100000 in
theorem kb_X9_harm_35 (C0 : gc aE8 (some .int) 5 RX9 (dC, dI) (tyl cI cC cZ cB cJ) A p s m args meth c) : ∀ (n : Nat), ∀ (x1 x2 x3 x4 qB : Int32) (jK : Nat -> Int32) (H : Heap) (locs : List Loc) (ls : Array Slot), (wb_X9_harm_35 post dN uU gF pL qF mX oE dY jE eW eY dU fY gJ jG n) x1 x2 x3 x4 qB jK -> va_P (dC, dI) classes (aUM cI cC cZ cB cJ a_x xI xH xB vI wY xX yA xY uD xO tJ jJ mY pG pD pE eO rG dN bD bJ aI uU gF pL qF mX oE dY jE eW eY dU fY gJ jG nU qB jK) H -> va_D A (aUM cI cC cZ cB cJ a_x xI xH xB vI wY xX yA xY uD xO tJ jJ mY pG pD pE eO rG dN bD bJ aI uU gF pL qF mX oE dY jE eW eY dU fY gJ jG nU qB jK) -> va_S A s.heap H locs -> lv_has ls 5 [(0, .ref a_x), (1, .int x1), (2, .int x2), (3, .int x3), (4, .int x4)] -> W p l e rm_X9_harm s m args below meth c H locs 0 0 (MQ below (q_X9_harm dC dI cI cC cZ cB cJ A a_x xI xH xB vI wY xX yA xY uD xO tJ jJ mY pG pD pE eO rG dN bD bJ aI uU gF pL qF mX oE dY jE eW eY dU fY gJ jG nU post) args s 0 0 A) (F0 m 35 ls []) := by
  intro n
  induction n with
  | zero =>
    intro x1 x2 x3 x4 qB jK H locs ls hp
    exact False.elim hp
  | succ n ih =>
    intro x1 x2 x3 x4 qB jK H locs ls hp
    exact ks_X9_harm_35 C0 ih x1 x2 x3 x4 qB jK H locs ls hp
end S_X9_harm
def wp_X9_harm (post : Int32 -> Int32 -> (Nat -> Int32) -> Prop) (dN : Int32) (uU gF pL qF mX oE dY : Nat -> Int32) (jE eW eY dU fY gJ jG qB : Int32) (jK : Nat -> Int32) : Prop := (¬ fY = (-1) -> aOu (fun r_1 => wp_X0_readyHere (fun r_2 => ∃ n : Nat, wb_X9_harm_35 post dN uU gF pL qF mX oE dY jE eW eY dU fY gJ jG n r_1 r_2 0 0 qB jK) dN uU gF qF mX oE dY jE eW eY fY gJ jG) dN jE eW eY) /\ (fY = (-1) -> post (-2) qB jK)
set_option maxHeartbeats 4000000 in
set_option maxRecDepth 100000 in
theorem c_X9_harm (l : Launch) (dC : Nat -> ClassId) (dI : Nat -> Nat -> Nat) (cI cC cZ cB cJ : ClassId) (a_x xI xH xB vI wY xX yA xY uD xO tJ jJ mY pG pD pE eO rG sz : Nat) (dN bD bJ aI : Int32) (uU gF pL qF mX oE dY : Nat -> Int32) (jE eW eY dU fY gJ jG nU qB : Int32) (jK : Nat -> Int32) (post : Int32 -> Int32 -> (Nat -> Int32) -> Prop) (hw : wp_X9_harm post dN uU gF pL qF mX oE dY jE eW eY dU fY gJ jG qB jK) : Met l yX9_harm (gw yX9_harm aE8 5 (some .int)) rm_X9_harm (va_Pc [.ref a_x] (gPre (dC, dI) (tyl cI cC cZ cB cJ) (aUM cI cC cZ cB cJ a_x xI xH xB vI wY xX yA xY uD xO tJ jJ mY pG pD pE eO rG dN bD bJ aI uU gF pL qF mX oE dY jE eW eY dU fY gJ jG nU qB jK) sz)) (q_X9_harm dC dI cI cC cZ cB cJ (va_A (aUM cI cC cZ cB cJ a_x xI xH xB vI wY xX yA xY uD xO tJ jJ mY pG pD pE eO rG dN bD bJ aI uU gF pL qF mX oE dY jE eW eY dU fY gJ jG nU qB jK) sz) a_x xI xH xB vI wY xX yA xY uD xO tJ jJ mY pG pD pE eO rG dN bD bJ aI uU gF pL qF mX oE dY jE eW eY dU fY gJ jG nU post) 0 0 (va_A (aUM cI cC cZ cB cJ a_x xI xH xB vI wY xX yA xY uD xO tJ jJ mY pG pD pE eO rG dN bD bJ aI uU gF pL qF mX oE dY jE eW eY dU fY gJ jG nU qB jK) sz) := by
  refine aBJ (own := RX9) (dC, dI) (tyl cI cC cZ cB cJ) (aUM cI cC cZ cB cJ a_x xI xH xB vI wY xX yA xY uD xO tJ jJ mY pG pD pE eO rG dN bD bJ aI uU gF pL qF mX oE dY jE eW eY dU fY gJ jG nU qB jK) sz [.ref a_x] (fun A => q_X9_harm dC dI cI cC cZ cB cJ A a_x xI xH xB vI wY xX yA xY uD xO tJ jJ mY pG pD pE eO rG dN bD bJ aI uU gF pL qF mX oE dY jE eW eY dU fY gJ jG nU post) pn_RX9 rfl (lbz rfl) ?_
  intro p e s m args below meth c A H locs ls C0 hP hD hS hl
  have hl : lv_has ls 5 [(0, .ref a_x)] := hl
  obtain ⟨hx, hb, hr, hml, hown, hts, hlocks, hA, hK, hN, tL, tM, hZL, hTL, hZM, hTM, hZX⟩ := id C0
  have hp := hw
  unfold wp_X9_harm at hp
  refine lv_aload_n hx hb eX9_harm_0.1 rfl (lv_at hl 0 rfl) ?_
  refine va_get (D := (dC, dI)) (ci := 9) (v := .ref wY) (C := RX9) (T := TX9) (N := 9) hx hb hts aC3 hown hK hP 0 rfl rfl 4 (lbz rfl) (hts _ q_179) (fun _ h9 => h9) rfl eX9_harm_0.2.1 ?_
  refine va_get (D := (dC, dI)) (ci := 2) (v := .int fY) (C := RX2) (T := TX2) (N := 8) hx hb hts i_X2 hown hK hP 10 rfl rfl 4 (lbz rfl) (hts _ q_497) (fun _ h9 => h9) rfl eX9_harm_0.2.2.1 ?_
  refine lv_iconst (v := (-1)) hx hb eX9_harm_0.2.2.2.1 aEJ ?_
  refine lv_icmp_ne (tgt := 14) hx hb eX9_harm_0.2.2.2.2.1 (by decide) (fun hc => ?_) (fun hc => ?_)
  · have hp := hp.1 hc
    refine lv_aload_n hx hb eX9_harm_0.2.2.2.2.2.2.2.1 rfl (lv_at hl 0 rfl) ?_
    refine va_get (D := (dC, dI)) (ci := 9) (v := .ref xB) (C := RX9) (T := TX9) (N := 9) hx hb hts aC3 hown hK hP 0 rfl rfl 2 (lbz rfl) (hts _ q_146) (fun _ h9 => h9) rfl eX9_harm_0.2.2.2.2.2.2.2.2.1 ?_
    have hm := mgk (wc := (aOf cI cC cZ cB cJ xB vI wY xO tJ jJ mY pG pD pE eO dN bD bJ aI jE eW eY dU fY gJ jG nU)) hP mk_174 13 rfl rfl rfl
    refine yW hP hD hS hA (yS mk_174) (aAi mk_174) hm.1 hm.2 (aAk _) (zW _) (zF (As := []) (rest := []) C0 hP hD hS (yS mk_174) hm.1 (aAl _) 1 0 rfl rfl (c_X0_hanging l dC dI cI cC cZ cB cJ xB vI wY xO tJ jJ mY pG pD pE eO H.size dN bD bJ aI jE eW eY dU fY gJ jG nU _ hp) q_186 q_190 q_188 q_189 q_187 h_X0_hanging rfl rfl ⟨lbz rfl, lbz rfl⟩ rfl rfl hl.1 rfl (lv_room (lbz rfl)) eX9_harm_0.2.2.2.2.2.2.2.2.2.1 ⟨Nat.zero_le _, Nat.zero_le _⟩) (fun r_1 u H locs hp hP hD hS => ?_)
    have hPD := PDm (ws' := (aUM cI cC cZ cB cJ a_x xI xH xB vI wY xX yA xY uD xO tJ jJ mY pG pD pE eO rG dN bD bJ aI uU gF pL qF mX oE dY jE eW eY dU fY gJ jG nU qB jK)) hP hD 13 rfl rfl rfl
    have hP := hPD.1
    have hD := hPD.2
    refine lv_istore_n (lv' := [(1, .int r_1), (0, .ref a_x)]) hx hb eX9_harm_0.2.2.2.2.2.2.2.2.2.2.1 rfl hl (by decide) rfl (fun ls hl => ?_)
    refine lv_aload_n hx hb eX9_harm_0.2.2.2.2.2.2.2.2.2.2.2.1 rfl (lv_at hl 1 rfl) ?_
    refine va_get (D := (dC, dI)) (ci := 9) (v := .ref xB) (C := RX9) (T := TX9) (N := 9) hx hb hts aC3 hown hK hP 0 rfl rfl 2 (lbz rfl) (hts _ q_146) (fun _ h9 => h9) rfl eX9_harm_0.2.2.2.2.2.2.2.2.2.2.2.2.1 ?_
    have hm := mgk (wc := (aUW cI cC cZ cB cJ xB vI wY xO tJ jJ mY pG pD pE eO dN bD bJ aI uU gF qF mX oE dY jE eW eY dU fY gJ jG nU)) hP mk_175 13 rfl rfl rfl
    refine yW hP hD hS hA (yS mk_175) (aAi mk_175) hm.1 hm.2 (aAk _) (zW _) (zF (As := []) (rest := []) C0 hP hD hS (yS mk_175) hm.1 (aAl _) 1 0 rfl rfl (c_X0_readyHere l dC dI cI cC cZ cB cJ xB vI wY xO tJ jJ mY pG pD pE eO H.size dN bD bJ aI uU gF qF mX oE dY jE eW eY dU fY gJ jG nU _ hp) q_347 q_568 q_348 q_349 q_187 h_X0_readyHere rfl rfl ⟨lbz rfl, lbz rfl⟩ rfl rfl hl.1 rfl (lv_room (lbz rfl)) eX9_harm_0.2.2.2.2.2.2.2.2.2.2.2.2.2.1 ⟨Nat.zero_le _, Nat.zero_le _⟩) (fun r_2 u H locs hp hP hD hS => ?_)
    have hPD := PDm (ws' := (aUM cI cC cZ cB cJ a_x xI xH xB vI wY xX yA xY uD xO tJ jJ mY pG pD pE eO rG dN bD bJ aI uU gF pL qF mX oE dY jE eW eY dU fY gJ jG nU qB jK)) hP hD 13 rfl rfl rfl
    have hP := hPD.1
    have hD := hPD.2
    refine lv_istore_n (lv' := [(2, .int r_2), (1, .int r_1), (0, .ref a_x)]) hx hb eX9_harm_0.2.2.2.2.2.2.2.2.2.2.2.2.2.2.1 rfl hl (by decide) rfl (fun ls hl => ?_)
    refine lv_iconst (v := 0) hx hb eX9_harm_0.2.2.2.2.2.2.2.2.2.2.2.2.2.2.2 aCi ?_
    refine lv_istore_n (lv' := [(3, .int 0), (2, .int r_2), (1, .int r_1), (0, .ref a_x)]) hx hb bAg.1 rfl hl (by decide) rfl (fun ls hl => ?_)
    refine lv_iconst (v := 0) hx hb bAg.2.1 aCi ?_
    refine lv_istore (lv' := [(4, .int 0), (3, .int 0), (2, .int r_2), (1, .int r_1), (0, .ref a_x)]) hx hb bAg.2.2.1 hl (by decide) rfl (fun ls hl => ?_)
    obtain ⟨n9, hp⟩ := hp
    exact kb_X9_harm_35 C0 n9 r_1 r_2 0 0 qB jK H locs ls hp hP hD hS (lv_sub hl [4, 3, 2, 1, 0] rfl)
  · have hp := hp.2 hc
    refine lv_bipush (v := (-2)) hx hb eX9_harm_0.2.2.2.2.2.1 bp_m2 ?_
    exact W.iret (v := (-2)) hx hb hr (fun t ht hW => ⟨⟨(-2), (qB, jK), rfl, hp, by rw [ht]; exact hP, va_K.moved hW.alike hK, hD⟩, hS.F ht⟩) hS.2.2 eX9_harm_0.2.2.2.2.2.2.1
abbrev aDi (cI cC cZ cB cJ : ClassId) (xH xB vI uJ rW uQ uP uO wY xO tJ jJ mY pG pD pE eO uS tX uR rY tY : Nat) (oY rJ pX rO : Int32) (rD vX : Nat -> Int32) (dN bD bJ aI : Int32) (uU gF pL mX oE : Nat -> Int32) (jE eW eY dU fY gJ jG nU pQ qI sY uG pY nJ : Int32) (qY qU pN : Nat -> Int32) : va_W := [(xH, .inr (5, [.ref xB, .ref vI, .ref uJ, .ref rW, .ref uQ, .ref uP, .ref uO, .int oY, .int rJ, .int pX, .int rO])), (uJ, .inl (cI, 8, .inl rD)), (uP, .inl (cI, 8, .inl vX)), (xB, .inr (0, [.ref vI, .ref wY, .ref xO])), (vI, .inr (3, [.ref tJ, .ref jJ, .ref mY, .ref pG, .ref pD, .ref pE, .ref eO, .int dN, .int bD, .int bJ, .int aI])), (tJ, .inl (cI, 16, .inl uU)), (jJ, .inl (cI, 16, .inl gF)), (mY, .inl (cI, 16, .inl pL)), (pD, .inl (cI, 8, .inl mX)), (pE, .inl (cI, 8, .inl oE)), (wY, .inr (2, [.int jE, .int eW, .int eY, .int dU, .int fY, .int gJ, .int jG, .int nU])), (xO, .inr (7, [.ref uS, .ref tX, .ref uR, .ref rY, .ref tY, .int pQ, .int qI, .int sY, .int uG, .int pY, .int nJ])), (uS, .inl (cI, 7, .inl qY)), (uR, .inl (cI, 40, .inl qU)), (rY, .inl (cI, 40, .inl pN))]
abbrev aPS (dC : Nat -> ClassId) (dI : Nat -> Nat -> Nat) (cI cC cZ cB cJ : ClassId) (A : Nat -> Prop) (xH xB vI uJ rW uQ uP uO wY xO tJ jJ mY pG pD pE eO uS tX uR rY tY : Nat) (oY rJ pX rO : Int32) (rD : Nat -> Int32) (dN bD bJ aI : Int32) (uU gF pL mX oE : Nat -> Int32) (jE eW eY dU fY gJ jG nU pQ qI sY uG pY nJ : Int32) (pN : Nat -> Int32) (post : (Nat -> Int32) -> (Nat -> Int32) -> (Nat -> Int32) -> Prop) : Array Value -> State -> Outcome -> State -> Prop := va_Qv (fun (u : (Nat -> Int32) × (Nat -> Int32) × (Nat -> Int32)) => post u.1 u.2.1 u.2.2) (fun u t => gB (dC, dI) (tyl cI cC cZ cB cJ) A (aDi cI cC cZ cB cJ xH xB vI uJ rW uQ uP uO wY xO tJ jJ mY pG pD pE eO uS tX uR rY tY oY rJ pX rO rD u.1 dN bD bJ aI uU gF pL mX oE jE eW eY dU fY gJ jG nU pQ qI sY uG pY nJ u.2.1 u.2.2 pN) t) A
abbrev aO6 : Room := { frames := 3, cells := 0, slots := 0, locals := 73 }
section S_X5_loadFirsts
variable {p : Program} {l : Launch} {e : Env} {s : State} {m : MethodId} {args : Array Value} {below : List Frame} {meth : Method} {c : Code} {dC : Nat -> ClassId} {dI : Nat -> Nat -> Nat} {cI cC cZ cB cJ : ClassId} {A : Nat -> Prop} {xH xB vI uJ rW uQ uP uO wY xO tJ jJ mY pG pD pE eO uS tX uR rY tY : Nat} {oY rJ pX rO : Int32} {rD : Nat -> Int32} {dN bD bJ aI : Int32} {uU gF pL mX oE : Nat -> Int32} {jE eW eY dU fY gJ jG nU pQ qI sY uG pY nJ : Int32} {pN : Nat -> Int32} {post : (Nat -> Int32) -> (Nat -> Int32) -> (Nat -> Int32) -> Prop}
def ws_X5_loadFirsts_93 (post : (Nat -> Int32) -> (Nat -> Int32) -> (Nat -> Int32) -> Prop) (K7 : Int32 -> Int32 -> Int32 -> (Nat -> Int32) -> (Nat -> Int32) -> (Nat -> Int32) -> Prop) (K50 : Int32 -> Int32 -> Int32 -> Int32 -> Int32 -> (Nat -> Int32) -> (Nat -> Int32) -> (Nat -> Int32) -> Prop) (oY : Int32) (rD : Nat -> Int32) (dN bD : Int32) (uU gF pL mX oE : Nat -> Int32) (dU pQ : Int32) (pN : Nat -> Int32) (x1 x2 x3 x4 x5 : Int32) (vX qY qU : Nat -> Int32) : Prop := ∀ v_5 : Int32, v_5 = x5 + 1 -> K50 x1 x2 x3 x4 v_5 vX qY qU
set_option maxHeartbeats 4000000 in
set_option maxRecDepth 100000 in
theorem ks_X5_loadFirsts_93 (C0 : gc aB8 none 6 RX5 (dC, dI) (tyl cI cC cZ cB cJ) A p s m args meth c) {K7 : Int32 -> Int32 -> Int32 -> (Nat -> Int32) -> (Nat -> Int32) -> (Nat -> Int32) -> Prop} {K50 : Int32 -> Int32 -> Int32 -> Int32 -> Int32 -> (Nat -> Int32) -> (Nat -> Int32) -> (Nat -> Int32) -> Prop} (hK7 : ∀ (x1 : Int32) (x2 : Int32) (x3 : Int32) (vX : Nat -> Int32) (qY : Nat -> Int32) (qU : Nat -> Int32) (H : Heap) (locs : List Loc) (ls : Array Slot), K7 x1 x2 x3 vX qY qU -> va_P (dC, dI) classes (aDi cI cC cZ cB cJ xH xB vI uJ rW uQ uP uO wY xO tJ jJ mY pG pD pE eO uS tX uR rY tY oY rJ pX rO rD vX dN bD bJ aI uU gF pL mX oE jE eW eY dU fY gJ jG nU pQ qI sY uG pY nJ qY qU pN) H -> va_D A (aDi cI cC cZ cB cJ xH xB vI uJ rW uQ uP uO wY xO tJ jJ mY pG pD pE eO uS tX uR rY tY oY rJ pX rO rD vX dN bD bJ aI uU gF pL mX oE jE eW eY dU fY gJ jG nU pQ qI sY uG pY nJ qY qU pN) -> va_S A s.heap H locs -> lv_has ls 6 [(0, .ref xH), (1, .int x1), (2, .int x2), (3, .int x3)] -> W p l e aO6 s m args below meth c H locs 0 0 (MQ below (aPS dC dI cI cC cZ cB cJ A xH xB vI uJ rW uQ uP uO wY xO tJ jJ mY pG pD pE eO uS tX uR rY tY oY rJ pX rO rD dN bD bJ aI uU gF pL mX oE jE eW eY dU fY gJ jG nU pQ qI sY uG pY nJ pN post) args s 0 0 A) (F0 m 7 ls [])) (hK50 : ∀ (x1 : Int32) (x2 : Int32) (x3 : Int32) (x4 : Int32) (x5 : Int32) (vX : Nat -> Int32) (qY : Nat -> Int32) (qU : Nat -> Int32) (H : Heap) (locs : List Loc) (ls : Array Slot), K50 x1 x2 x3 x4 x5 vX qY qU -> va_P (dC, dI) classes (aDi cI cC cZ cB cJ xH xB vI uJ rW uQ uP uO wY xO tJ jJ mY pG pD pE eO uS tX uR rY tY oY rJ pX rO rD vX dN bD bJ aI uU gF pL mX oE jE eW eY dU fY gJ jG nU pQ qI sY uG pY nJ qY qU pN) H -> va_D A (aDi cI cC cZ cB cJ xH xB vI uJ rW uQ uP uO wY xO tJ jJ mY pG pD pE eO uS tX uR rY tY oY rJ pX rO rD vX dN bD bJ aI uU gF pL mX oE jE eW eY dU fY gJ jG nU pQ qI sY uG pY nJ qY qU pN) -> va_S A s.heap H locs -> lv_has ls 6 [(0, .ref xH), (1, .int x1), (2, .int x2), (3, .int x3), (4, .int x4), (5, .int x5)] -> W p l e aO6 s m args below meth c H locs 0 0 (MQ below (aPS dC dI cI cC cZ cB cJ A xH xB vI uJ rW uQ uP uO wY xO tJ jJ mY pG pD pE eO uS tX uR rY tY oY rJ pX rO rD dN bD bJ aI uU gF pL mX oE jE eW eY dU fY gJ jG nU pQ qI sY uG pY nJ pN post) args s 0 0 A) (F0 m 50 ls [])) : ∀ (x1 x2 x3 x4 x5 : Int32) (vX qY qU : Nat -> Int32) (H : Heap) (locs : List Loc) (ls : Array Slot), (ws_X5_loadFirsts_93 post K7 K50 oY rD dN bD uU gF pL mX oE dU pQ pN) x1 x2 x3 x4 x5 vX qY qU -> va_P (dC, dI) classes (aDi cI cC cZ cB cJ xH xB vI uJ rW uQ uP uO wY xO tJ jJ mY pG pD pE eO uS tX uR rY tY oY rJ pX rO rD vX dN bD bJ aI uU gF pL mX oE jE eW eY dU fY gJ jG nU pQ qI sY uG pY nJ qY qU pN) H -> va_D A (aDi cI cC cZ cB cJ xH xB vI uJ rW uQ uP uO wY xO tJ jJ mY pG pD pE eO uS tX uR rY tY oY rJ pX rO rD vX dN bD bJ aI uU gF pL mX oE jE eW eY dU fY gJ jG nU pQ qI sY uG pY nJ qY qU pN) -> va_S A s.heap H locs -> lv_has ls 6 [(0, .ref xH), (1, .int x1), (2, .int x2), (3, .int x3), (4, .int x4), (5, .int x5)] -> W p l e aO6 s m args below meth c H locs 0 0 (MQ below (aPS dC dI cI cC cZ cB cJ A xH xB vI uJ rW uQ uP uO wY xO tJ jJ mY pG pD pE eO uS tX uR rY tY oY rJ pX rO rD dN bD bJ aI uU gF pL mX oE jE eW eY dU fY gJ jG nU pQ qI sY uG pY nJ pN post) args s 0 0 A) (F0 m 93 ls []) := by
  obtain ⟨hx, hb, hr, hml, hown, hts, hlocks, hA, hK, hN, tL, tM, hZL, hTL, hZM, hTM, hZX⟩ := id C0
  intro x1 x2 x3 x4 x5 vX qY qU H locs ls hp hP hD hS hl
  unfold ws_X5_loadFirsts_93 at hp
  obtain ⟨v_5, aJD⟩ : ∃ y : Int32, y = x5 + 1 := ⟨_, rfl⟩
  refine lv_iinc (v := v_5) (lv' := [(5, .int v_5), (0, .ref xH), (1, .int x1), (2, .int x2), (3, .int x3), (4, .int x4)]) hx hb aK1.2.2.2.2.2.2.2.2.2.1 hl (k := 5) rfl (by rw [aJD]; rfl) (by decide) rfl (fun ls hl => ?_)
  have hp := hp v_5 aJD
  refine lv_goto (tgt := 50) hx hb aK1.2.2.2.2.2.2.2.2.2.2.1 (by decide) ?_
  exact hK50 x1 x2 x3 x4 v_5 vX qY qU H locs ls hp hP hD hS (lv_sub hl [1, 2, 3, 4, 5, 0] rfl)
def ws_X5_loadFirsts_50 (post : (Nat -> Int32) -> (Nat -> Int32) -> (Nat -> Int32) -> Prop) (K7 : Int32 -> Int32 -> Int32 -> (Nat -> Int32) -> (Nat -> Int32) -> (Nat -> Int32) -> Prop) (next : Int32 -> Int32 -> Int32 -> Int32 -> Int32 -> (Nat -> Int32) -> (Nat -> Int32) -> (Nat -> Int32) -> Prop) (oY : Int32) (rD : Nat -> Int32) (dN bD : Int32) (uU gF pL mX oE : Nat -> Int32) (dU pQ : Int32) (pN : Nat -> Int32) (x1 x2 x3 x4 x5 : Int32) (vX qY qU : Nat -> Int32) : Prop := (dN <= x5 -> ∀ v_2 : Int32, v_2 = x2 &&& (x4 ^^^ (-1)) -> ∀ v_3 : Int32, v_3 = x3 + 1 -> K7 x1 v_2 v_3 vX qY qU) /\ (¬ dN <= x5 -> ∀ v_4 : Int32, v_4 = x4 >>> (x5 &&& 31) -> ((v_4 &&& 1) = 0 -> ws_X5_loadFirsts_93 post K7 next oY rD dN bD uU gF pL mX oE dU pQ pN x1 x2 x3 x4 x5 vX qY qU) /\ (¬ (v_4 &&& 1) = 0 -> vp_in x3 8 /\ (∀ v_6 : Int32, v_6 = vX x3.toNatClampNeg -> aSP (fun r_7 ru_given_8 ru_stack_9 => ∀ aEr : Int32, aEr = v_6 + r_7 -> vp_in x3 8 /\ (ws_X5_loadFirsts_93 post K7 next oY rD dN bD uU gF pL mX oE dU pQ pN x1 x2 x3 x4 x5 (upd vX x3.toNatClampNeg aEr) ru_given_8 ru_stack_9)) x5 x3 0 0 dN uU gF pL mX oE dU pQ qY qU pN)))
noncomputable def wb_X5_loadFirsts_50 (post : (Nat -> Int32) -> (Nat -> Int32) -> (Nat -> Int32) -> Prop) (K7 : Int32 -> Int32 -> Int32 -> (Nat -> Int32) -> (Nat -> Int32) -> (Nat -> Int32) -> Prop) (oY : Int32) (rD : Nat -> Int32) (dN bD : Int32) (uU gF pL mX oE : Nat -> Int32) (dU pQ : Int32) (pN : Nat -> Int32) : Nat -> Int32 -> Int32 -> Int32 -> Int32 -> Int32 -> (Nat -> Int32) -> (Nat -> Int32) -> (Nat -> Int32) -> Prop := fun n => Nat.rec (motive := fun _ => Int32 -> Int32 -> Int32 -> Int32 -> Int32 -> (Nat -> Int32) -> (Nat -> Int32) -> (Nat -> Int32) -> Prop) (fun _ _ _ _ _ _ _ _ => False) (fun _ ih => ws_X5_loadFirsts_50 post K7 ih oY rD dN bD uU gF pL mX oE dU pQ pN) n
set_option maxHeartbeats 4000000 in
set_option maxRecDepth 100000 in
theorem ks_X5_loadFirsts_50 (C0 : gc aB8 none 6 RX5 (dC, dI) (tyl cI cC cZ cB cJ) A p s m args meth c) {K7 : Int32 -> Int32 -> Int32 -> (Nat -> Int32) -> (Nat -> Int32) -> (Nat -> Int32) -> Prop} {next : Int32 -> Int32 -> Int32 -> Int32 -> Int32 -> (Nat -> Int32) -> (Nat -> Int32) -> (Nat -> Int32) -> Prop} (hK7 : ∀ (x1 : Int32) (x2 : Int32) (x3 : Int32) (vX : Nat -> Int32) (qY : Nat -> Int32) (qU : Nat -> Int32) (H : Heap) (locs : List Loc) (ls : Array Slot), K7 x1 x2 x3 vX qY qU -> va_P (dC, dI) classes (aDi cI cC cZ cB cJ xH xB vI uJ rW uQ uP uO wY xO tJ jJ mY pG pD pE eO uS tX uR rY tY oY rJ pX rO rD vX dN bD bJ aI uU gF pL mX oE jE eW eY dU fY gJ jG nU pQ qI sY uG pY nJ qY qU pN) H -> va_D A (aDi cI cC cZ cB cJ xH xB vI uJ rW uQ uP uO wY xO tJ jJ mY pG pD pE eO uS tX uR rY tY oY rJ pX rO rD vX dN bD bJ aI uU gF pL mX oE jE eW eY dU fY gJ jG nU pQ qI sY uG pY nJ qY qU pN) -> va_S A s.heap H locs -> lv_has ls 6 [(0, .ref xH), (1, .int x1), (2, .int x2), (3, .int x3)] -> W p l e aO6 s m args below meth c H locs 0 0 (MQ below (aPS dC dI cI cC cZ cB cJ A xH xB vI uJ rW uQ uP uO wY xO tJ jJ mY pG pD pE eO uS tX uR rY tY oY rJ pX rO rD dN bD bJ aI uU gF pL mX oE jE eW eY dU fY gJ jG nU pQ qI sY uG pY nJ pN post) args s 0 0 A) (F0 m 7 ls [])) (hKn : ∀ (x1 : Int32) (x2 : Int32) (x3 : Int32) (x4 : Int32) (x5 : Int32) (vX : Nat -> Int32) (qY : Nat -> Int32) (qU : Nat -> Int32) (H : Heap) (locs : List Loc) (ls : Array Slot), next x1 x2 x3 x4 x5 vX qY qU -> va_P (dC, dI) classes (aDi cI cC cZ cB cJ xH xB vI uJ rW uQ uP uO wY xO tJ jJ mY pG pD pE eO uS tX uR rY tY oY rJ pX rO rD vX dN bD bJ aI uU gF pL mX oE jE eW eY dU fY gJ jG nU pQ qI sY uG pY nJ qY qU pN) H -> va_D A (aDi cI cC cZ cB cJ xH xB vI uJ rW uQ uP uO wY xO tJ jJ mY pG pD pE eO uS tX uR rY tY oY rJ pX rO rD vX dN bD bJ aI uU gF pL mX oE jE eW eY dU fY gJ jG nU pQ qI sY uG pY nJ qY qU pN) -> va_S A s.heap H locs -> lv_has ls 6 [(0, .ref xH), (1, .int x1), (2, .int x2), (3, .int x3), (4, .int x4), (5, .int x5)] -> W p l e aO6 s m args below meth c H locs 0 0 (MQ below (aPS dC dI cI cC cZ cB cJ A xH xB vI uJ rW uQ uP uO wY xO tJ jJ mY pG pD pE eO uS tX uR rY tY oY rJ pX rO rD dN bD bJ aI uU gF pL mX oE jE eW eY dU fY gJ jG nU pQ qI sY uG pY nJ pN post) args s 0 0 A) (F0 m 50 ls [])) : ∀ (x1 x2 x3 x4 x5 : Int32) (vX qY qU : Nat -> Int32) (H : Heap) (locs : List Loc) (ls : Array Slot), (ws_X5_loadFirsts_50 post K7 next oY rD dN bD uU gF pL mX oE dU pQ pN) x1 x2 x3 x4 x5 vX qY qU -> va_P (dC, dI) classes (aDi cI cC cZ cB cJ xH xB vI uJ rW uQ uP uO wY xO tJ jJ mY pG pD pE eO uS tX uR rY tY oY rJ pX rO rD vX dN bD bJ aI uU gF pL mX oE jE eW eY dU fY gJ jG nU pQ qI sY uG pY nJ qY qU pN) H -> va_D A (aDi cI cC cZ cB cJ xH xB vI uJ rW uQ uP uO wY xO tJ jJ mY pG pD pE eO uS tX uR rY tY oY rJ pX rO rD vX dN bD bJ aI uU gF pL mX oE jE eW eY dU fY gJ jG nU pQ qI sY uG pY nJ qY qU pN) -> va_S A s.heap H locs -> lv_has ls 6 [(0, .ref xH), (1, .int x1), (2, .int x2), (3, .int x3), (4, .int x4), (5, .int x5)] -> W p l e aO6 s m args below meth c H locs 0 0 (MQ below (aPS dC dI cI cC cZ cB cJ A xH xB vI uJ rW uQ uP uO wY xO tJ jJ mY pG pD pE eO uS tX uR rY tY oY rJ pX rO rD dN bD bJ aI uU gF pL mX oE jE eW eY dU fY gJ jG nU pQ qI sY uG pY nJ pN post) args s 0 0 A) (F0 m 50 ls []) := by
  obtain ⟨hx, hb, hr, hml, hown, hts, hlocks, hA, hK, hN, tL, tM, hZL, hTL, hZM, hTM, hZX⟩ := id C0
  intro x1 x2 x3 x4 x5 vX qY qU H locs ls hp hP hD hS hl
  unfold ws_X5_loadFirsts_50 at hp
  refine lv_iload hx hb aK0.1 (lv_at hl 5 rfl) ?_
  refine lv_aload_n hx hb aK0.2.1 rfl (lv_at hl 0 rfl) ?_
  refine va_get (D := (dC, dI)) (ci := 5) (v := .ref vI) (C := RX5) (T := TX5) (N := 11) hx hb hts i_X5 hown hK hP 0 rfl rfl 1 (lbz rfl) (hts _ q_419) (fun _ h9 => h9) rfl aK0.2.2.1 ?_
  refine va_get (D := (dC, dI)) (ci := 3) (v := .int dN) (C := RX3) (T := TX3) (N := 11) hx hb hts i_X3 hown hK hP 4 rfl rfl 7 (lbz rfl) (hts _ q_504) (fun _ h9 => h9) rfl aK0.2.2.2.1 ?_
  refine lv_icmp_ge (tgt := 99) hx hb aK0.2.2.2.2.1 (by decide) (fun hc => ?_) (fun hc => ?_)
  · have hp := hp.1 hc
    refine lv_iload_n hx hb aK1.2.2.2.2.2.2.2.2.2.2.2.1 rfl (lv_at hl 2 rfl) ?_
    refine lv_iload hx hb aK1.2.2.2.2.2.2.2.2.2.2.2.2.1 (lv_at hl 4 rfl) ?_
    refine lv_iconst (v := (-1)) hx hb aK1.2.2.2.2.2.2.2.2.2.2.2.2.2.1 aEJ ?_
    refine lv_ixor hx hb aK1.2.2.2.2.2.2.2.2.2.2.2.2.2.2.1 ?_
    refine lv_iand hx hb aK1.2.2.2.2.2.2.2.2.2.2.2.2.2.2.2 ?_
    refine lv_topi (fun v_2 aGO => ?_)
    have hp := hp v_2 aGO
    refine lv_istore_n (lv' := [(2, .int v_2), (0, .ref xH), (1, .int x1), (3, .int x3), (4, .int x4), (5, .int x5)]) hx hb eX5_loadFirsts_105.1 rfl hl (by decide) rfl (fun ls hl => ?_)
    obtain ⟨v_3, aGW⟩ : ∃ y : Int32, y = x3 + 1 := ⟨_, rfl⟩
    refine lv_iinc (v := v_3) (lv' := [(3, .int v_3), (2, .int v_2), (0, .ref xH), (1, .int x1), (4, .int x4), (5, .int x5)]) hx hb eX5_loadFirsts_105.2.1 hl (k := 3) rfl (by rw [aGW]; rfl) (by decide) rfl (fun ls hl => ?_)
    have hp := hp v_3 aGW
    refine lv_goto (tgt := 7) hx hb eX5_loadFirsts_105.2.2.1 (by decide) ?_
    exact hK7 x1 v_2 v_3 vX qY qU H locs ls hp hP hD hS (lv_sub hl [2, 3, 1, 0] rfl)
  · have hp := hp.2 hc
    refine lv_iload hx hb aK0.2.2.2.2.2.1 (lv_at hl 4 rfl) ?_
    refine lv_iload hx hb aK0.2.2.2.2.2.2.1 (lv_at hl 5 rfl) ?_
    refine lv_ishr hx hb aK0.2.2.2.2.2.2.2.1 ?_
    refine lv_topi (fun v_4 aHM => ?_)
    have hp := hp v_4 aHM
    refine lv_iconst (v := 1) hx hb aK0.2.2.2.2.2.2.2.2.1 aDx ?_
    refine lv_iand hx hb aK0.2.2.2.2.2.2.2.2.2.1 ?_
    refine lv_if_eq (tgt := 93) hx hb aK0.2.2.2.2.2.2.2.2.2.2.1 (by decide) (fun hc => ?_) (fun hc => ?_)
    · have hp := hp.1 hc
      exact ks_X5_loadFirsts_93 C0 hK7 hKn x1 x2 x3 x4 x5 vX qY qU H locs ls hp hP hD hS (lv_sub hl [0, 1, 2, 3, 4, 5] rfl)
    · have hp := hp.2 hc
      refine lv_aload_n hx hb aK0.2.2.2.2.2.2.2.2.2.2.2.1 rfl (lv_at hl 0 rfl) ?_
      refine va_get (D := (dC, dI)) (ci := 5) (v := .ref uP) (C := RX5) (T := TX5) (N := 11) hx hb hts i_X5 hown hK hP 0 rfl rfl 5 (lbz rfl) (hts _ q_574) (fun _ h9 => h9) rfl aK0.2.2.2.2.2.2.2.2.2.2.2.2.1 ?_
      refine lv_iload_n hx hb aK0.2.2.2.2.2.2.2.2.2.2.2.2.2.1 rfl (lv_at hl 3 rfl) ?_
      refine lv_dup2_11 hx hb aK0.2.2.2.2.2.2.2.2.2.2.2.2.2.2.1 rfl rfl ?_
      have hin := hp.1
      have hp := hp.2
      refine va_iald hx hb hK hP 2 0 rfl rfl hin aK0.2.2.2.2.2.2.2.2.2.2.2.2.2.2.2 ?_
      refine lv_topi (fun v_6 ev_6 => ?_)
      have hp := hp v_6 ev_6
      refine lv_aload_n hx hb aK1.1 rfl (lv_at hl 0 rfl) ?_
      refine va_get (D := (dC, dI)) (ci := 5) (v := .ref xB) (C := RX5) (T := TX5) (N := 11) hx hb hts i_X5 hown hK hP 0 rfl rfl 0 (lbz rfl) (hts _ q_423) (fun _ h9 => h9) rfl aK1.2.1 ?_
      refine lv_iload hx hb aK1.2.2.1 (lv_at hl 5 rfl) ?_
      refine lv_iload_n hx hb aK1.2.2.2.1 rfl (lv_at hl 3 rfl) ?_
      refine lv_iconst (v := 0) hx hb aK1.2.2.2.2.1 aCi ?_
      refine lv_iconst (v := 0) hx hb aK1.2.2.2.2.2.1 aCi ?_
      have hm := mgk (wc := (aDu cI cC cZ cB cJ xB vI wY xO tJ jJ mY pG pD pE eO uS tX uR rY tY dN bD bJ aI uU gF pL mX oE jE eW eY dU fY gJ jG nU pQ qI sY uG pY nJ qY qU pN)) hP mk_136 15 rfl rfl rfl
      refine yW hP hD hS hA (yS mk_136) (aAi mk_136) hm.1 hm.2 (aAk _) (zW _) (zF (As := [.int x5, .int x3, .int 0, .int 0]) (rest := [.int v_6, .int x3, .ref uP]) C0 hP hD hS (yS mk_136) hm.1 (aAl _) 3 0 rfl rfl (c_X0_pickSeconds l dC dI cI cC cZ cB cJ xB vI wY xO tJ jJ mY pG pD pE eO uS tX uR rY tY H.size x5 x3 0 0 dN bD bJ aI uU gF pL mX oE jE eW eY dU fY gJ jG nU pQ qI sY uG pY nJ qY qU pN _ hp) q_325 q_507 q_326 q_327 q_187 h_X0_pickSeconds rfl rfl ⟨lbz rfl, lbz rfl⟩ rfl rfl hl.1 rfl (lv_room (lbz rfl)) aK1.2.2.2.2.2.2.1 ⟨Nat.zero_le _, Nat.zero_le _⟩) (fun r_7 u H locs hp hP hD hS => ?_)
      obtain ⟨ru_given_8, ru_stack_9⟩ := u
      have hPD := PDm (ws' := (aDi cI cC cZ cB cJ xH xB vI uJ rW uQ uP uO wY xO tJ jJ mY pG pD pE eO uS tX uR rY tY oY rJ pX rO rD vX dN bD bJ aI uU gF pL mX oE jE eW eY dU fY gJ jG nU pQ qI sY uG pY nJ ru_given_8 ru_stack_9 pN)) hP hD 15 rfl rfl rfl
      have hP := hPD.1
      have hD := hPD.2
      refine lv_iadd hx hb aK1.2.2.2.2.2.2.2.1 ?_
      refine lv_topi (fun aEr aNB => ?_)
      have hp := hp aEr aNB
      have hin := hp.1
      have hp := hp.2
      refine va_iast hx hb hK hP hD hS 2 0 rfl rfl hin aK1.2.2.2.2.2.2.2.2.1 (fun H locs hP hD hS => ?_)
      have hPD := PDw (ws' := (aDi cI cC cZ cB cJ xH xB vI uJ rW uQ uP uO wY xO tJ jJ mY pG pD pE eO uS tX uR rY tY oY rJ pX rO rD (upd vX x3.toNatClampNeg aEr) dN bD bJ aI uU gF pL mX oE jE eW eY dU fY gJ jG nU pQ qI sY uG pY nJ ru_given_8 ru_stack_9 pN)) hP hD rfl
      have hP := hPD.1
      have hD := hPD.2
      exact ks_X5_loadFirsts_93 C0 hK7 hKn x1 x2 x3 x4 x5 (upd vX x3.toNatClampNeg aEr) ru_given_8 ru_stack_9 H locs ls hp hP hD hS (lv_sub hl [0, 1, 2, 3, 4, 5] rfl)
set_option maxHeartbeats 4000000 in
set_option maxRecDepth 100000 in
theorem kb_X5_loadFirsts_50 (C0 : gc aB8 none 6 RX5 (dC, dI) (tyl cI cC cZ cB cJ) A p s m args meth c) {K7 : Int32 -> Int32 -> Int32 -> (Nat -> Int32) -> (Nat -> Int32) -> (Nat -> Int32) -> Prop} (hK7 : ∀ (x1 : Int32) (x2 : Int32) (x3 : Int32) (vX : Nat -> Int32) (qY : Nat -> Int32) (qU : Nat -> Int32) (H : Heap) (locs : List Loc) (ls : Array Slot), K7 x1 x2 x3 vX qY qU -> va_P (dC, dI) classes (aDi cI cC cZ cB cJ xH xB vI uJ rW uQ uP uO wY xO tJ jJ mY pG pD pE eO uS tX uR rY tY oY rJ pX rO rD vX dN bD bJ aI uU gF pL mX oE jE eW eY dU fY gJ jG nU pQ qI sY uG pY nJ qY qU pN) H -> va_D A (aDi cI cC cZ cB cJ xH xB vI uJ rW uQ uP uO wY xO tJ jJ mY pG pD pE eO uS tX uR rY tY oY rJ pX rO rD vX dN bD bJ aI uU gF pL mX oE jE eW eY dU fY gJ jG nU pQ qI sY uG pY nJ qY qU pN) -> va_S A s.heap H locs -> lv_has ls 6 [(0, .ref xH), (1, .int x1), (2, .int x2), (3, .int x3)] -> W p l e aO6 s m args below meth c H locs 0 0 (MQ below (aPS dC dI cI cC cZ cB cJ A xH xB vI uJ rW uQ uP uO wY xO tJ jJ mY pG pD pE eO uS tX uR rY tY oY rJ pX rO rD dN bD bJ aI uU gF pL mX oE jE eW eY dU fY gJ jG nU pQ qI sY uG pY nJ pN post) args s 0 0 A) (F0 m 7 ls [])) : ∀ (n : Nat), ∀ (x1 x2 x3 x4 x5 : Int32) (vX qY qU : Nat -> Int32) (H : Heap) (locs : List Loc) (ls : Array Slot), (wb_X5_loadFirsts_50 post K7 oY rD dN bD uU gF pL mX oE dU pQ pN n) x1 x2 x3 x4 x5 vX qY qU -> va_P (dC, dI) classes (aDi cI cC cZ cB cJ xH xB vI uJ rW uQ uP uO wY xO tJ jJ mY pG pD pE eO uS tX uR rY tY oY rJ pX rO rD vX dN bD bJ aI uU gF pL mX oE jE eW eY dU fY gJ jG nU pQ qI sY uG pY nJ qY qU pN) H -> va_D A (aDi cI cC cZ cB cJ xH xB vI uJ rW uQ uP uO wY xO tJ jJ mY pG pD pE eO uS tX uR rY tY oY rJ pX rO rD vX dN bD bJ aI uU gF pL mX oE jE eW eY dU fY gJ jG nU pQ qI sY uG pY nJ qY qU pN) -> va_S A s.heap H locs -> lv_has ls 6 [(0, .ref xH), (1, .int x1), (2, .int x2), (3, .int x3), (4, .int x4), (5, .int x5)] -> W p l e aO6 s m args below meth c H locs 0 0 (MQ below (aPS dC dI cI cC cZ cB cJ A xH xB vI uJ rW uQ uP uO wY xO tJ jJ mY pG pD pE eO uS tX uR rY tY oY rJ pX rO rD dN bD bJ aI uU gF pL mX oE jE eW eY dU fY gJ jG nU pQ qI sY uG pY nJ pN post) args s 0 0 A) (F0 m 50 ls []) := by
  intro n
  induction n with
  | zero =>
    intro x1 x2 x3 x4 x5 vX qY qU H locs ls hp
    exact False.elim hp
  | succ n ih =>
    intro x1 x2 x3 x4 x5 vX qY qU H locs ls hp
    exact ks_X5_loadFirsts_50 C0 hK7 ih x1 x2 x3 x4 x5 vX qY qU H locs ls hp
def ws_X5_loadFirsts_45 (post : (Nat -> Int32) -> (Nat -> Int32) -> (Nat -> Int32) -> Prop) (K7 : Int32 -> Int32 -> Int32 -> (Nat -> Int32) -> (Nat -> Int32) -> (Nat -> Int32) -> Prop) (oY : Int32) (rD : Nat -> Int32) (dN bD : Int32) (uU gF pL mX oE : Nat -> Int32) (dU pQ : Int32) (pN : Nat -> Int32) (x1 x2 x3 k0 : Int32) (vX qY qU : Nat -> Int32) : Prop := ∃ n : Nat, wb_X5_loadFirsts_50 post K7 oY rD dN bD uU gF pL mX oE dU pQ pN n x1 x2 x3 k0 0 vX qY qU
set_option maxHeartbeats 4000000 in
set_option maxRecDepth 100000 in
theorem ks_X5_loadFirsts_45 (C0 : gc aB8 none 6 RX5 (dC, dI) (tyl cI cC cZ cB cJ) A p s m args meth c) {K7 : Int32 -> Int32 -> Int32 -> (Nat -> Int32) -> (Nat -> Int32) -> (Nat -> Int32) -> Prop} (hK7 : ∀ (x1 : Int32) (x2 : Int32) (x3 : Int32) (vX : Nat -> Int32) (qY : Nat -> Int32) (qU : Nat -> Int32) (H : Heap) (locs : List Loc) (ls : Array Slot), K7 x1 x2 x3 vX qY qU -> va_P (dC, dI) classes (aDi cI cC cZ cB cJ xH xB vI uJ rW uQ uP uO wY xO tJ jJ mY pG pD pE eO uS tX uR rY tY oY rJ pX rO rD vX dN bD bJ aI uU gF pL mX oE jE eW eY dU fY gJ jG nU pQ qI sY uG pY nJ qY qU pN) H -> va_D A (aDi cI cC cZ cB cJ xH xB vI uJ rW uQ uP uO wY xO tJ jJ mY pG pD pE eO uS tX uR rY tY oY rJ pX rO rD vX dN bD bJ aI uU gF pL mX oE jE eW eY dU fY gJ jG nU pQ qI sY uG pY nJ qY qU pN) -> va_S A s.heap H locs -> lv_has ls 6 [(0, .ref xH), (1, .int x1), (2, .int x2), (3, .int x3)] -> W p l e aO6 s m args below meth c H locs 0 0 (MQ below (aPS dC dI cI cC cZ cB cJ A xH xB vI uJ rW uQ uP uO wY xO tJ jJ mY pG pD pE eO uS tX uR rY tY oY rJ pX rO rD dN bD bJ aI uU gF pL mX oE jE eW eY dU fY gJ jG nU pQ qI sY uG pY nJ pN post) args s 0 0 A) (F0 m 7 ls [])) : ∀ (x1 x2 x3 k0 : Int32) (vX qY qU : Nat -> Int32) (H : Heap) (locs : List Loc) (ls : Array Slot), (ws_X5_loadFirsts_45 post K7 oY rD dN bD uU gF pL mX oE dU pQ pN) x1 x2 x3 k0 vX qY qU -> va_P (dC, dI) classes (aDi cI cC cZ cB cJ xH xB vI uJ rW uQ uP uO wY xO tJ jJ mY pG pD pE eO uS tX uR rY tY oY rJ pX rO rD vX dN bD bJ aI uU gF pL mX oE jE eW eY dU fY gJ jG nU pQ qI sY uG pY nJ qY qU pN) H -> va_D A (aDi cI cC cZ cB cJ xH xB vI uJ rW uQ uP uO wY xO tJ jJ mY pG pD pE eO uS tX uR rY tY oY rJ pX rO rD vX dN bD bJ aI uU gF pL mX oE jE eW eY dU fY gJ jG nU pQ qI sY uG pY nJ qY qU pN) -> va_S A s.heap H locs -> lv_has ls 6 [(0, .ref xH), (1, .int x1), (2, .int x2), (3, .int x3)] -> W p l e aO6 s m args below meth c H locs 0 0 (MQ below (aPS dC dI cI cC cZ cB cJ A xH xB vI uJ rW uQ uP uO wY xO tJ jJ mY pG pD pE eO uS tX uR rY tY oY rJ pX rO rD dN bD bJ aI uU gF pL mX oE jE eW eY dU fY gJ jG nU pQ qI sY uG pY nJ pN post) args s 0 0 A) (F0 m 45 ls [.int k0]) := by
  obtain ⟨hx, hb, hr, hml, hown, hts, hlocks, hA, hK, hN, tL, tM, hZL, hTL, hZM, hTM, hZX⟩ := id C0
  intro x1 x2 x3 k0 vX qY qU H locs ls hp hP hD hS hl
  unfold ws_X5_loadFirsts_45 at hp
  refine lv_istore (lv' := [(4, .int k0), (0, .ref xH), (1, .int x1), (2, .int x2), (3, .int x3)]) hx hb aKz.2.2.2.2.2.2.2.2.2.2.2.2.2.1 hl (by decide) rfl (fun ls hl => ?_)
  refine lv_iconst (v := 0) hx hb aKz.2.2.2.2.2.2.2.2.2.2.2.2.2.2.1 aCi ?_
  refine lv_istore (lv' := [(5, .int 0), (4, .int k0), (0, .ref xH), (1, .int x1), (2, .int x2), (3, .int x3)]) hx hb aKz.2.2.2.2.2.2.2.2.2.2.2.2.2.2.2 hl (by decide) rfl (fun ls hl => ?_)
  obtain ⟨n9, hp⟩ := hp
  exact kb_X5_loadFirsts_50 C0 hK7 n9 x1 x2 x3 k0 0 vX qY qU H locs ls hp hP hD hS (lv_sub hl [2, 3, 4, 5, 1, 0] rfl)
def ws_X5_loadFirsts_7 (post : (Nat -> Int32) -> (Nat -> Int32) -> (Nat -> Int32) -> Prop) (next : Int32 -> Int32 -> Int32 -> (Nat -> Int32) -> (Nat -> Int32) -> (Nat -> Int32) -> Prop) (oY : Int32) (rD : Nat -> Int32) (dN bD : Int32) (uU gF pL mX oE : Nat -> Int32) (dU pQ : Int32) (pN : Nat -> Int32) (x1 x2 x3 : Int32) (vX qY qU : Nat -> Int32) : Prop := (bD <= x3 -> post vX qY qU) /\ (¬ bD <= x3 -> vp_in x3 8 /\ (∀ v_1 : Int32, v_1 = x1 >>> (x3 &&& 31) -> ((v_1 &&& 1) = 0 -> ws_X5_loadFirsts_45 post next oY rD dN bD uU gF pL mX oE dU pQ pN x1 x2 x3 0 (upd vX x3.toNatClampNeg 0) qY qU) /\ (¬ (v_1 &&& 1) = 0 -> vp_in x3 8 /\ (∀ aGH : Int32, aGH = x2 &&& (rD x3.toNatClampNeg) -> ws_X5_loadFirsts_45 post next oY rD dN bD uU gF pL mX oE dU pQ pN x1 x2 x3 aGH (upd vX x3.toNatClampNeg 0) qY qU))))
noncomputable def wb_X5_loadFirsts_7 (post : (Nat -> Int32) -> (Nat -> Int32) -> (Nat -> Int32) -> Prop) (oY : Int32) (rD : Nat -> Int32) (dN bD : Int32) (uU gF pL mX oE : Nat -> Int32) (dU pQ : Int32) (pN : Nat -> Int32) : Nat -> Int32 -> Int32 -> Int32 -> (Nat -> Int32) -> (Nat -> Int32) -> (Nat -> Int32) -> Prop := fun n => Nat.rec (motive := fun _ => Int32 -> Int32 -> Int32 -> (Nat -> Int32) -> (Nat -> Int32) -> (Nat -> Int32) -> Prop) (fun _ _ _ _ _ _ => False) (fun _ ih => ws_X5_loadFirsts_7 post ih oY rD dN bD uU gF pL mX oE dU pQ pN) n
set_option maxHeartbeats 4000000 in
set_option maxRecDepth 100000 in
theorem ks_X5_loadFirsts_7 (C0 : gc aB8 none 6 RX5 (dC, dI) (tyl cI cC cZ cB cJ) A p s m args meth c) {next : Int32 -> Int32 -> Int32 -> (Nat -> Int32) -> (Nat -> Int32) -> (Nat -> Int32) -> Prop} (hKn : ∀ (x1 : Int32) (x2 : Int32) (x3 : Int32) (vX : Nat -> Int32) (qY : Nat -> Int32) (qU : Nat -> Int32) (H : Heap) (locs : List Loc) (ls : Array Slot), next x1 x2 x3 vX qY qU -> va_P (dC, dI) classes (aDi cI cC cZ cB cJ xH xB vI uJ rW uQ uP uO wY xO tJ jJ mY pG pD pE eO uS tX uR rY tY oY rJ pX rO rD vX dN bD bJ aI uU gF pL mX oE jE eW eY dU fY gJ jG nU pQ qI sY uG pY nJ qY qU pN) H -> va_D A (aDi cI cC cZ cB cJ xH xB vI uJ rW uQ uP uO wY xO tJ jJ mY pG pD pE eO uS tX uR rY tY oY rJ pX rO rD vX dN bD bJ aI uU gF pL mX oE jE eW eY dU fY gJ jG nU pQ qI sY uG pY nJ qY qU pN) -> va_S A s.heap H locs -> lv_has ls 6 [(0, .ref xH), (1, .int x1), (2, .int x2), (3, .int x3)] -> W p l e aO6 s m args below meth c H locs 0 0 (MQ below (aPS dC dI cI cC cZ cB cJ A xH xB vI uJ rW uQ uP uO wY xO tJ jJ mY pG pD pE eO uS tX uR rY tY oY rJ pX rO rD dN bD bJ aI uU gF pL mX oE jE eW eY dU fY gJ jG nU pQ qI sY uG pY nJ pN post) args s 0 0 A) (F0 m 7 ls [])) : ∀ (x1 x2 x3 : Int32) (vX qY qU : Nat -> Int32) (H : Heap) (locs : List Loc) (ls : Array Slot), (ws_X5_loadFirsts_7 post next oY rD dN bD uU gF pL mX oE dU pQ pN) x1 x2 x3 vX qY qU -> va_P (dC, dI) classes (aDi cI cC cZ cB cJ xH xB vI uJ rW uQ uP uO wY xO tJ jJ mY pG pD pE eO uS tX uR rY tY oY rJ pX rO rD vX dN bD bJ aI uU gF pL mX oE jE eW eY dU fY gJ jG nU pQ qI sY uG pY nJ qY qU pN) H -> va_D A (aDi cI cC cZ cB cJ xH xB vI uJ rW uQ uP uO wY xO tJ jJ mY pG pD pE eO uS tX uR rY tY oY rJ pX rO rD vX dN bD bJ aI uU gF pL mX oE jE eW eY dU fY gJ jG nU pQ qI sY uG pY nJ qY qU pN) -> va_S A s.heap H locs -> lv_has ls 6 [(0, .ref xH), (1, .int x1), (2, .int x2), (3, .int x3)] -> W p l e aO6 s m args below meth c H locs 0 0 (MQ below (aPS dC dI cI cC cZ cB cJ A xH xB vI uJ rW uQ uP uO wY xO tJ jJ mY pG pD pE eO uS tX uR rY tY oY rJ pX rO rD dN bD bJ aI uU gF pL mX oE jE eW eY dU fY gJ jG nU pQ qI sY uG pY nJ pN post) args s 0 0 A) (F0 m 7 ls []) := by
  obtain ⟨hx, hb, hr, hml, hown, hts, hlocks, hA, hK, hN, tL, tM, hZL, hTL, hZM, hTM, hZX⟩ := id C0
  intro x1 x2 x3 vX qY qU H locs ls hp hP hD hS hl
  unfold ws_X5_loadFirsts_7 at hp
  refine lv_iload_n hx hb aMf.2.2.2.2.2.1 rfl (lv_at hl 3 rfl) ?_
  refine lv_aload_n hx hb aMf.2.2.2.2.2.2.1 rfl (lv_at hl 0 rfl) ?_
  refine va_get (D := (dC, dI)) (ci := 5) (v := .ref vI) (C := RX5) (T := TX5) (N := 11) hx hb hts i_X5 hown hK hP 0 rfl rfl 1 (lbz rfl) (hts _ q_419) (fun _ h9 => h9) rfl aMf.2.2.2.2.2.2.2.1 ?_
  refine va_get (D := (dC, dI)) (ci := 3) (v := .int bD) (C := RX3) (T := TX3) (N := 11) hx hb hts i_X3 hown hK hP 4 rfl rfl 8 (lbz rfl) (hts _ q_420) (fun _ h9 => h9) rfl aMf.2.2.2.2.2.2.2.2.1 ?_
  refine lv_icmp_ge (tgt := 112) hx hb aMf.2.2.2.2.2.2.2.2.2.1 (by decide) (fun hc => ?_) (fun hc => ?_)
  · have hp := hp.1 hc
    exact W.vret hx hb hr (fun t ht hW => ⟨⟨(vX, qY, qU), rfl, hp, by rw [ht]; exact hP, va_K.moved hW.alike hK, hD⟩, hS.F ht⟩) hS.2.2 eX5_loadFirsts_105.2.2.2
  · have hp := hp.2 hc
    refine lv_aload_n hx hb aMf.2.2.2.2.2.2.2.2.2.2.1 rfl (lv_at hl 0 rfl) ?_
    refine va_get (D := (dC, dI)) (ci := 5) (v := .ref uP) (C := RX5) (T := TX5) (N := 11) hx hb hts i_X5 hown hK hP 0 rfl rfl 5 (lbz rfl) (hts _ q_574) (fun _ h9 => h9) rfl aMf.2.2.2.2.2.2.2.2.2.2.2.1 ?_
    refine lv_iload_n hx hb aMf.2.2.2.2.2.2.2.2.2.2.2.2.1 rfl (lv_at hl 3 rfl) ?_
    refine lv_iconst (v := 0) hx hb aMf.2.2.2.2.2.2.2.2.2.2.2.2.2.1 aCi ?_
    have hin := hp.1
    have hp := hp.2
    refine va_iast hx hb hK hP hD hS 2 0 rfl rfl hin aMf.2.2.2.2.2.2.2.2.2.2.2.2.2.2.1 (fun H locs hP hD hS => ?_)
    have hPD := PDw (ws' := (aDi cI cC cZ cB cJ xH xB vI uJ rW uQ uP uO wY xO tJ jJ mY pG pD pE eO uS tX uR rY tY oY rJ pX rO rD (upd vX x3.toNatClampNeg 0) dN bD bJ aI uU gF pL mX oE jE eW eY dU fY gJ jG nU pQ qI sY uG pY nJ qY qU pN)) hP hD rfl
    have hP := hPD.1
    have hD := hPD.2
    refine lv_iload_n hx hb aMf.2.2.2.2.2.2.2.2.2.2.2.2.2.2.2 rfl (lv_at hl 1 rfl) ?_
    refine lv_iload_n hx hb aKz.1 rfl (lv_at hl 3 rfl) ?_
    refine lv_ishr hx hb aKz.2.1 ?_
    refine lv_topi (fun v_1 aFJ => ?_)
    have hp := hp v_1 aFJ
    refine lv_iconst (v := 1) hx hb aKz.2.2.1 aDx ?_
    refine lv_iand hx hb aKz.2.2.2.1 ?_
    refine lv_if_eq (tgt := 44) hx hb aKz.2.2.2.2.1 (by decide) (fun hc => ?_) (fun hc => ?_)
    · have hp := hp.1 hc
      refine lv_iconst (v := 0) hx hb aKz.2.2.2.2.2.2.2.2.2.2.2.2.1 aCi ?_
      exact ks_X5_loadFirsts_45 C0 hKn x1 x2 x3 0 (upd vX x3.toNatClampNeg 0) qY qU H locs ls hp hP hD hS (lv_sub hl [0, 1, 2, 3] rfl)
    · have hp := hp.2 hc
      refine lv_iload_n hx hb aKz.2.2.2.2.2.1 rfl (lv_at hl 2 rfl) ?_
      refine lv_aload_n hx hb aKz.2.2.2.2.2.2.1 rfl (lv_at hl 0 rfl) ?_
      refine va_get (D := (dC, dI)) (ci := 5) (v := .ref uJ) (C := RX5) (T := TX5) (N := 11) hx hb hts i_X5 hown hK hP 0 rfl rfl 2 (lbz rfl) (hts _ q_421) (fun _ h9 => h9) rfl aKz.2.2.2.2.2.2.2.1 ?_
      refine lv_iload_n hx hb aKz.2.2.2.2.2.2.2.2.1 rfl (lv_at hl 3 rfl) ?_
      have hin := hp.1
      have hp := hp.2
      refine va_iald hx hb hK hP 1 0 rfl rfl hin aKz.2.2.2.2.2.2.2.2.2.1 ?_
      refine lv_iand hx hb aKz.2.2.2.2.2.2.2.2.2.2.1 ?_
      refine lv_topi (fun aGH ev_11 => ?_)
      have hp := hp aGH ev_11
      refine lv_goto (tgt := 45) hx hb aKz.2.2.2.2.2.2.2.2.2.2.2.1 (by decide) ?_
      exact ks_X5_loadFirsts_45 C0 hKn x1 x2 x3 aGH (upd vX x3.toNatClampNeg 0) qY qU H locs ls hp hP hD hS (lv_sub hl [0, 1, 2, 3] rfl)
set_option maxHeartbeats 4000000 in
set_option maxRecDepth 100000 in
theorem kb_X5_loadFirsts_7 (C0 : gc aB8 none 6 RX5 (dC, dI) (tyl cI cC cZ cB cJ) A p s m args meth c) : ∀ (n : Nat), ∀ (x1 x2 x3 : Int32) (vX qY qU : Nat -> Int32) (H : Heap) (locs : List Loc) (ls : Array Slot), (wb_X5_loadFirsts_7 post oY rD dN bD uU gF pL mX oE dU pQ pN n) x1 x2 x3 vX qY qU -> va_P (dC, dI) classes (aDi cI cC cZ cB cJ xH xB vI uJ rW uQ uP uO wY xO tJ jJ mY pG pD pE eO uS tX uR rY tY oY rJ pX rO rD vX dN bD bJ aI uU gF pL mX oE jE eW eY dU fY gJ jG nU pQ qI sY uG pY nJ qY qU pN) H -> va_D A (aDi cI cC cZ cB cJ xH xB vI uJ rW uQ uP uO wY xO tJ jJ mY pG pD pE eO uS tX uR rY tY oY rJ pX rO rD vX dN bD bJ aI uU gF pL mX oE jE eW eY dU fY gJ jG nU pQ qI sY uG pY nJ qY qU pN) -> va_S A s.heap H locs -> lv_has ls 6 [(0, .ref xH), (1, .int x1), (2, .int x2), (3, .int x3)] -> W p l e aO6 s m args below meth c H locs 0 0 (MQ below (aPS dC dI cI cC cZ cB cJ A xH xB vI uJ rW uQ uP uO wY xO tJ jJ mY pG pD pE eO uS tX uR rY tY oY rJ pX rO rD dN bD bJ aI uU gF pL mX oE jE eW eY dU fY gJ jG nU pQ qI sY uG pY nJ pN post) args s 0 0 A) (F0 m 7 ls []) := by
  intro n
  induction n with
  | zero =>
    intro x1 x2 x3 vX qY qU H locs ls hp
    exact False.elim hp
  | succ n ih =>
    intro x1 x2 x3 vX qY qU H locs ls hp
    exact ks_X5_loadFirsts_7 C0 ih x1 x2 x3 vX qY qU H locs ls hp
end S_X5_loadFirsts
def wp_X5_loadFirsts (post : (Nat -> Int32) -> (Nat -> Int32) -> (Nat -> Int32) -> Prop) (p0 oY : Int32) (rD vX : Nat -> Int32) (dN bD : Int32) (uU gF pL mX oE : Nat -> Int32) (dU pQ : Int32) (qY qU pN : Nat -> Int32) : Prop := ∃ n : Nat, wb_X5_loadFirsts_7 post oY rD dN bD uU gF pL mX oE dU pQ pN n p0 oY 0 vX qY qU
set_option maxHeartbeats 4000000 in
set_option maxRecDepth 100000 in
theorem c_X5_loadFirsts (l : Launch) (dC : Nat -> ClassId) (dI : Nat -> Nat -> Nat) (cI cC cZ cB cJ : ClassId) (xH xB vI uJ rW uQ uP uO wY xO tJ jJ mY pG pD pE eO uS tX uR rY tY sz : Nat) (p0 oY rJ pX rO : Int32) (rD vX : Nat -> Int32) (dN bD bJ aI : Int32) (uU gF pL mX oE : Nat -> Int32) (jE eW eY dU fY gJ jG nU pQ qI sY uG pY nJ : Int32) (qY qU pN : Nat -> Int32) (post : (Nat -> Int32) -> (Nat -> Int32) -> (Nat -> Int32) -> Prop) (hw : wp_X5_loadFirsts post p0 oY rD vX dN bD uU gF pL mX oE dU pQ qY qU pN) : Met l yX5_loadFirsts (gw yX5_loadFirsts aB8 6 none) aO6 (va_Pc [.ref xH, .int p0] (gPre (dC, dI) (tyl cI cC cZ cB cJ) (aDi cI cC cZ cB cJ xH xB vI uJ rW uQ uP uO wY xO tJ jJ mY pG pD pE eO uS tX uR rY tY oY rJ pX rO rD vX dN bD bJ aI uU gF pL mX oE jE eW eY dU fY gJ jG nU pQ qI sY uG pY nJ qY qU pN) sz)) (aPS dC dI cI cC cZ cB cJ (va_A (aDi cI cC cZ cB cJ xH xB vI uJ rW uQ uP uO wY xO tJ jJ mY pG pD pE eO uS tX uR rY tY oY rJ pX rO rD vX dN bD bJ aI uU gF pL mX oE jE eW eY dU fY gJ jG nU pQ qI sY uG pY nJ qY qU pN) sz) xH xB vI uJ rW uQ uP uO wY xO tJ jJ mY pG pD pE eO uS tX uR rY tY oY rJ pX rO rD dN bD bJ aI uU gF pL mX oE jE eW eY dU fY gJ jG nU pQ qI sY uG pY nJ pN post) 0 0 (va_A (aDi cI cC cZ cB cJ xH xB vI uJ rW uQ uP uO wY xO tJ jJ mY pG pD pE eO uS tX uR rY tY oY rJ pX rO rD vX dN bD bJ aI uU gF pL mX oE jE eW eY dU fY gJ jG nU pQ qI sY uG pY nJ qY qU pN) sz) := by
  refine aBJ (own := RX5) (dC, dI) (tyl cI cC cZ cB cJ) (aDi cI cC cZ cB cJ xH xB vI uJ rW uQ uP uO wY xO tJ jJ mY pG pD pE eO uS tX uR rY tY oY rJ pX rO rD vX dN bD bJ aI uU gF pL mX oE jE eW eY dU fY gJ jG nU pQ qI sY uG pY nJ qY qU pN) sz [.ref xH, .int p0] (fun A => aPS dC dI cI cC cZ cB cJ A xH xB vI uJ rW uQ uP uO wY xO tJ jJ mY pG pD pE eO uS tX uR rY tY oY rJ pX rO rD dN bD bJ aI uU gF pL mX oE jE eW eY dU fY gJ jG nU pQ qI sY uG pY nJ pN post) pn_RX5 rfl (lbz rfl) ?_
  intro p e s m args below meth c A H locs ls C0 hP hD hS hl
  have hl : lv_has ls 6 [(0, .ref xH), (1, .int p0)] := hl
  obtain ⟨hx, hb, hr, hml, hown, hts, hlocks, hA, hK, hN, tL, tM, hZL, hTL, hZM, hTM, hZX⟩ := id C0
  have hp := hw
  unfold wp_X5_loadFirsts at hp
  refine lv_aload_n hx hb aMf.1 rfl (lv_at hl 0 rfl) ?_
  refine va_get (D := (dC, dI)) (ci := 5) (v := .int oY) (C := RX5) (T := TX5) (N := 11) hx hb hts i_X5 hown hK hP 0 rfl rfl 7 (lbz rfl) (hts _ q_435) (fun _ h9 => h9) rfl aMf.2.1 ?_
  refine lv_istore_n (lv' := [(2, .int oY), (0, .ref xH), (1, .int p0)]) hx hb aMf.2.2.1 rfl hl (by decide) rfl (fun ls hl => ?_)
  refine lv_iconst (v := 0) hx hb aMf.2.2.2.1 aCi ?_
  refine lv_istore_n (lv' := [(3, .int 0), (2, .int oY), (0, .ref xH), (1, .int p0)]) hx hb aMf.2.2.2.2.1 rfl hl (by decide) rfl (fun ls hl => ?_)
  obtain ⟨n9, hp⟩ := hp
  exact kb_X5_loadFirsts_7 C0 n9 p0 oY 0 vX qY qU H locs ls hp hP hD hS (lv_sub hl [2, 3, 1, 0] rfl)
abbrev aSN (cI cC cZ cB cJ : ClassId) (xH xB vI uJ rW uQ uP uO tJ jJ mY pG pD pE eO : Nat) (oY rJ pX rO : Int32) (vX : Nat -> Int32) (dN bD bJ aI : Int32) : va_W := [(xH, .inr (5, [.ref xB, .ref vI, .ref uJ, .ref rW, .ref uQ, .ref uP, .ref uO, .int oY, .int rJ, .int pX, .int rO])), (uP, .inl (cI, 8, .inl vX)), (vI, .inr (3, [.ref tJ, .ref jJ, .ref mY, .ref pG, .ref pD, .ref pE, .ref eO, .int dN, .int bD, .int bJ, .int aI]))]
abbrev q_X5_loadOf (dC : Nat -> ClassId) (dI : Nat -> Nat -> Nat) (cI cC cZ cB cJ : ClassId) (A : Nat -> Prop) (xH xB vI uJ rW uQ uP uO tJ jJ mY pG pD pE eO : Nat) (oY rJ pX rO : Int32) (vX : Nat -> Int32) (dN bD bJ aI : Int32) (post : Int32 -> Prop) : Array Value -> State -> Outcome -> State -> Prop := va_Qi (fun (r : Int32) (u : Unit) => post r) (fun u t => gB (dC, dI) (tyl cI cC cZ cB cJ) A (aSN cI cC cZ cB cJ xH xB vI uJ rW uQ uP uO tJ jJ mY pG pD pE eO oY rJ pX rO vX dN bD bJ aI) t) A
abbrev rm_X5_loadOf : Room := { frames := 0, cells := 0, slots := 0, locals := 0 }
section S_X5_loadOf
variable {p : Program} {l : Launch} {e : Env} {s : State} {m : MethodId} {args : Array Value} {below : List Frame} {meth : Method} {c : Code} {dC : Nat -> ClassId} {dI : Nat -> Nat -> Nat} {cI cC cZ cB cJ : ClassId} {A : Nat -> Prop} {xH xB vI uJ rW uQ uP uO tJ jJ mY pG pD pE eO : Nat} {oY rJ pX rO : Int32} {vX : Nat -> Int32} {dN bD bJ aI : Int32} {post : Int32 -> Prop}
def ws_X5_loadOf_32 (post : Int32 -> Prop) (K4 : Int32 -> Int32 -> Int32 -> Prop) (vX : Nat -> Int32) (bD x1 x2 x3 : Int32) : Prop := ∀ v_2 : Int32, v_2 = x3 + 1 -> K4 x1 x2 v_2
set_option maxHeartbeats 4000000 in
set_option maxRecDepth 100000 in
theorem ks_X5_loadOf_32 (C0 : gc aKX (some .int) 4 RX5 (dC, dI) (tyl cI cC cZ cB cJ) A p s m args meth c) {K4 : Int32 -> Int32 -> Int32 -> Prop} (hK4 : ∀ (x1 : Int32) (x2 : Int32) (x3 : Int32) (H : Heap) (locs : List Loc) (ls : Array Slot), K4 x1 x2 x3 -> va_P (dC, dI) classes (aSN cI cC cZ cB cJ xH xB vI uJ rW uQ uP uO tJ jJ mY pG pD pE eO oY rJ pX rO vX dN bD bJ aI) H -> va_D A (aSN cI cC cZ cB cJ xH xB vI uJ rW uQ uP uO tJ jJ mY pG pD pE eO oY rJ pX rO vX dN bD bJ aI) -> va_S A s.heap H locs -> lv_has ls 4 [(0, .ref xH), (1, .int x1), (2, .int x2), (3, .int x3)] -> W p l e rm_X5_loadOf s m args below meth c H locs 0 0 (MQ below (q_X5_loadOf dC dI cI cC cZ cB cJ A xH xB vI uJ rW uQ uP uO tJ jJ mY pG pD pE eO oY rJ pX rO vX dN bD bJ aI post) args s 0 0 A) (F0 m 4 ls [])) : ∀ (x1 x2 x3 : Int32) (H : Heap) (locs : List Loc) (ls : Array Slot), (ws_X5_loadOf_32 post K4 vX bD) x1 x2 x3 -> va_P (dC, dI) classes (aSN cI cC cZ cB cJ xH xB vI uJ rW uQ uP uO tJ jJ mY pG pD pE eO oY rJ pX rO vX dN bD bJ aI) H -> va_D A (aSN cI cC cZ cB cJ xH xB vI uJ rW uQ uP uO tJ jJ mY pG pD pE eO oY rJ pX rO vX dN bD bJ aI) -> va_S A s.heap H locs -> lv_has ls 4 [(0, .ref xH), (1, .int x1), (2, .int x2), (3, .int x3)] -> W p l e rm_X5_loadOf s m args below meth c H locs 0 0 (MQ below (q_X5_loadOf dC dI cI cC cZ cB cJ A xH xB vI uJ rW uQ uP uO tJ jJ mY pG pD pE eO oY rJ pX rO vX dN bD bJ aI post) args s 0 0 A) (F0 m 32 ls []) := by
  obtain ⟨hx, hb, hr, hml, hown, hts, hlocks, hA, hK, hN, tL, tM, hZL, hTL, hZM, hTM, hZX⟩ := id C0
  intro x1 x2 x3 H locs ls hp hP hD hS hl
  unfold ws_X5_loadOf_32 at hp
  obtain ⟨v_2, aGO⟩ : ∃ y : Int32, y = x3 + 1 := ⟨_, rfl⟩
  refine lv_iinc (v := v_2) (lv' := [(3, .int v_2), (0, .ref xH), (1, .int x1), (2, .int x2)]) hx hb eX5_loadOf_28.2.2.2.2.1 hl (k := 3) rfl (by rw [aGO]; rfl) (by decide) rfl (fun ls hl => ?_)
  have hp := hp v_2 aGO
  refine lv_goto (tgt := 4) hx hb eX5_loadOf_28.2.2.2.2.2.1 (by decide) ?_
  exact hK4 x1 x2 v_2 H locs ls hp hP hD hS (lv_sub hl [1, 2, 3, 0] rfl)
def ws_X5_loadOf_4 (post : Int32 -> Prop) (next : Int32 -> Int32 -> Int32 -> Prop) (vX : Nat -> Int32) (bD x1 x2 x3 : Int32) : Prop := (bD <= x3 -> post x2) /\ (¬ bD <= x3 -> ∀ v_1 : Int32, v_1 = x1 >>> (x3 &&& 31) -> ((v_1 &&& 1) = 0 -> ws_X5_loadOf_32 post next vX bD x1 x2 x3) /\ (¬ (v_1 &&& 1) = 0 -> vp_in x3 8 /\ (∀ v_3 : Int32, v_3 = x2 + (vX x3.toNatClampNeg) -> ws_X5_loadOf_32 post next vX bD x1 v_3 x3)))
noncomputable def wb_X5_loadOf_4 (post : Int32 -> Prop) (vX : Nat -> Int32) (bD : Int32) : Nat -> Int32 -> Int32 -> Int32 -> Prop := fun n => Nat.rec (motive := fun _ => Int32 -> Int32 -> Int32 -> Prop) (fun _ _ _ => False) (fun _ ih => ws_X5_loadOf_4 post ih vX bD) n
set_option maxHeartbeats 4000000 in
set_option maxRecDepth 100000 in
theorem ks_X5_loadOf_4 (C0 : gc aKX (some .int) 4 RX5 (dC, dI) (tyl cI cC cZ cB cJ) A p s m args meth c) {next : Int32 -> Int32 -> Int32 -> Prop} (hKn : ∀ (x1 : Int32) (x2 : Int32) (x3 : Int32) (H : Heap) (locs : List Loc) (ls : Array Slot), next x1 x2 x3 -> va_P (dC, dI) classes (aSN cI cC cZ cB cJ xH xB vI uJ rW uQ uP uO tJ jJ mY pG pD pE eO oY rJ pX rO vX dN bD bJ aI) H -> va_D A (aSN cI cC cZ cB cJ xH xB vI uJ rW uQ uP uO tJ jJ mY pG pD pE eO oY rJ pX rO vX dN bD bJ aI) -> va_S A s.heap H locs -> lv_has ls 4 [(0, .ref xH), (1, .int x1), (2, .int x2), (3, .int x3)] -> W p l e rm_X5_loadOf s m args below meth c H locs 0 0 (MQ below (q_X5_loadOf dC dI cI cC cZ cB cJ A xH xB vI uJ rW uQ uP uO tJ jJ mY pG pD pE eO oY rJ pX rO vX dN bD bJ aI post) args s 0 0 A) (F0 m 4 ls [])) : ∀ (x1 x2 x3 : Int32) (H : Heap) (locs : List Loc) (ls : Array Slot), (ws_X5_loadOf_4 post next vX bD) x1 x2 x3 -> va_P (dC, dI) classes (aSN cI cC cZ cB cJ xH xB vI uJ rW uQ uP uO tJ jJ mY pG pD pE eO oY rJ pX rO vX dN bD bJ aI) H -> va_D A (aSN cI cC cZ cB cJ xH xB vI uJ rW uQ uP uO tJ jJ mY pG pD pE eO oY rJ pX rO vX dN bD bJ aI) -> va_S A s.heap H locs -> lv_has ls 4 [(0, .ref xH), (1, .int x1), (2, .int x2), (3, .int x3)] -> W p l e rm_X5_loadOf s m args below meth c H locs 0 0 (MQ below (q_X5_loadOf dC dI cI cC cZ cB cJ A xH xB vI uJ rW uQ uP uO tJ jJ mY pG pD pE eO oY rJ pX rO vX dN bD bJ aI post) args s 0 0 A) (F0 m 4 ls []) := by
  obtain ⟨hx, hb, hr, hml, hown, hts, hlocks, hA, hK, hN, tL, tM, hZL, hTL, hZM, hTM, hZX⟩ := id C0
  intro x1 x2 x3 H locs ls hp hP hD hS hl
  unfold ws_X5_loadOf_4 at hp
  refine lv_iload_n hx hb aWe.2.2.2.2.1 rfl (lv_at hl 3 rfl) ?_
  refine lv_aload_n hx hb aWe.2.2.2.2.2.1 rfl (lv_at hl 0 rfl) ?_
  refine va_get (D := (dC, dI)) (ci := 5) (v := .ref vI) (C := RX5) (T := TX5) (N := 11) hx hb hts i_X5 hown hK hP 0 rfl rfl 1 (lbz rfl) (hts _ q_419) (fun _ h9 => h9) rfl aWe.2.2.2.2.2.2.1 ?_
  refine va_get (D := (dC, dI)) (ci := 3) (v := .int bD) (C := RX3) (T := TX3) (N := 11) hx hb hts i_X3 hown hK hP 2 rfl rfl 8 (lbz rfl) (hts _ q_420) (fun _ h9 => h9) rfl aWe.2.2.2.2.2.2.2.1 ?_
  refine lv_icmp_ge (tgt := 38) hx hb aWe.2.2.2.2.2.2.2.2.1 (by decide) (fun hc => ?_) (fun hc => ?_)
  · have hp := hp.1 hc
    refine lv_iload_n hx hb eX5_loadOf_28.2.2.2.2.2.2.1 rfl (lv_at hl 2 rfl) ?_
    exact W.iret (v := x2) hx hb hr (fun t ht hW => ⟨⟨x2, (), rfl, hp, by rw [ht]; exact hP, va_K.moved hW.alike hK, hD⟩, hS.F ht⟩) hS.2.2 eX5_loadOf_28.2.2.2.2.2.2.2
  · have hp := hp.2 hc
    refine lv_iload_n hx hb aWe.2.2.2.2.2.2.2.2.2.1 rfl (lv_at hl 1 rfl) ?_
    refine lv_iload_n hx hb aWe.2.2.2.2.2.2.2.2.2.2.1 rfl (lv_at hl 3 rfl) ?_
    refine lv_ishr hx hb aWe.2.2.2.2.2.2.2.2.2.2.2.1 ?_
    refine lv_topi (fun v_1 aFJ => ?_)
    have hp := hp v_1 aFJ
    refine lv_iconst (v := 1) hx hb aWe.2.2.2.2.2.2.2.2.2.2.2.2.1 aDx ?_
    refine lv_iand hx hb aWe.2.2.2.2.2.2.2.2.2.2.2.2.2.1 ?_
    refine lv_if_eq (tgt := 32) hx hb aWe.2.2.2.2.2.2.2.2.2.2.2.2.2.2.1 (by decide) (fun hc => ?_) (fun hc => ?_)
    · have hp := hp.1 hc
      exact ks_X5_loadOf_32 C0 hKn x1 x2 x3 H locs ls hp hP hD hS (lv_sub hl [0, 1, 2, 3] rfl)
    · have hp := hp.2 hc
      refine lv_iload_n hx hb aWe.2.2.2.2.2.2.2.2.2.2.2.2.2.2.2 rfl (lv_at hl 2 rfl) ?_
      refine lv_aload_n hx hb eX5_loadOf_24.1 rfl (lv_at hl 0 rfl) ?_
      refine va_get (D := (dC, dI)) (ci := 5) (v := .ref uP) (C := RX5) (T := TX5) (N := 11) hx hb hts i_X5 hown hK hP 0 rfl rfl 5 (lbz rfl) (hts _ q_574) (fun _ h9 => h9) rfl eX5_loadOf_24.2 ?_
      refine lv_iload_n hx hb eX5_loadOf_28.1 rfl (lv_at hl 3 rfl) ?_
      have hin := hp.1
      have hp := hp.2
      refine va_iald hx hb hK hP 1 0 rfl rfl hin eX5_loadOf_28.2.1 ?_
      refine lv_iadd hx hb eX5_loadOf_28.2.2.1 ?_
      refine lv_topi (fun v_3 aGW => ?_)
      have hp := hp v_3 aGW
      refine lv_istore_n (lv' := [(2, .int v_3), (0, .ref xH), (1, .int x1), (3, .int x3)]) hx hb eX5_loadOf_28.2.2.2.1 rfl hl (by decide) rfl (fun ls hl => ?_)
      exact ks_X5_loadOf_32 C0 hKn x1 v_3 x3 H locs ls hp hP hD hS (lv_sub hl [1, 2, 0, 3] rfl)
set_option maxHeartbeats 4000000 in
set_option maxRecDepth 100000 in
theorem kb_X5_loadOf_4 (C0 : gc aKX (some .int) 4 RX5 (dC, dI) (tyl cI cC cZ cB cJ) A p s m args meth c) : ∀ (n : Nat), ∀ (x1 x2 x3 : Int32) (H : Heap) (locs : List Loc) (ls : Array Slot), (wb_X5_loadOf_4 post vX bD n) x1 x2 x3 -> va_P (dC, dI) classes (aSN cI cC cZ cB cJ xH xB vI uJ rW uQ uP uO tJ jJ mY pG pD pE eO oY rJ pX rO vX dN bD bJ aI) H -> va_D A (aSN cI cC cZ cB cJ xH xB vI uJ rW uQ uP uO tJ jJ mY pG pD pE eO oY rJ pX rO vX dN bD bJ aI) -> va_S A s.heap H locs -> lv_has ls 4 [(0, .ref xH), (1, .int x1), (2, .int x2), (3, .int x3)] -> W p l e rm_X5_loadOf s m args below meth c H locs 0 0 (MQ below (q_X5_loadOf dC dI cI cC cZ cB cJ A xH xB vI uJ rW uQ uP uO tJ jJ mY pG pD pE eO oY rJ pX rO vX dN bD bJ aI post) args s 0 0 A) (F0 m 4 ls []) := by
  intro n
  induction n with
  | zero =>
    intro x1 x2 x3 H locs ls hp
    exact False.elim hp
  | succ n ih =>
    intro x1 x2 x3 H locs ls hp
    exact ks_X5_loadOf_4 C0 ih x1 x2 x3 H locs ls hp
end S_X5_loadOf
def wp_X5_loadOf (post : Int32 -> Prop) (p0 : Int32) (vX : Nat -> Int32) (bD : Int32) : Prop := ∃ n : Nat, wb_X5_loadOf_4 post vX bD n p0 0 0
set_option maxHeartbeats 4000000 in
set_option maxRecDepth 100000 in
theorem c_X5_loadOf (l : Launch) (dC : Nat -> ClassId) (dI : Nat -> Nat -> Nat) (cI cC cZ cB cJ : ClassId) (xH xB vI uJ rW uQ uP uO tJ jJ mY pG pD pE eO sz : Nat) (p0 oY rJ pX rO : Int32) (vX : Nat -> Int32) (dN bD bJ aI : Int32) (post : Int32 -> Prop) (hw : wp_X5_loadOf post p0 vX bD) : Met l yX5_loadOf (gw yX5_loadOf aKX 4 (some .int)) rm_X5_loadOf (va_Pc [.ref xH, .int p0] (gPre (dC, dI) (tyl cI cC cZ cB cJ) (aSN cI cC cZ cB cJ xH xB vI uJ rW uQ uP uO tJ jJ mY pG pD pE eO oY rJ pX rO vX dN bD bJ aI) sz)) (q_X5_loadOf dC dI cI cC cZ cB cJ (va_A (aSN cI cC cZ cB cJ xH xB vI uJ rW uQ uP uO tJ jJ mY pG pD pE eO oY rJ pX rO vX dN bD bJ aI) sz) xH xB vI uJ rW uQ uP uO tJ jJ mY pG pD pE eO oY rJ pX rO vX dN bD bJ aI post) 0 0 (va_A (aSN cI cC cZ cB cJ xH xB vI uJ rW uQ uP uO tJ jJ mY pG pD pE eO oY rJ pX rO vX dN bD bJ aI) sz) := by
  refine aBJ (own := RX5) (dC, dI) (tyl cI cC cZ cB cJ) (aSN cI cC cZ cB cJ xH xB vI uJ rW uQ uP uO tJ jJ mY pG pD pE eO oY rJ pX rO vX dN bD bJ aI) sz [.ref xH, .int p0] (fun A => q_X5_loadOf dC dI cI cC cZ cB cJ A xH xB vI uJ rW uQ uP uO tJ jJ mY pG pD pE eO oY rJ pX rO vX dN bD bJ aI post) pn_RX5 rfl (lbz rfl) ?_
  intro p e s m args below meth c A H locs ls C0 hP hD hS hl
  have hl : lv_has ls 4 [(0, .ref xH), (1, .int p0)] := hl
  obtain ⟨hx, hb, hr, hml, hown, hts, hlocks, hA, hK, hN, tL, tM, hZL, hTL, hZM, hTM, hZX⟩ := id C0
  have hp := hw
  unfold wp_X5_loadOf at hp
  refine lv_iconst (v := 0) hx hb aWe.1 aCi ?_
  refine lv_istore_n (lv' := [(2, .int 0), (0, .ref xH), (1, .int p0)]) hx hb aWe.2.1 rfl hl (by decide) rfl (fun ls hl => ?_)
  refine lv_iconst (v := 0) hx hb aWe.2.2.1 aCi ?_
  refine lv_istore_n (lv' := [(3, .int 0), (2, .int 0), (0, .ref xH), (1, .int p0)]) hx hb aWe.2.2.2.1 rfl hl (by decide) rfl (fun ls hl => ?_)
  obtain ⟨n9, hp⟩ := hp
  exact kb_X5_loadOf_4 C0 n9 p0 0 0 H locs ls hp hP hD hS (lv_sub hl [2, 3, 1, 0] rfl)
abbrev aOs (cI cC cZ cB cJ : ClassId) (a_x xI xH xB vI wY xX yA xY uD uJ rW uQ uP uO xO tJ jJ mY pG pD pE eO uS tX uR rY tY rG : Nat) (oY rJ pX rO : Int32) (rD vX : Nat -> Int32) (dN bD bJ aI : Int32) (uU gF pL qF mX oE dY : Nat -> Int32) (jE eW eY dU fY gJ jG nU pQ qI sY uG pY nJ : Int32) (qY qU pN : Nat -> Int32) (qB : Int32) (jK : Nat -> Int32) : va_W := [(a_x, .inr (9, [.ref xI, .ref xH, .ref xB, .ref vI, .ref wY, .ref xX, .ref yA, .ref xY, .ref uD])), (xH, .inr (5, [.ref xB, .ref vI, .ref uJ, .ref rW, .ref uQ, .ref uP, .ref uO, .int oY, .int rJ, .int pX, .int rO])), (uJ, .inl (cI, 8, .inl rD)), (uP, .inl (cI, 8, .inl vX)), (xB, .inr (0, [.ref vI, .ref wY, .ref xO])), (vI, .inr (3, [.ref tJ, .ref jJ, .ref mY, .ref pG, .ref pD, .ref pE, .ref eO, .int dN, .int bD, .int bJ, .int aI])), (tJ, .inl (cI, 16, .inl uU)), (jJ, .inl (cI, 16, .inl gF)), (mY, .inl (cI, 16, .inl pL)), (pG, .inl (cI, 16, .inl qF)), (pD, .inl (cI, 8, .inl mX)), (pE, .inl (cI, 8, .inl oE)), (eO, .inl (cI, 5, .inl dY)), (wY, .inr (2, [.int jE, .int eW, .int eY, .int dU, .int fY, .int gJ, .int jG, .int nU])), (xO, .inr (7, [.ref uS, .ref tX, .ref uR, .ref rY, .ref tY, .int pQ, .int qI, .int sY, .int uG, .int pY, .int nJ])), (uS, .inl (cI, 7, .inl qY)), (uR, .inl (cI, 40, .inl qU)), (rY, .inl (cI, 40, .inl pN)), (yA, .inr (6, [.ref rG, .int qB])), (rG, .inl (cI, 16, .inl jK))]
abbrev q_X9_share (dC : Nat -> ClassId) (dI : Nat -> Nat -> Nat) (cI cC cZ cB cJ : ClassId) (A : Nat -> Prop) (a_x xI xH xB vI wY xX yA xY uD uJ rW uQ uP uO xO tJ jJ mY pG pD pE eO uS tX uR rY tY rG : Nat) (rJ pX rO dN bD bJ aI : Int32) (uU gF pL qF mX oE dY : Nat -> Int32) (jE eW eY dU fY gJ jG nU pQ qI sY uG pY nJ : Int32) (pN : Nat -> Int32) (post : Int32 -> Int32 -> (Nat -> Int32) -> (Nat -> Int32) -> (Nat -> Int32) -> (Nat -> Int32) -> Int32 -> (Nat -> Int32) -> Prop) : Array Value -> State -> Outcome -> State -> Prop := va_Qi (fun (r : Int32) (u : Int32 × (Nat -> Int32) × (Nat -> Int32) × (Nat -> Int32) × (Nat -> Int32) × Int32 × (Nat -> Int32)) => post r u.1 u.2.1 u.2.2.1 u.2.2.2.1 u.2.2.2.2.1 u.2.2.2.2.2.1 u.2.2.2.2.2.2) (fun u t => gB (dC, dI) (tyl cI cC cZ cB cJ) A (aOs cI cC cZ cB cJ a_x xI xH xB vI wY xX yA xY uD uJ rW uQ uP uO xO tJ jJ mY pG pD pE eO uS tX uR rY tY rG u.1 rJ pX rO u.2.1 u.2.2.1 dN bD bJ aI uU gF pL qF mX oE dY jE eW eY dU fY gJ jG nU pQ qI sY uG pY nJ u.2.2.2.1 u.2.2.2.2.1 pN u.2.2.2.2.2.1 u.2.2.2.2.2.2) t) A
abbrev rm_X9_share : Room := { frames := 5, cells := 0, slots := 0, locals := 115 }
section S_X9_share
variable {p : Program} {l : Launch} {e : Env} {s : State} {m : MethodId} {args : Array Value} {below : List Frame} {meth : Method} {c : Code} {dC : Nat -> ClassId} {dI : Nat -> Nat -> Nat} {cI cC cZ cB cJ : ClassId} {A : Nat -> Prop} {a_x xI xH xB vI wY xX yA xY uD uJ rW uQ uP uO xO tJ jJ mY pG pD pE eO uS tX uR rY tY rG : Nat} {rJ pX rO dN bD bJ aI : Int32} {uU gF pL qF mX oE dY : Nat -> Int32} {jE eW eY dU fY gJ jG nU pQ qI sY uG pY nJ : Int32} {pN : Nat -> Int32} {post : Int32 -> Int32 -> (Nat -> Int32) -> (Nat -> Int32) -> (Nat -> Int32) -> (Nat -> Int32) -> Int32 -> (Nat -> Int32) -> Prop}
def ws_X9_share_96 (post : Int32 -> Int32 -> (Nat -> Int32) -> (Nat -> Int32) -> (Nat -> Int32) -> (Nat -> Int32) -> Int32 -> (Nat -> Int32) -> Prop) (K45 : Int32 -> Int32 -> Int32 -> Int32 -> Int32 -> Int32 -> (Nat -> Int32) -> (Nat -> Int32) -> (Nat -> Int32) -> (Nat -> Int32) -> Int32 -> (Nat -> Int32) -> Prop) (dN bD : Int32) (uU gF pL qF mX oE dY : Nat -> Int32) (jE eW eY dU gJ jG pQ : Int32) (pN : Nat -> Int32) (x1 x2 x3 x4 x5 oY : Int32) (rD vX qY qU : Nat -> Int32) (qB : Int32) (jK : Nat -> Int32) : Prop := ∀ aEp : Int32, aEp = x5 + 1 -> K45 x1 x2 x3 x4 aEp oY rD vX qY qU qB jK
set_option maxHeartbeats 4000000 in
set_option maxRecDepth 100000 in
theorem ks_X9_share_96 (C0 : gc aD4 (some .int) 8 RX9 (dC, dI) (tyl cI cC cZ cB cJ) A p s m args meth c) {K45 : Int32 -> Int32 -> Int32 -> Int32 -> Int32 -> Int32 -> (Nat -> Int32) -> (Nat -> Int32) -> (Nat -> Int32) -> (Nat -> Int32) -> Int32 -> (Nat -> Int32) -> Prop} (hK45 : ∀ (x1 : Int32) (x2 : Int32) (x3 : Int32) (x4 : Int32) (x5 : Int32) (oY : Int32) (rD : Nat -> Int32) (vX : Nat -> Int32) (qY : Nat -> Int32) (qU : Nat -> Int32) (qB : Int32) (jK : Nat -> Int32) (H : Heap) (locs : List Loc) (ls : Array Slot), K45 x1 x2 x3 x4 x5 oY rD vX qY qU qB jK -> va_P (dC, dI) classes (aOs cI cC cZ cB cJ a_x xI xH xB vI wY xX yA xY uD uJ rW uQ uP uO xO tJ jJ mY pG pD pE eO uS tX uR rY tY rG oY rJ pX rO rD vX dN bD bJ aI uU gF pL qF mX oE dY jE eW eY dU fY gJ jG nU pQ qI sY uG pY nJ qY qU pN qB jK) H -> va_D A (aOs cI cC cZ cB cJ a_x xI xH xB vI wY xX yA xY uD uJ rW uQ uP uO xO tJ jJ mY pG pD pE eO uS tX uR rY tY rG oY rJ pX rO rD vX dN bD bJ aI uU gF pL qF mX oE dY jE eW eY dU fY gJ jG nU pQ qI sY uG pY nJ qY qU pN qB jK) -> va_S A s.heap H locs -> lv_has ls 8 [(0, .ref a_x), (1, .int x1), (2, .int x2), (3, .int x3), (4, .int x4), (5, .int x5)] -> W p l e rm_X9_share s m args below meth c H locs 0 0 (MQ below (q_X9_share dC dI cI cC cZ cB cJ A a_x xI xH xB vI wY xX yA xY uD uJ rW uQ uP uO xO tJ jJ mY pG pD pE eO uS tX uR rY tY rG rJ pX rO dN bD bJ aI uU gF pL qF mX oE dY jE eW eY dU fY gJ jG nU pQ qI sY uG pY nJ pN post) args s 0 0 A) (F0 m 45 ls [])) : ∀ (x1 x2 x3 x4 x5 oY : Int32) (rD vX qY qU : Nat -> Int32) (qB : Int32) (jK : Nat -> Int32) (H : Heap) (locs : List Loc) (ls : Array Slot), (ws_X9_share_96 post K45 dN bD uU gF pL qF mX oE dY jE eW eY dU gJ jG pQ pN) x1 x2 x3 x4 x5 oY rD vX qY qU qB jK -> va_P (dC, dI) classes (aOs cI cC cZ cB cJ a_x xI xH xB vI wY xX yA xY uD uJ rW uQ uP uO xO tJ jJ mY pG pD pE eO uS tX uR rY tY rG oY rJ pX rO rD vX dN bD bJ aI uU gF pL qF mX oE dY jE eW eY dU fY gJ jG nU pQ qI sY uG pY nJ qY qU pN qB jK) H -> va_D A (aOs cI cC cZ cB cJ a_x xI xH xB vI wY xX yA xY uD uJ rW uQ uP uO xO tJ jJ mY pG pD pE eO uS tX uR rY tY rG oY rJ pX rO rD vX dN bD bJ aI uU gF pL qF mX oE dY jE eW eY dU fY gJ jG nU pQ qI sY uG pY nJ qY qU pN qB jK) -> va_S A s.heap H locs -> lv_has ls 8 [(0, .ref a_x), (1, .int x1), (2, .int x2), (3, .int x3), (4, .int x4), (5, .int x5)] -> W p l e rm_X9_share s m args below meth c H locs 0 0 (MQ below (q_X9_share dC dI cI cC cZ cB cJ A a_x xI xH xB vI wY xX yA xY uD uJ rW uQ uP uO xO tJ jJ mY pG pD pE eO uS tX uR rY tY rG rJ pX rO dN bD bJ aI uU gF pL qF mX oE dY jE eW eY dU fY gJ jG nU pQ qI sY uG pY nJ pN post) args s 0 0 A) (F0 m 96 ls []) := by
  obtain ⟨hx, hb, hr, hml, hown, hts, hlocks, hA, hK, hN, tL, tM, hZL, hTL, hZM, hTM, hZX⟩ := id C0
  intro x1 x2 x3 x4 x5 oY rD vX qY qU qB jK H locs ls hp hP hD hS hl
  unfold ws_X9_share_96 at hp
  obtain ⟨aEp, ev_12⟩ : ∃ y : Int32, y = x5 + 1 := ⟨_, rfl⟩
  refine lv_iinc (v := aEp) (lv' := [(5, .int aEp), (0, .ref a_x), (1, .int x1), (2, .int x2), (3, .int x3), (4, .int x4)]) hx hb aW0.2.2.2.2.1 hl (k := 5) rfl (by rw [ev_12]; rfl) (by decide) rfl (fun ls hl => ?_)
  have hp := hp aEp ev_12
  refine lv_goto (tgt := 45) hx hb aW0.2.2.2.2.2.1 (by decide) ?_
  exact hK45 x1 x2 x3 x4 aEp oY rD vX qY qU qB jK H locs ls hp hP hD hS (lv_sub hl [1, 2, 3, 4, 5, 0] rfl)
def ws_X9_share_45 (post : Int32 -> Int32 -> (Nat -> Int32) -> (Nat -> Int32) -> (Nat -> Int32) -> (Nat -> Int32) -> Int32 -> (Nat -> Int32) -> Prop) (next : Int32 -> Int32 -> Int32 -> Int32 -> Int32 -> Int32 -> (Nat -> Int32) -> (Nat -> Int32) -> (Nat -> Int32) -> (Nat -> Int32) -> Int32 -> (Nat -> Int32) -> Prop) (dN bD : Int32) (uU gF pL qF mX oE dY : Nat -> Int32) (jE eW eY dU gJ jG pQ : Int32) (pN : Nat -> Int32) (x1 x2 x3 x4 x5 oY : Int32) (rD vX qY qU : Nat -> Int32) (qB : Int32) (jK : Nat -> Int32) : Prop := (x1 < x5 -> wp_X5_loadOf (fun r_8 => ∀ v_9 : Int32, v_9 = x2 - r_8 -> aPf (fun ro_size_10 ro_numbers_11 => post x4 oY rD vX qY qU ro_size_10 ro_numbers_11) x3 v_9 qB jK) x3 vX bD) /\ (¬ x1 < x5 -> (¬ (x5 &&& (x1 ^^^ (-1))) = 0 -> ws_X9_share_96 post next dN bD uU gF pL qF mX oE dY jE eW eY dU gJ jG pQ pN x1 x2 x3 x4 x5 oY rD vX qY qU qB jK) /\ ((x5 &&& (x1 ^^^ (-1))) = 0 -> wp_X5_loadOf (fun r_13 => ∀ aGC : Int32, aGC = x2 - r_13 -> ∀ aHe : Int32, aHe = (if r_13 < aGC then aGC else r_13) -> (x4 <= aHe -> ws_X9_share_96 post next dN bD uU gF pL qF mX oE dY jE eW eY dU gJ jG pQ pN x1 x2 x3 x4 x5 oY rD vX qY qU qB jK) /\ (¬ x4 <= aHe -> ws_X9_share_96 post next dN bD uU gF pL qF mX oE dY jE eW eY dU gJ jG pQ pN x1 x2 x5 aHe x5 oY rD vX qY qU qB jK)) x5 vX bD))
noncomputable def wb_X9_share_45 (post : Int32 -> Int32 -> (Nat -> Int32) -> (Nat -> Int32) -> (Nat -> Int32) -> (Nat -> Int32) -> Int32 -> (Nat -> Int32) -> Prop) (dN bD : Int32) (uU gF pL qF mX oE dY : Nat -> Int32) (jE eW eY dU gJ jG pQ : Int32) (pN : Nat -> Int32) : Nat -> Int32 -> Int32 -> Int32 -> Int32 -> Int32 -> Int32 -> (Nat -> Int32) -> (Nat -> Int32) -> (Nat -> Int32) -> (Nat -> Int32) -> Int32 -> (Nat -> Int32) -> Prop := fun n => Nat.rec (motive := fun _ => Int32 -> Int32 -> Int32 -> Int32 -> Int32 -> Int32 -> (Nat -> Int32) -> (Nat -> Int32) -> (Nat -> Int32) -> (Nat -> Int32) -> Int32 -> (Nat -> Int32) -> Prop) (fun _ _ _ _ _ _ _ _ _ _ _ _ => False) (fun _ ih => ws_X9_share_45 post ih dN bD uU gF pL qF mX oE dY jE eW eY dU gJ jG pQ pN) n
set_option maxHeartbeats 4000000 in
set_option maxRecDepth 100000 in
theorem ks_X9_share_45 (C0 : gc aD4 (some .int) 8 RX9 (dC, dI) (tyl cI cC cZ cB cJ) A p s m args meth c) {next : Int32 -> Int32 -> Int32 -> Int32 -> Int32 -> Int32 -> (Nat -> Int32) -> (Nat -> Int32) -> (Nat -> Int32) -> (Nat -> Int32) -> Int32 -> (Nat -> Int32) -> Prop} (hKn : ∀ (x1 : Int32) (x2 : Int32) (x3 : Int32) (x4 : Int32) (x5 : Int32) (oY : Int32) (rD : Nat -> Int32) (vX : Nat -> Int32) (qY : Nat -> Int32) (qU : Nat -> Int32) (qB : Int32) (jK : Nat -> Int32) (H : Heap) (locs : List Loc) (ls : Array Slot), next x1 x2 x3 x4 x5 oY rD vX qY qU qB jK -> va_P (dC, dI) classes (aOs cI cC cZ cB cJ a_x xI xH xB vI wY xX yA xY uD uJ rW uQ uP uO xO tJ jJ mY pG pD pE eO uS tX uR rY tY rG oY rJ pX rO rD vX dN bD bJ aI uU gF pL qF mX oE dY jE eW eY dU fY gJ jG nU pQ qI sY uG pY nJ qY qU pN qB jK) H -> va_D A (aOs cI cC cZ cB cJ a_x xI xH xB vI wY xX yA xY uD uJ rW uQ uP uO xO tJ jJ mY pG pD pE eO uS tX uR rY tY rG oY rJ pX rO rD vX dN bD bJ aI uU gF pL qF mX oE dY jE eW eY dU fY gJ jG nU pQ qI sY uG pY nJ qY qU pN qB jK) -> va_S A s.heap H locs -> lv_has ls 8 [(0, .ref a_x), (1, .int x1), (2, .int x2), (3, .int x3), (4, .int x4), (5, .int x5)] -> W p l e rm_X9_share s m args below meth c H locs 0 0 (MQ below (q_X9_share dC dI cI cC cZ cB cJ A a_x xI xH xB vI wY xX yA xY uD uJ rW uQ uP uO xO tJ jJ mY pG pD pE eO uS tX uR rY tY rG rJ pX rO dN bD bJ aI uU gF pL qF mX oE dY jE eW eY dU fY gJ jG nU pQ qI sY uG pY nJ pN post) args s 0 0 A) (F0 m 45 ls [])) : ∀ (x1 x2 x3 x4 x5 oY : Int32) (rD vX qY qU : Nat -> Int32) (qB : Int32) (jK : Nat -> Int32) (H : Heap) (locs : List Loc) (ls : Array Slot), (ws_X9_share_45 post next dN bD uU gF pL qF mX oE dY jE eW eY dU gJ jG pQ pN) x1 x2 x3 x4 x5 oY rD vX qY qU qB jK -> va_P (dC, dI) classes (aOs cI cC cZ cB cJ a_x xI xH xB vI wY xX yA xY uD uJ rW uQ uP uO xO tJ jJ mY pG pD pE eO uS tX uR rY tY rG oY rJ pX rO rD vX dN bD bJ aI uU gF pL qF mX oE dY jE eW eY dU fY gJ jG nU pQ qI sY uG pY nJ qY qU pN qB jK) H -> va_D A (aOs cI cC cZ cB cJ a_x xI xH xB vI wY xX yA xY uD uJ rW uQ uP uO xO tJ jJ mY pG pD pE eO uS tX uR rY tY rG oY rJ pX rO rD vX dN bD bJ aI uU gF pL qF mX oE dY jE eW eY dU fY gJ jG nU pQ qI sY uG pY nJ qY qU pN qB jK) -> va_S A s.heap H locs -> lv_has ls 8 [(0, .ref a_x), (1, .int x1), (2, .int x2), (3, .int x3), (4, .int x4), (5, .int x5)] -> W p l e rm_X9_share s m args below meth c H locs 0 0 (MQ below (q_X9_share dC dI cI cC cZ cB cJ A a_x xI xH xB vI wY xX yA xY uD uJ rW uQ uP uO xO tJ jJ mY pG pD pE eO uS tX uR rY tY rG rJ pX rO dN bD bJ aI uU gF pL qF mX oE dY jE eW eY dU fY gJ jG nU pQ qI sY uG pY nJ pN post) args s 0 0 A) (F0 m 45 ls []) := by
  obtain ⟨hx, hb, hr, hml, hown, hts, hlocks, hA, hK, hN, tL, tM, hZL, hTL, hZM, hTM, hZX⟩ := id C0
  intro x1 x2 x3 x4 x5 oY rD vX qY qU qB jK H locs ls hp hP hD hS hl
  unfold ws_X9_share_45 at hp
  refine lv_iload hx hb aWy.2.2.2.2.2.2.2.2.2.1 (lv_at hl 5 rfl) ?_
  refine lv_iload_n hx hb aWy.2.2.2.2.2.2.2.2.2.2.1 rfl (lv_at hl 1 rfl) ?_
  refine lv_icmp_gt (tgt := 102) hx hb aWy.2.2.2.2.2.2.2.2.2.2.2.1 (by decide) (fun hc => ?_) (fun hc => ?_)
  · have hp := hp.1 hc
    refine lv_aload_n hx hb aW0.2.2.2.2.2.2.1 rfl (lv_at hl 0 rfl) ?_
    refine lv_iload_n hx hb aW0.2.2.2.2.2.2.2.1 rfl (lv_at hl 3 rfl) ?_
    refine lv_iload_n hx hb aW0.2.2.2.2.2.2.2.2.1 rfl (lv_at hl 2 rfl) ?_
    refine lv_aload_n hx hb aW0.2.2.2.2.2.2.2.2.2.1 rfl (lv_at hl 0 rfl) ?_
    refine va_get (D := (dC, dI)) (ci := 9) (v := .ref xH) (C := RX9) (T := TX9) (N := 9) hx hb hts aC3 hown hK hP 0 rfl rfl 1 (lbz rfl) (hts _ aOt) (fun _ h9 => h9) rfl aW0.2.2.2.2.2.2.2.2.2.2.1 ?_
    refine lv_iload_n hx hb aW0.2.2.2.2.2.2.2.2.2.2.2.1 rfl (lv_at hl 3 rfl) ?_
    have hm := mgk (wc := (aSN cI cC cZ cB cJ xH xB vI uJ rW uQ uP uO tJ jJ mY pG pD pE eO oY rJ pX rO vX dN bD bJ aI)) hP mk_176 20 rfl rfl rfl
    refine yW hP hD hS hA (yS mk_176) (aAi mk_176) hm.1 hm.2 (aAk _) (zW _) (zF (As := [.int x3]) (rest := [.int x2, .int x3, .ref a_x]) C0 hP hD hS (yS mk_176) hm.1 (aAl _) 1 5 rfl rfl (c_X5_loadOf l dC dI cI cC cZ cB cJ xH xB vI uJ rW uQ uP uO tJ jJ mY pG pD pE eO H.size x3 oY rJ pX rO vX dN bD bJ aI _ hp) q_579 q_582 q_580 q_581 aRn h_X5_loadOf rfl rfl ⟨lbz rfl, lbz rfl⟩ rfl rfl hl.1 rfl (lv_room (lbz rfl)) aW0.2.2.2.2.2.2.2.2.2.2.2.2.1 ⟨Nat.zero_le _, Nat.zero_le _⟩) (fun r_8 u H locs hp hP hD hS => ?_)
    have hPD := PDm (ws' := (aOs cI cC cZ cB cJ a_x xI xH xB vI wY xX yA xY uD uJ rW uQ uP uO xO tJ jJ mY pG pD pE eO uS tX uR rY tY rG oY rJ pX rO rD vX dN bD bJ aI uU gF pL qF mX oE dY jE eW eY dU fY gJ jG nU pQ qI sY uG pY nJ qY qU pN qB jK)) hP hD 20 rfl rfl rfl
    have hP := hPD.1
    have hD := hPD.2
    refine lv_isub hx hb aW0.2.2.2.2.2.2.2.2.2.2.2.2.2.1 ?_
    refine lv_topi (fun v_9 ev_9 => ?_)
    have hp := hp v_9 ev_9
    have hm := mgk (wc := (aRW cI cC cZ cB cJ a_x xI xH xB vI wY xX yA xY uD rG qB jK)) hP mk_86 20 rfl rfl rfl
    refine aBn hP hD hS hA (yS mk_86) (aAi mk_86) hm.1 hm.2 (aAk _) (zW _) (zF (As := [.int x3, .int v_9]) (rest := []) C0 hP hD hS (yS mk_86) hm.1 (aAl _) 0 9 rfl rfl (c_X9_tell_ l dC dI cI cC cZ cB cJ a_x xI xH xB vI wY xX yA xY uD rG H.size x3 v_9 qB jK _ hp) q_377 q_380 q_378 q_379 aIl h_X9_tell_ rfl rfl ⟨lbz rfl, lbz rfl⟩ rfl rfl hl.1 rfl (lv_room (lbz rfl)) aW0.2.2.2.2.2.2.2.2.2.2.2.2.2.2.1 ⟨Nat.zero_le _, Nat.zero_le _⟩) (fun u H locs hp hP hD hS => ?_)
    obtain ⟨ro_size_10, ro_numbers_11⟩ := u
    have hPD := PDm (ws' := (aOs cI cC cZ cB cJ a_x xI xH xB vI wY xX yA xY uD uJ rW uQ uP uO xO tJ jJ mY pG pD pE eO uS tX uR rY tY rG oY rJ pX rO rD vX dN bD bJ aI uU gF pL qF mX oE dY jE eW eY dU fY gJ jG nU pQ qI sY uG pY nJ qY qU pN ro_size_10 ro_numbers_11)) hP hD 20 rfl rfl rfl
    have hP := hPD.1
    have hD := hPD.2
    refine lv_iload hx hb aW0.2.2.2.2.2.2.2.2.2.2.2.2.2.2.2 (lv_at hl 4 rfl) ?_
    exact W.iret (v := x4) hx hb hr (fun t ht hW => ⟨⟨x4, (oY, rD, vX, qY, qU, ro_size_10, ro_numbers_11), rfl, hp, by rw [ht]; exact hP, va_K.moved hW.alike hK, hD⟩, hS.F ht⟩) hS.2.2 dX9_share_119
  · have hp := hp.2 hc
    refine lv_iload hx hb aWy.2.2.2.2.2.2.2.2.2.2.2.2.1 (lv_at hl 5 rfl) ?_
    refine lv_iload_n hx hb aWy.2.2.2.2.2.2.2.2.2.2.2.2.2.1 rfl (lv_at hl 1 rfl) ?_
    refine lv_iconst (v := (-1)) hx hb aWy.2.2.2.2.2.2.2.2.2.2.2.2.2.2.1 aEJ ?_
    refine lv_ixor hx hb aWy.2.2.2.2.2.2.2.2.2.2.2.2.2.2.2 ?_
    refine lv_iand hx hb aWz.1 ?_
    refine lv_if_ne (tgt := 96) hx hb aWz.2.1 (by decide) (fun hc => ?_) (fun hc => ?_)
    · have hp := hp.1 hc
      exact ks_X9_share_96 C0 hKn x1 x2 x3 x4 x5 oY rD vX qY qU qB jK H locs ls hp hP hD hS (lv_sub hl [0, 1, 2, 3, 4, 5] rfl)
    · have hp := hp.2 hc
      refine lv_aload_n hx hb aWz.2.2.1 rfl (lv_at hl 0 rfl) ?_
      refine va_get (D := (dC, dI)) (ci := 9) (v := .ref xH) (C := RX9) (T := TX9) (N := 9) hx hb hts aC3 hown hK hP 0 rfl rfl 1 (lbz rfl) (hts _ aOt) (fun _ h9 => h9) rfl aWz.2.2.2.1 ?_
      refine lv_iload hx hb aWz.2.2.2.2.1 (lv_at hl 5 rfl) ?_
      have hm := mgk (wc := (aSN cI cC cZ cB cJ xH xB vI uJ rW uQ uP uO tJ jJ mY pG pD pE eO oY rJ pX rO vX dN bD bJ aI)) hP mk_176 20 rfl rfl rfl
      refine yW hP hD hS hA (yS mk_176) (aAi mk_176) hm.1 hm.2 (aAk _) (zW _) (zF (As := [.int x5]) (rest := []) C0 hP hD hS (yS mk_176) hm.1 (aAl _) 1 5 rfl rfl (c_X5_loadOf l dC dI cI cC cZ cB cJ xH xB vI uJ rW uQ uP uO tJ jJ mY pG pD pE eO H.size x5 oY rJ pX rO vX dN bD bJ aI _ hp) q_579 q_582 q_580 q_581 aRn h_X5_loadOf rfl rfl ⟨lbz rfl, lbz rfl⟩ rfl rfl hl.1 rfl (lv_room (lbz rfl)) aWz.2.2.2.2.2.1 ⟨Nat.zero_le _, Nat.zero_le _⟩) (fun r_13 u H locs hp hP hD hS => ?_)
      have hPD := PDm (ws' := (aOs cI cC cZ cB cJ a_x xI xH xB vI wY xX yA xY uD uJ rW uQ uP uO xO tJ jJ mY pG pD pE eO uS tX uR rY tY rG oY rJ pX rO rD vX dN bD bJ aI uU gF pL qF mX oE dY jE eW eY dU fY gJ jG nU pQ qI sY uG pY nJ qY qU pN qB jK)) hP hD 20 rfl rfl rfl
      have hP := hPD.1
      have hD := hPD.2
      refine lv_istore (lv' := [(6, .int r_13), (0, .ref a_x), (1, .int x1), (2, .int x2), (3, .int x3), (4, .int x4), (5, .int x5)]) hx hb aWz.2.2.2.2.2.2.1 hl (by decide) rfl (fun ls hl => ?_)
      refine lv_iload hx hb aWz.2.2.2.2.2.2.2.1 (lv_at hl 0 rfl) ?_
      refine lv_iload_n hx hb aWz.2.2.2.2.2.2.2.2.1 rfl (lv_at hl 3 rfl) ?_
      refine lv_iload hx hb aWz.2.2.2.2.2.2.2.2.2.1 (lv_at hl 0 rfl) ?_
      refine lv_isub hx hb aWz.2.2.2.2.2.2.2.2.2.2.1 ?_
      refine lv_topi (fun aGC ev_14 => ?_)
      have hp := hp aGC ev_14
      refine va_mmax hx hb (by rw [hml]; exact hl.1.symm) hown (hts _ q_583) (hts _ q_134) (hts _ q_16) (hts _ q_135) (lbz rfl) (lbz rfl) (Nat.zero_le _) (Nat.zero_le _) aWz.2.2.2.2.2.2.2.2.2.2.2.1 ?_
      refine lv_topi (fun aHe ev_15 => ?_)
      have hp := hp aHe ev_15
      refine lv_istore (lv' := [(7, .int aHe), (6, .int r_13), (0, .ref a_x), (1, .int x1), (2, .int x2), (3, .int x3), (4, .int x4), (5, .int x5)]) hx hb aWz.2.2.2.2.2.2.2.2.2.2.2.2.1 hl (by decide) rfl (fun ls hl => ?_)
      refine lv_iload hx hb aWz.2.2.2.2.2.2.2.2.2.2.2.2.2.1 (lv_at hl 0 rfl) ?_
      refine lv_iload hx hb aWz.2.2.2.2.2.2.2.2.2.2.2.2.2.2.1 (lv_at hl 6 rfl) ?_
      refine lv_icmp_ge (tgt := 96) hx hb aWz.2.2.2.2.2.2.2.2.2.2.2.2.2.2.2 (by decide) (fun hc => ?_) (fun hc => ?_)
      · have hp := hp.1 hc
        exact ks_X9_share_96 C0 hKn x1 x2 x3 x4 x5 oY rD vX qY qU qB jK H locs ls hp hP hD hS (lv_sub hl [2, 3, 4, 5, 6, 7] rfl)
      · have hp := hp.2 hc
        refine lv_iload hx hb aW0.1 (lv_at hl 7 rfl) ?_
        refine lv_istore_n (lv' := [(3, .int x5), (7, .int aHe), (6, .int r_13), (0, .ref a_x), (1, .int x1), (2, .int x2), (4, .int x4), (5, .int x5)]) hx hb aW0.2.1 rfl hl (by decide) rfl (fun ls hl => ?_)
        refine lv_iload hx hb aW0.2.2.1 (lv_at hl 1 rfl) ?_
        refine lv_istore (lv' := [(4, .int aHe), (3, .int x5), (7, .int aHe), (6, .int r_13), (0, .ref a_x), (1, .int x1), (2, .int x2), (5, .int x5)]) hx hb aW0.2.2.2.1 hl (by decide) rfl (fun ls hl => ?_)
        exact ks_X9_share_96 C0 hKn x1 x2 x5 aHe x5 oY rD vX qY qU qB jK H locs ls hp hP hD hS (lv_sub hl [4, 5, 6, 1, 0, 7] rfl)
set_option maxHeartbeats 4000000 in
set_option maxRecDepth 100000 in
theorem kb_X9_share_45 (C0 : gc aD4 (some .int) 8 RX9 (dC, dI) (tyl cI cC cZ cB cJ) A p s m args meth c) : ∀ (n : Nat), ∀ (x1 x2 x3 x4 x5 oY : Int32) (rD vX qY qU : Nat -> Int32) (qB : Int32) (jK : Nat -> Int32) (H : Heap) (locs : List Loc) (ls : Array Slot), (wb_X9_share_45 post dN bD uU gF pL qF mX oE dY jE eW eY dU gJ jG pQ pN n) x1 x2 x3 x4 x5 oY rD vX qY qU qB jK -> va_P (dC, dI) classes (aOs cI cC cZ cB cJ a_x xI xH xB vI wY xX yA xY uD uJ rW uQ uP uO xO tJ jJ mY pG pD pE eO uS tX uR rY tY rG oY rJ pX rO rD vX dN bD bJ aI uU gF pL qF mX oE dY jE eW eY dU fY gJ jG nU pQ qI sY uG pY nJ qY qU pN qB jK) H -> va_D A (aOs cI cC cZ cB cJ a_x xI xH xB vI wY xX yA xY uD uJ rW uQ uP uO xO tJ jJ mY pG pD pE eO uS tX uR rY tY rG oY rJ pX rO rD vX dN bD bJ aI uU gF pL qF mX oE dY jE eW eY dU fY gJ jG nU pQ qI sY uG pY nJ qY qU pN qB jK) -> va_S A s.heap H locs -> lv_has ls 8 [(0, .ref a_x), (1, .int x1), (2, .int x2), (3, .int x3), (4, .int x4), (5, .int x5)] -> W p l e rm_X9_share s m args below meth c H locs 0 0 (MQ below (q_X9_share dC dI cI cC cZ cB cJ A a_x xI xH xB vI wY xX yA xY uD uJ rW uQ uP uO xO tJ jJ mY pG pD pE eO uS tX uR rY tY rG rJ pX rO dN bD bJ aI uU gF pL qF mX oE dY jE eW eY dU fY gJ jG nU pQ qI sY uG pY nJ pN post) args s 0 0 A) (F0 m 45 ls []) := by
  intro n
  induction n with
  | zero =>
    intro x1 x2 x3 x4 x5 oY rD vX qY qU qB jK H locs ls hp
    exact False.elim hp
  | succ n ih =>
    intro x1 x2 x3 x4 x5 oY rD vX qY qU qB jK H locs ls hp
    exact ks_X9_share_45 C0 ih x1 x2 x3 x4 x5 oY rD vX qY qU qB jK H locs ls hp
end S_X9_share
def wp_X9_share (post : Int32 -> Int32 -> (Nat -> Int32) -> (Nat -> Int32) -> (Nat -> Int32) -> (Nat -> Int32) -> Int32 -> (Nat -> Int32) -> Prop) (p0 oY : Int32) (rD vX : Nat -> Int32) (dN bD : Int32) (uU gF pL qF mX oE dY : Nat -> Int32) (jE eW eY dU gJ jG pQ : Int32) (qY qU pN : Nat -> Int32) (qB : Int32) (jK : Nat -> Int32) : Prop := wp_X3_areStandings (fun r_1 => (¬ r_1 = 0 -> aZL (fun aCw aEE => wp_X5_loadFirsts (fun pl_load_4 ru_given_5 ru_stack_6 => wp_X5_loadOf (fun r_7 => ∃ n : Nat, wb_X9_share_45 post dN bD uU gF pL qF mX oE dY jE eW eY dU gJ jG pQ pN n p0 r_7 0 r_7 1 aCw aEE pl_load_4 ru_given_5 ru_stack_6 qB jK) p0 pl_load_4 bD) p0 aCw aEE vX dN bD uU gF pL mX oE dU pQ qY qU pN) oY rD dN bD uU gF qF mX oE dY jE eW eY gJ jG) /\ (r_1 = 0 -> post (-1) oY rD vX qY qU qB jK)) p0 bD
set_option maxHeartbeats 4000000 in
set_option maxRecDepth 100000 in
theorem c_X9_share (l : Launch) (dC : Nat -> ClassId) (dI : Nat -> Nat -> Nat) (cI cC cZ cB cJ : ClassId) (a_x xI xH xB vI wY xX yA xY uD uJ rW uQ uP uO xO tJ jJ mY pG pD pE eO uS tX uR rY tY rG sz : Nat) (p0 oY rJ pX rO : Int32) (rD vX : Nat -> Int32) (dN bD bJ aI : Int32) (uU gF pL qF mX oE dY : Nat -> Int32) (jE eW eY dU fY gJ jG nU pQ qI sY uG pY nJ : Int32) (qY qU pN : Nat -> Int32) (qB : Int32) (jK : Nat -> Int32) (post : Int32 -> Int32 -> (Nat -> Int32) -> (Nat -> Int32) -> (Nat -> Int32) -> (Nat -> Int32) -> Int32 -> (Nat -> Int32) -> Prop) (hw : wp_X9_share post p0 oY rD vX dN bD uU gF pL qF mX oE dY jE eW eY dU gJ jG pQ qY qU pN qB jK) : Met l yX9_share (gw yX9_share aD4 8 (some .int)) rm_X9_share (va_Pc [.ref a_x, .int p0] (gPre (dC, dI) (tyl cI cC cZ cB cJ) (aOs cI cC cZ cB cJ a_x xI xH xB vI wY xX yA xY uD uJ rW uQ uP uO xO tJ jJ mY pG pD pE eO uS tX uR rY tY rG oY rJ pX rO rD vX dN bD bJ aI uU gF pL qF mX oE dY jE eW eY dU fY gJ jG nU pQ qI sY uG pY nJ qY qU pN qB jK) sz)) (q_X9_share dC dI cI cC cZ cB cJ (va_A (aOs cI cC cZ cB cJ a_x xI xH xB vI wY xX yA xY uD uJ rW uQ uP uO xO tJ jJ mY pG pD pE eO uS tX uR rY tY rG oY rJ pX rO rD vX dN bD bJ aI uU gF pL qF mX oE dY jE eW eY dU fY gJ jG nU pQ qI sY uG pY nJ qY qU pN qB jK) sz) a_x xI xH xB vI wY xX yA xY uD uJ rW uQ uP uO xO tJ jJ mY pG pD pE eO uS tX uR rY tY rG rJ pX rO dN bD bJ aI uU gF pL qF mX oE dY jE eW eY dU fY gJ jG nU pQ qI sY uG pY nJ pN post) 0 0 (va_A (aOs cI cC cZ cB cJ a_x xI xH xB vI wY xX yA xY uD uJ rW uQ uP uO xO tJ jJ mY pG pD pE eO uS tX uR rY tY rG oY rJ pX rO rD vX dN bD bJ aI uU gF pL qF mX oE dY jE eW eY dU fY gJ jG nU pQ qI sY uG pY nJ qY qU pN qB jK) sz) := by
  refine aBJ (own := RX9) (dC, dI) (tyl cI cC cZ cB cJ) (aOs cI cC cZ cB cJ a_x xI xH xB vI wY xX yA xY uD uJ rW uQ uP uO xO tJ jJ mY pG pD pE eO uS tX uR rY tY rG oY rJ pX rO rD vX dN bD bJ aI uU gF pL qF mX oE dY jE eW eY dU fY gJ jG nU pQ qI sY uG pY nJ qY qU pN qB jK) sz [.ref a_x, .int p0] (fun A => q_X9_share dC dI cI cC cZ cB cJ A a_x xI xH xB vI wY xX yA xY uD uJ rW uQ uP uO xO tJ jJ mY pG pD pE eO uS tX uR rY tY rG rJ pX rO dN bD bJ aI uU gF pL qF mX oE dY jE eW eY dU fY gJ jG nU pQ qI sY uG pY nJ pN post) pn_RX9 rfl (lbz rfl) ?_
  intro p e s m args below meth c A H locs ls C0 hP hD hS hl
  have hl : lv_has ls 8 [(0, .ref a_x), (1, .int p0)] := hl
  obtain ⟨hx, hb, hr, hml, hown, hts, hlocks, hA, hK, hN, tL, tM, hZL, hTL, hZM, hTM, hZX⟩ := id C0
  have hp := hw
  unfold wp_X9_share at hp
  refine lv_aload_n hx hb bAs.1 rfl (lv_at hl 0 rfl) ?_
  refine va_get (D := (dC, dI)) (ci := 9) (v := .ref vI) (C := RX9) (T := TX9) (N := 9) hx hb hts aC3 hown hK hP 0 rfl rfl 3 (lbz rfl) (hts _ q_74) (fun _ h9 => h9) rfl bAs.2.1 ?_
  refine lv_iload_n hx hb bAs.2.2.1 rfl (lv_at hl 1 rfl) ?_
  have hm := mgk (wc := (aVM cI cC cZ cB cJ vI tJ jJ mY pG pD pE eO dN bD bJ aI)) hP mk_177 20 rfl rfl rfl
  refine yW hP hD hS hA (yS mk_177) (aAi mk_177) hm.1 hm.2 (aAk _) (zW _) (zF (As := [.int p0]) (rest := []) C0 hP hD hS (yS mk_177) hm.1 (aAl _) 5 3 rfl rfl (c_X3_areStandings l dC dI cI cC cZ cB cJ vI tJ jJ mY pG pD pE eO H.size p0 dN bD bJ aI _ hp) q_483 q_486 q_484 q_485 q_48 h_X3_areStandings rfl rfl ⟨lbz rfl, lbz rfl⟩ rfl rfl hl.1 rfl (lv_room (lbz rfl)) bAs.2.2.2.1 ⟨Nat.zero_le _, Nat.zero_le _⟩) (fun r_1 u H locs hp hP hD hS => ?_)
  have hPD := PDm (ws' := (aOs cI cC cZ cB cJ a_x xI xH xB vI wY xX yA xY uD uJ rW uQ uP uO xO tJ jJ mY pG pD pE eO uS tX uR rY tY rG oY rJ pX rO rD vX dN bD bJ aI uU gF pL qF mX oE dY jE eW eY dU fY gJ jG nU pQ qI sY uG pY nJ qY qU pN qB jK)) hP hD 20 rfl rfl rfl
  have hP := hPD.1
  have hD := hPD.2
  refine lv_if_ne (tgt := 13) hx hb bAs.2.2.2.2.1 (by decide) (fun hc => ?_) (fun hc => ?_)
  · have hp := hp.1 hc
    refine lv_aload_n hx hb bAs.2.2.2.2.2.2.2.1 rfl (lv_at hl 0 rfl) ?_
    refine va_get (D := (dC, dI)) (ci := 9) (v := .ref xH) (C := RX9) (T := TX9) (N := 9) hx hb hts aC3 hown hK hP 0 rfl rfl 1 (lbz rfl) (hts _ aOt) (fun _ h9 => h9) rfl bAs.2.2.2.2.2.2.2.2.1 ?_
    have hm := mgk (wc := (aVN cI cC cZ cB cJ xH xB vI uJ rW uQ uP uO wY xO tJ jJ mY pG pD pE eO oY rJ pX rO rD dN bD bJ aI uU gF qF mX oE dY jE eW eY dU fY gJ jG nU)) hP mk_178 20 rfl rfl rfl
    refine aBn hP hD hS hA (yS mk_178) (aAi mk_178) hm.1 hm.2 (aAk _) (zW _) (zF (As := []) (rest := []) C0 hP hD hS (yS mk_178) hm.1 (aAl _) 1 5 rfl rfl (c_X5_look l dC dI cI cC cZ cB cJ xH xB vI uJ rW uQ uP uO wY xO tJ jJ mY pG pD pE eO H.size oY rJ pX rO rD dN bD bJ aI uU gF qF mX oE dY jE eW eY dU fY gJ jG nU _ hp) q_445 q_448 q_446 q_447 aRn h_X5_look rfl rfl ⟨lbz rfl, lbz rfl⟩ rfl rfl hl.1 rfl (lv_room (lbz rfl)) bAs.2.2.2.2.2.2.2.2.2.1 ⟨Nat.zero_le _, Nat.zero_le _⟩) (fun u H locs hp hP hD hS => ?_)
    obtain ⟨aCw, aEE⟩ := u
    have hPD := PDm (ws' := (aOs cI cC cZ cB cJ a_x xI xH xB vI wY xX yA xY uD uJ rW uQ uP uO xO tJ jJ mY pG pD pE eO uS tX uR rY tY rG aCw rJ pX rO aEE vX dN bD bJ aI uU gF pL qF mX oE dY jE eW eY dU fY gJ jG nU pQ qI sY uG pY nJ qY qU pN qB jK)) hP hD 20 rfl rfl rfl
    have hP := hPD.1
    have hD := hPD.2
    refine lv_aload_n hx hb bAs.2.2.2.2.2.2.2.2.2.2.1 rfl (lv_at hl 0 rfl) ?_
    refine va_get (D := (dC, dI)) (ci := 9) (v := .ref xH) (C := RX9) (T := TX9) (N := 9) hx hb hts aC3 hown hK hP 0 rfl rfl 1 (lbz rfl) (hts _ aOt) (fun _ h9 => h9) rfl bAs.2.2.2.2.2.2.2.2.2.2.2.1 ?_
    refine lv_iload_n hx hb bAs.2.2.2.2.2.2.2.2.2.2.2.2.1 rfl (lv_at hl 1 rfl) ?_
    have hm := mgk (wc := (aDi cI cC cZ cB cJ xH xB vI uJ rW uQ uP uO wY xO tJ jJ mY pG pD pE eO uS tX uR rY tY aCw rJ pX rO aEE vX dN bD bJ aI uU gF pL mX oE jE eW eY dU fY gJ jG nU pQ qI sY uG pY nJ qY qU pN)) hP mk_179 20 rfl rfl rfl
    refine aBn hP hD hS hA (yS mk_179) (aAi mk_179) hm.1 hm.2 (aAk _) (zW _) (zF (As := [.int p0]) (rest := []) C0 hP hD hS (yS mk_179) hm.1 (aAl _) 1 5 rfl rfl (c_X5_loadFirsts l dC dI cI cC cZ cB cJ xH xB vI uJ rW uQ uP uO wY xO tJ jJ mY pG pD pE eO uS tX uR rY tY H.size p0 aCw rJ pX rO aEE vX dN bD bJ aI uU gF pL mX oE jE eW eY dU fY gJ jG nU pQ qI sY uG pY nJ qY qU pN _ hp) q_575 q_578 q_576 q_577 aRn h_X5_loadFirsts rfl rfl ⟨lbz rfl, lbz rfl⟩ rfl rfl hl.1 rfl (lv_room (lbz rfl)) bAs.2.2.2.2.2.2.2.2.2.2.2.2.2.1 ⟨Nat.zero_le _, Nat.zero_le _⟩) (fun u H locs hp hP hD hS => ?_)
    obtain ⟨pl_load_4, ru_given_5, ru_stack_6⟩ := u
    have hPD := PDm (ws' := (aOs cI cC cZ cB cJ a_x xI xH xB vI wY xX yA xY uD uJ rW uQ uP uO xO tJ jJ mY pG pD pE eO uS tX uR rY tY rG aCw rJ pX rO aEE pl_load_4 dN bD bJ aI uU gF pL qF mX oE dY jE eW eY dU fY gJ jG nU pQ qI sY uG pY nJ ru_given_5 ru_stack_6 pN qB jK)) hP hD 20 rfl rfl rfl
    have hP := hPD.1
    have hD := hPD.2
    refine lv_aload_n hx hb bAs.2.2.2.2.2.2.2.2.2.2.2.2.2.2.1 rfl (lv_at hl 0 rfl) ?_
    refine va_get (D := (dC, dI)) (ci := 9) (v := .ref xH) (C := RX9) (T := TX9) (N := 9) hx hb hts aC3 hown hK hP 0 rfl rfl 1 (lbz rfl) (hts _ aOt) (fun _ h9 => h9) rfl bAs.2.2.2.2.2.2.2.2.2.2.2.2.2.2.2 ?_
    refine lv_iload_n hx hb aWy.1 rfl (lv_at hl 1 rfl) ?_
    have hm := mgk (wc := (aSN cI cC cZ cB cJ xH xB vI uJ rW uQ uP uO tJ jJ mY pG pD pE eO aCw rJ pX rO pl_load_4 dN bD bJ aI)) hP mk_176 20 rfl rfl rfl
    refine yW hP hD hS hA (yS mk_176) (aAi mk_176) hm.1 hm.2 (aAk _) (zW _) (zF (As := [.int p0]) (rest := []) C0 hP hD hS (yS mk_176) hm.1 (aAl _) 1 5 rfl rfl (c_X5_loadOf l dC dI cI cC cZ cB cJ xH xB vI uJ rW uQ uP uO tJ jJ mY pG pD pE eO H.size p0 aCw rJ pX rO pl_load_4 dN bD bJ aI _ hp) q_579 q_582 q_580 q_581 aRn h_X5_loadOf rfl rfl ⟨lbz rfl, lbz rfl⟩ rfl rfl hl.1 rfl (lv_room (lbz rfl)) aWy.2.1 ⟨Nat.zero_le _, Nat.zero_le _⟩) (fun r_7 u H locs hp hP hD hS => ?_)
    have hPD := PDm (ws' := (aOs cI cC cZ cB cJ a_x xI xH xB vI wY xX yA xY uD uJ rW uQ uP uO xO tJ jJ mY pG pD pE eO uS tX uR rY tY rG aCw rJ pX rO aEE pl_load_4 dN bD bJ aI uU gF pL qF mX oE dY jE eW eY dU fY gJ jG nU pQ qI sY uG pY nJ ru_given_5 ru_stack_6 pN qB jK)) hP hD 20 rfl rfl rfl
    have hP := hPD.1
    have hD := hPD.2
    refine lv_istore_n (lv' := [(2, .int r_7), (0, .ref a_x), (1, .int p0)]) hx hb aWy.2.2.1 rfl hl (by decide) rfl (fun ls hl => ?_)
    refine lv_iconst (v := 0) hx hb aWy.2.2.2.1 aCi ?_
    refine lv_istore_n (lv' := [(3, .int 0), (2, .int r_7), (0, .ref a_x), (1, .int p0)]) hx hb aWy.2.2.2.2.1 rfl hl (by decide) rfl (fun ls hl => ?_)
    refine lv_iload_n hx hb aWy.2.2.2.2.2.1 rfl (lv_at hl 1 rfl) ?_
    refine lv_istore (lv' := [(4, .int r_7), (3, .int 0), (2, .int r_7), (0, .ref a_x), (1, .int p0)]) hx hb aWy.2.2.2.2.2.2.1 hl (by decide) rfl (fun ls hl => ?_)
    refine lv_iconst (v := 1) hx hb aWy.2.2.2.2.2.2.2.1 aDx ?_
    refine lv_istore (lv' := [(5, .int 1), (4, .int r_7), (3, .int 0), (2, .int r_7), (0, .ref a_x), (1, .int p0)]) hx hb aWy.2.2.2.2.2.2.2.2.1 hl (by decide) rfl (fun ls hl => ?_)
    obtain ⟨n9, hp⟩ := hp
    exact kb_X9_share_45 C0 n9 p0 r_7 0 r_7 1 aCw aEE pl_load_4 ru_given_5 ru_stack_6 qB jK H locs ls hp hP hD hS (lv_sub hl [4, 5, 3, 2, 1, 0] rfl)
  · have hp := hp.2 hc
    refine lv_iconst (v := (-1)) hx hb bAs.2.2.2.2.2.1 aEJ ?_
    exact W.iret (v := (-1)) hx hb hr (fun t ht hW => ⟨⟨(-1), (oY, rD, vX, qY, qU, qB, jK), rfl, hp, by rw [ht]; exact hP, va_K.moved hW.alike hK, hD⟩, hS.F ht⟩) hS.2.2 bAs.2.2.2.2.2.2.1
abbrev bCF (cI cC cZ cB cJ : ClassId) (xB vI wY xO tJ jJ mY pG pD pE eO : Nat) (dN bD bJ aI : Int32) (qF : Nat -> Int32) (jE eW eY dU fY gJ jG nU : Int32) : va_W := [(xB, .inr (0, [.ref vI, .ref wY, .ref xO])), (vI, .inr (3, [.ref tJ, .ref jJ, .ref mY, .ref pG, .ref pD, .ref pE, .ref eO, .int dN, .int bD, .int bJ, .int aI])), (pG, .inl (cI, 16, .inl qF)), (wY, .inr (2, [.int jE, .int eW, .int eY, .int dU, .int fY, .int gJ, .int jG, .int nU]))]
abbrev q_X0_ripeFirst (dC : Nat -> ClassId) (dI : Nat -> Nat -> Nat) (cI cC cZ cB cJ : ClassId) (A : Nat -> Prop) (xB vI wY xO tJ jJ mY pG pD pE eO : Nat) (dN bD bJ aI : Int32) (qF : Nat -> Int32) (jE eW eY dU fY gJ jG nU : Int32) (post : Int32 -> Prop) : Array Value -> State -> Outcome -> State -> Prop := va_Qi (fun (r : Int32) (u : Unit) => post r) (fun u t => gB (dC, dI) (tyl cI cC cZ cB cJ) A (bCF cI cC cZ cB cJ xB vI wY xO tJ jJ mY pG pD pE eO dN bD bJ aI qF jE eW eY dU fY gJ jG nU) t) A
abbrev rm_X0_ripeFirst : Room := { frames := 2, cells := 0, slots := 0, locals := 40 }
def wp_X0_ripeFirst (post : Int32 -> Prop) (p0 dN : Int32) (qF : Nat -> Int32) (jE eW eY jG : Int32) : Prop := aOu (fun r_1 => aZj (fun r_2 => ∀ v_3 : Int32, v_3 = r_1 &&& r_2 -> (p0 <= jG -> post v_3) /\ (¬ p0 <= jG -> ∀ v_4 : Int32, v_4 = p0 - 1 -> aZj (fun r_5 => ∀ v_6 : Int32, v_6 = v_3 &&& (r_5 ^^^ (-1)) -> post v_6) v_4 dN qF)) p0 dN qF) dN jE eW eY
set_option maxHeartbeats 4000000 in
set_option maxRecDepth 100000 in
theorem c_X0_ripeFirst (l : Launch) (dC : Nat -> ClassId) (dI : Nat -> Nat -> Nat) (cI cC cZ cB cJ : ClassId) (xB vI wY xO tJ jJ mY pG pD pE eO sz : Nat) (p0 dN bD bJ aI : Int32) (qF : Nat -> Int32) (jE eW eY dU fY gJ jG nU : Int32) (post : Int32 -> Prop) (hw : wp_X0_ripeFirst post p0 dN qF jE eW eY jG) : Met l yX0_ripeFirst (gw yX0_ripeFirst aHu 3 (some .int)) rm_X0_ripeFirst (va_Pc [.ref xB, .int p0] (gPre (dC, dI) (tyl cI cC cZ cB cJ) (bCF cI cC cZ cB cJ xB vI wY xO tJ jJ mY pG pD pE eO dN bD bJ aI qF jE eW eY dU fY gJ jG nU) sz)) (q_X0_ripeFirst dC dI cI cC cZ cB cJ (va_A (bCF cI cC cZ cB cJ xB vI wY xO tJ jJ mY pG pD pE eO dN bD bJ aI qF jE eW eY dU fY gJ jG nU) sz) xB vI wY xO tJ jJ mY pG pD pE eO dN bD bJ aI qF jE eW eY dU fY gJ jG nU post) 0 0 (va_A (bCF cI cC cZ cB cJ xB vI wY xO tJ jJ mY pG pD pE eO dN bD bJ aI qF jE eW eY dU fY gJ jG nU) sz) := by
  refine aBJ (own := RX0) (dC, dI) (tyl cI cC cZ cB cJ) (bCF cI cC cZ cB cJ xB vI wY xO tJ jJ mY pG pD pE eO dN bD bJ aI qF jE eW eY dU fY gJ jG nU) sz [.ref xB, .int p0] (fun A => q_X0_ripeFirst dC dI cI cC cZ cB cJ A xB vI wY xO tJ jJ mY pG pD pE eO dN bD bJ aI qF jE eW eY dU fY gJ jG nU post) pn_RX0 rfl (lbz rfl) ?_
  intro p e s m args below meth c A H locs ls C0 hP hD hS hl
  have hl : lv_has ls 3 [(0, .ref xB), (1, .int p0)] := hl
  obtain ⟨hx, hb, hr, hml, hown, hts, hlocks, hA, hK, hN, tL, tM, hZL, hTL, hZM, hTM, hZX⟩ := id C0
  have hp := hw
  unfold wp_X0_ripeFirst at hp
  refine lv_aload_n hx hb aNb.1 rfl (lv_at hl 0 rfl) ?_
  have hm := mgk (wc := (aOf cI cC cZ cB cJ xB vI wY xO tJ jJ mY pG pD pE eO dN bD bJ aI jE eW eY dU fY gJ jG nU)) hP mk_180 4 rfl rfl rfl
  refine yW hP hD hS hA (yS mk_180) (aAi mk_180) hm.1 hm.2 (aAk _) (zW _) (zF (As := []) (rest := []) C0 hP hD hS (yS mk_180) hm.1 (aAl _) 0 0 rfl rfl (c_X0_hanging l dC dI cI cC cZ cB cJ xB vI wY xO tJ jJ mY pG pD pE eO H.size dN bD bJ aI jE eW eY dU fY gJ jG nU _ hp) q_186 q_309 q_188 q_189 q_187 h_X0_hanging rfl rfl ⟨lbz rfl, lbz rfl⟩ rfl rfl hl.1 rfl (lv_room (lbz rfl)) aNb.2.1 ⟨Nat.zero_le _, Nat.zero_le _⟩) (fun r_1 u H locs hp hP hD hS => ?_)
  have hPD := PDm (ws' := (bCF cI cC cZ cB cJ xB vI wY xO tJ jJ mY pG pD pE eO dN bD bJ aI qF jE eW eY dU fY gJ jG nU)) hP hD 4 rfl rfl rfl
  have hP := hPD.1
  have hD := hPD.2
  refine lv_aload_n hx hb aNb.2.2.1 rfl (lv_at hl 0 rfl) ?_
  refine va_get (D := (dC, dI)) (ci := 0) (v := .ref vI) (C := RX0) (T := TX0) (N := 3) hx hb hts i_X0 hown hK hP 0 rfl rfl 0 (lbz rfl) (hts _ q_156) (fun _ h9 => h9) rfl aNb.2.2.2.1 ?_
  refine lv_iload_n hx hb aNb.2.2.2.2.1 rfl (lv_at hl 1 rfl) ?_
  have hm := mgk (wc := (aLw cI cC cZ cB cJ vI tJ jJ mY pG pD pE eO dN bD bJ aI qF)) hP mk_49 4 rfl rfl rfl
  refine yW hP hD hS hA (yS mk_49) (aAi mk_49) hm.1 hm.2 (aAk _) (zW _) (zF (As := [.int p0]) (rest := [.int r_1]) C0 hP hD hS (yS mk_49) hm.1 (aAl _) 1 3 rfl rfl (c_X3_ripeBy l dC dI cI cC cZ cB cJ vI tJ jJ mY pG pD pE eO H.size p0 dN bD bJ aI qF _ hp) q_343 q_346 q_344 q_345 q_48 h_X3_ripeBy rfl rfl ⟨lbz rfl, lbz rfl⟩ rfl rfl hl.1 rfl (lv_room (lbz rfl)) aNb.2.2.2.2.2.1 ⟨Nat.zero_le _, Nat.zero_le _⟩) (fun r_2 u H locs hp hP hD hS => ?_)
  have hPD := PDm (ws' := (bCF cI cC cZ cB cJ xB vI wY xO tJ jJ mY pG pD pE eO dN bD bJ aI qF jE eW eY dU fY gJ jG nU)) hP hD 4 rfl rfl rfl
  have hP := hPD.1
  have hD := hPD.2
  refine lv_iand hx hb aNb.2.2.2.2.2.2.1 ?_
  refine lv_topi (fun v_3 aGW => ?_)
  have hp := hp v_3 aGW
  refine lv_istore_n (lv' := [(2, .int v_3), (0, .ref xB), (1, .int p0)]) hx hb aNb.2.2.2.2.2.2.2.1 rfl hl (by decide) rfl (fun ls hl => ?_)
  refine lv_iload_n hx hb aNb.2.2.2.2.2.2.2.2.1 rfl (lv_at hl 2 rfl) ?_
  refine lv_aload_n hx hb aNb.2.2.2.2.2.2.2.2.2.1 rfl (lv_at hl 1 rfl) ?_
  refine va_get (D := (dC, dI)) (ci := 0) (v := .ref wY) (C := RX0) (T := TX0) (N := 3) hx hb hts i_X0 hown hK hP 0 rfl rfl 1 (lbz rfl) (hts _ q_161) (fun _ h9 => h9) rfl aNb.2.2.2.2.2.2.2.2.2.2.1 ?_
  refine va_get (D := (dC, dI)) (ci := 2) (v := .int jG) (C := RX2) (T := TX2) (N := 8) hx hb hts i_X2 hown hK hP 3 rfl rfl 6 (lbz rfl) (hts _ q_311) (fun _ h9 => h9) rfl aNb.2.2.2.2.2.2.2.2.2.2.2.1 ?_
  refine lv_icmp_le (tgt := 42) hx hb aNb.2.2.2.2.2.2.2.2.2.2.2.2.1 (by decide) (fun hc => ?_) (fun hc => ?_)
  · have hp := hp.1 hc
    refine lv_iload_n hx hb aXZ.2.2.2.2.2.2.2.2.1 rfl (lv_at hl 0 rfl) ?_
    exact W.iret (v := v_3) hx hb hr (fun t ht hW => ⟨⟨v_3, (), rfl, hp, by rw [ht]; exact hP, va_K.moved hW.alike hK, hD⟩, hS.F ht⟩) hS.2.2 aXZ.2.2.2.2.2.2.2.2.2
  · have hp := hp.2 hc
    refine lv_iload_n hx hb aNb.2.2.2.2.2.2.2.2.2.2.2.2.2.1 rfl (lv_at hl 0 rfl) ?_
    refine lv_aload_n hx hb aNb.2.2.2.2.2.2.2.2.2.2.2.2.2.2.1 rfl (lv_at hl 1 rfl) ?_
    refine va_get (D := (dC, dI)) (ci := 0) (v := .ref vI) (C := RX0) (T := TX0) (N := 3) hx hb hts i_X0 hown hK hP 0 rfl rfl 0 (lbz rfl) (hts _ q_156) (fun _ h9 => h9) rfl aNb.2.2.2.2.2.2.2.2.2.2.2.2.2.2.2 ?_
    refine lv_iload_n hx hb aXZ.1 rfl (lv_at hl 2 rfl) ?_
    refine lv_iconst (v := 1) hx hb aXZ.2.1 aDx ?_
    refine lv_isub hx hb aXZ.2.2.1 ?_
    refine lv_topi (fun v_4 aHM => ?_)
    have hp := hp v_4 aHM
    have hm := mgk (wc := (aLw cI cC cZ cB cJ vI tJ jJ mY pG pD pE eO dN bD bJ aI qF)) hP mk_49 4 rfl rfl rfl
    refine yW hP hD hS hA (yS mk_49) (aAi mk_49) hm.1 hm.2 (aAk _) (zW _) (zF (As := [.int v_4]) (rest := [.int v_3]) C0 hP hD hS (yS mk_49) hm.1 (aAl _) 1 3 rfl rfl (c_X3_ripeBy l dC dI cI cC cZ cB cJ vI tJ jJ mY pG pD pE eO H.size v_4 dN bD bJ aI qF _ hp) q_343 q_346 q_344 q_345 q_48 h_X3_ripeBy rfl rfl ⟨lbz rfl, lbz rfl⟩ rfl rfl hl.1 rfl (lv_room (lbz rfl)) aXZ.2.2.2.1 ⟨Nat.zero_le _, Nat.zero_le _⟩) (fun r_5 u H locs hp hP hD hS => ?_)
    have hPD := PDm (ws' := (bCF cI cC cZ cB cJ xB vI wY xO tJ jJ mY pG pD pE eO dN bD bJ aI qF jE eW eY dU fY gJ jG nU)) hP hD 4 rfl rfl rfl
    have hP := hPD.1
    have hD := hPD.2
    refine lv_iconst (v := (-1)) hx hb aXZ.2.2.2.2.1 aEJ ?_
    refine lv_ixor hx hb aXZ.2.2.2.2.2.1 ?_
    refine lv_iand hx hb aXZ.2.2.2.2.2.2.1 ?_
    refine lv_topi (fun v_6 ev_6 => ?_)
    have hp := hp v_6 ev_6
    refine lv_goto (tgt := 43) hx hb aXZ.2.2.2.2.2.2.2.1 (by decide) ?_
    exact W.iret (v := v_6) hx hb hr (fun t ht hW => ⟨⟨v_6, (), rfl, hp, by rw [ht]; exact hP, va_K.moved hW.alike hK, hD⟩, hS.F ht⟩) hS.2.2 aXZ.2.2.2.2.2.2.2.2.2
abbrev aLy (cI cC cZ cB cJ : ClassId) (a_x xI xH xB vI wY xX yA xY uD uJ rW uQ uP uO xO tJ jJ mY pG pD pE eO rG : Nat) (oY rJ pX rO : Int32) (rD : Nat -> Int32) (dN bD bJ aI : Int32) (uU gF qF mX oE dY : Nat -> Int32) (jE eW eY dU fY gJ jG nU qB : Int32) (jK : Nat -> Int32) : va_W := [(a_x, .inr (9, [.ref xI, .ref xH, .ref xB, .ref vI, .ref wY, .ref xX, .ref yA, .ref xY, .ref uD])), (xH, .inr (5, [.ref xB, .ref vI, .ref uJ, .ref rW, .ref uQ, .ref uP, .ref uO, .int oY, .int rJ, .int pX, .int rO])), (uJ, .inl (cI, 8, .inl rD)), (xB, .inr (0, [.ref vI, .ref wY, .ref xO])), (vI, .inr (3, [.ref tJ, .ref jJ, .ref mY, .ref pG, .ref pD, .ref pE, .ref eO, .int dN, .int bD, .int bJ, .int aI])), (tJ, .inl (cI, 16, .inl uU)), (jJ, .inl (cI, 16, .inl gF)), (pG, .inl (cI, 16, .inl qF)), (pD, .inl (cI, 8, .inl mX)), (pE, .inl (cI, 8, .inl oE)), (eO, .inl (cI, 5, .inl dY)), (wY, .inr (2, [.int jE, .int eW, .int eY, .int dU, .int fY, .int gJ, .int jG, .int nU])), (yA, .inr (6, [.ref rG, .int qB])), (rG, .inl (cI, 16, .inl jK))]
abbrev q_X9_ripens (dC : Nat -> ClassId) (dI : Nat -> Nat -> Nat) (cI cC cZ cB cJ : ClassId) (A : Nat -> Prop) (a_x xI xH xB vI wY xX yA xY uD uJ rW uQ uP uO xO tJ jJ mY pG pD pE eO rG : Nat) (rJ pX rO dN bD bJ aI : Int32) (uU gF qF mX oE dY : Nat -> Int32) (jE eW eY dU fY gJ jG nU : Int32) (post : Int32 -> Int32 -> (Nat -> Int32) -> Int32 -> (Nat -> Int32) -> Prop) : Array Value -> State -> Outcome -> State -> Prop := va_Qi (fun (r : Int32) (u : Int32 × (Nat -> Int32) × Int32 × (Nat -> Int32)) => post r u.1 u.2.1 u.2.2.1 u.2.2.2) (fun u t => gB (dC, dI) (tyl cI cC cZ cB cJ) A (aLy cI cC cZ cB cJ a_x xI xH xB vI wY xX yA xY uD uJ rW uQ uP uO xO tJ jJ mY pG pD pE eO rG u.1 rJ pX rO u.2.1 dN bD bJ aI uU gF qF mX oE dY jE eW eY dU fY gJ jG nU u.2.2.1 u.2.2.2) t) A
abbrev rm_X9_ripens : Room := { frames := 4, cells := 0, slots := 0, locals := 95 }
section S_X9_ripens
variable {p : Program} {l : Launch} {e : Env} {s : State} {m : MethodId} {args : Array Value} {below : List Frame} {meth : Method} {c : Code} {dC : Nat -> ClassId} {dI : Nat -> Nat -> Nat} {cI cC cZ cB cJ : ClassId} {A : Nat -> Prop} {a_x xI xH xB vI wY xX yA xY uD uJ rW uQ uP uO xO tJ jJ mY pG pD pE eO rG : Nat} {rJ pX rO dN bD bJ aI : Int32} {uU gF qF mX oE dY : Nat -> Int32} {jE eW eY dU fY gJ jG nU : Int32} {post : Int32 -> Int32 -> (Nat -> Int32) -> Int32 -> (Nat -> Int32) -> Prop}
def ws_X9_ripens_48 (post : Int32 -> Int32 -> (Nat -> Int32) -> Int32 -> (Nat -> Int32) -> Prop) (K18 : Int32 -> Int32 -> Int32 -> Int32 -> (Nat -> Int32) -> Int32 -> (Nat -> Int32) -> Prop) (dN bD : Int32) (uU gF qF mX oE dY : Nat -> Int32) (jE eW eY gJ jG x1 x2 x3 oY : Int32) (rD : Nat -> Int32) (qB : Int32) (jK : Nat -> Int32) : Prop := ∀ aEr : Int32, aEr = x3 + 1 -> K18 x1 x2 aEr oY rD qB jK
set_option maxHeartbeats 4000000 in
set_option maxRecDepth 100000 in
theorem ks_X9_ripens_48 (C0 : gc aEz (some .int) 5 RX9 (dC, dI) (tyl cI cC cZ cB cJ) A p s m args meth c) {K18 : Int32 -> Int32 -> Int32 -> Int32 -> (Nat -> Int32) -> Int32 -> (Nat -> Int32) -> Prop} (hK18 : ∀ (x1 : Int32) (x2 : Int32) (x3 : Int32) (oY : Int32) (rD : Nat -> Int32) (qB : Int32) (jK : Nat -> Int32) (H : Heap) (locs : List Loc) (ls : Array Slot), K18 x1 x2 x3 oY rD qB jK -> va_P (dC, dI) classes (aLy cI cC cZ cB cJ a_x xI xH xB vI wY xX yA xY uD uJ rW uQ uP uO xO tJ jJ mY pG pD pE eO rG oY rJ pX rO rD dN bD bJ aI uU gF qF mX oE dY jE eW eY dU fY gJ jG nU qB jK) H -> va_D A (aLy cI cC cZ cB cJ a_x xI xH xB vI wY xX yA xY uD uJ rW uQ uP uO xO tJ jJ mY pG pD pE eO rG oY rJ pX rO rD dN bD bJ aI uU gF qF mX oE dY jE eW eY dU fY gJ jG nU qB jK) -> va_S A s.heap H locs -> lv_has ls 5 [(0, .ref a_x), (1, .int x1), (2, .int x2), (3, .int x3)] -> W p l e rm_X9_ripens s m args below meth c H locs 0 0 (MQ below (q_X9_ripens dC dI cI cC cZ cB cJ A a_x xI xH xB vI wY xX yA xY uD uJ rW uQ uP uO xO tJ jJ mY pG pD pE eO rG rJ pX rO dN bD bJ aI uU gF qF mX oE dY jE eW eY dU fY gJ jG nU post) args s 0 0 A) (F0 m 18 ls [])) : ∀ (x1 x2 x3 oY : Int32) (rD : Nat -> Int32) (qB : Int32) (jK : Nat -> Int32) (H : Heap) (locs : List Loc) (ls : Array Slot), (ws_X9_ripens_48 post K18 dN bD uU gF qF mX oE dY jE eW eY gJ jG) x1 x2 x3 oY rD qB jK -> va_P (dC, dI) classes (aLy cI cC cZ cB cJ a_x xI xH xB vI wY xX yA xY uD uJ rW uQ uP uO xO tJ jJ mY pG pD pE eO rG oY rJ pX rO rD dN bD bJ aI uU gF qF mX oE dY jE eW eY dU fY gJ jG nU qB jK) H -> va_D A (aLy cI cC cZ cB cJ a_x xI xH xB vI wY xX yA xY uD uJ rW uQ uP uO xO tJ jJ mY pG pD pE eO rG oY rJ pX rO rD dN bD bJ aI uU gF qF mX oE dY jE eW eY dU fY gJ jG nU qB jK) -> va_S A s.heap H locs -> lv_has ls 5 [(0, .ref a_x), (1, .int x1), (2, .int x2), (3, .int x3)] -> W p l e rm_X9_ripens s m args below meth c H locs 0 0 (MQ below (q_X9_ripens dC dI cI cC cZ cB cJ A a_x xI xH xB vI wY xX yA xY uD uJ rW uQ uP uO xO tJ jJ mY pG pD pE eO rG rJ pX rO dN bD bJ aI uU gF qF mX oE dY jE eW eY dU fY gJ jG nU post) args s 0 0 A) (F0 m 48 ls []) := by
  obtain ⟨hx, hb, hr, hml, hown, hts, hlocks, hA, hK, hN, tL, tM, hZL, hTL, hZM, hTM, hZX⟩ := id C0
  intro x1 x2 x3 oY rD qB jK H locs ls hp hP hD hS hl
  unfold ws_X9_ripens_48 at hp
  obtain ⟨aEr, aNB⟩ : ∃ y : Int32, y = x3 + 1 := ⟨_, rfl⟩
  refine lv_iinc (v := aEr) (lv' := [(3, .int aEr), (0, .ref a_x), (1, .int x1), (2, .int x2)]) hx hb aT5.2.2.2.2.2.2.2.2.2.2.1 hl (k := 3) rfl (by rw [aNB]; rfl) (by decide) rfl (fun ls hl => ?_)
  have hp := hp aEr aNB
  refine lv_goto (tgt := 18) hx hb aT5.2.2.2.2.2.2.2.2.2.2.2.1 (by decide) ?_
  exact hK18 x1 x2 aEr oY rD qB jK H locs ls hp hP hD hS (lv_sub hl [1, 2, 3, 0] rfl)
def ws_X9_ripens_18 (post : Int32 -> Int32 -> (Nat -> Int32) -> Int32 -> (Nat -> Int32) -> Prop) (next : Int32 -> Int32 -> Int32 -> Int32 -> (Nat -> Int32) -> Int32 -> (Nat -> Int32) -> Prop) (dN bD : Int32) (uU gF qF mX oE dY : Nat -> Int32) (jE eW eY gJ jG x1 x2 x3 oY : Int32) (rD : Nat -> Int32) (qB : Int32) (jK : Nat -> Int32) : Prop := (9 < x3 -> wp_X5_lookAs (fun aBo aCo => aHs (fun r_3 => aXB (fun r_4 => aBb (fun r_5 => aPf (fun aKD aF9 => post x2 aBo aCo aKD aF9) x1 r_5 qB jK) r_4) aBo r_3 aCo bD) bD) gJ 9 oY rD dN bD uU gF qF mX oE dY jE eW eY) /\ (¬ 9 < x3 -> wp_X0_ripeFirst (fun r_8 => aBb (fun r_9 => (r_9 <= x2 -> ws_X9_ripens_48 post next dN bD uU gF qF mX oE dY jE eW eY gJ jG x1 x2 x3 oY rD qB jK) /\ (¬ r_9 <= x2 -> ws_X9_ripens_48 post next dN bD uU gF qF mX oE dY jE eW eY gJ jG x3 r_9 x3 oY rD qB jK)) r_8) x3 dN qF jE eW eY jG)
noncomputable def wb_X9_ripens_18 (post : Int32 -> Int32 -> (Nat -> Int32) -> Int32 -> (Nat -> Int32) -> Prop) (dN bD : Int32) (uU gF qF mX oE dY : Nat -> Int32) (jE eW eY gJ jG : Int32) : Nat -> Int32 -> Int32 -> Int32 -> Int32 -> (Nat -> Int32) -> Int32 -> (Nat -> Int32) -> Prop := fun n => Nat.rec (motive := fun _ => Int32 -> Int32 -> Int32 -> Int32 -> (Nat -> Int32) -> Int32 -> (Nat -> Int32) -> Prop) (fun _ _ _ _ _ _ _ => False) (fun _ ih => ws_X9_ripens_18 post ih dN bD uU gF qF mX oE dY jE eW eY gJ jG) n
set_option maxHeartbeats 4000000 in
set_option maxRecDepth 100000 in
theorem ks_X9_ripens_18 (C0 : gc aEz (some .int) 5 RX9 (dC, dI) (tyl cI cC cZ cB cJ) A p s m args meth c) {next : Int32 -> Int32 -> Int32 -> Int32 -> (Nat -> Int32) -> Int32 -> (Nat -> Int32) -> Prop} (hKn : ∀ (x1 : Int32) (x2 : Int32) (x3 : Int32) (oY : Int32) (rD : Nat -> Int32) (qB : Int32) (jK : Nat -> Int32) (H : Heap) (locs : List Loc) (ls : Array Slot), next x1 x2 x3 oY rD qB jK -> va_P (dC, dI) classes (aLy cI cC cZ cB cJ a_x xI xH xB vI wY xX yA xY uD uJ rW uQ uP uO xO tJ jJ mY pG pD pE eO rG oY rJ pX rO rD dN bD bJ aI uU gF qF mX oE dY jE eW eY dU fY gJ jG nU qB jK) H -> va_D A (aLy cI cC cZ cB cJ a_x xI xH xB vI wY xX yA xY uD uJ rW uQ uP uO xO tJ jJ mY pG pD pE eO rG oY rJ pX rO rD dN bD bJ aI uU gF qF mX oE dY jE eW eY dU fY gJ jG nU qB jK) -> va_S A s.heap H locs -> lv_has ls 5 [(0, .ref a_x), (1, .int x1), (2, .int x2), (3, .int x3)] -> W p l e rm_X9_ripens s m args below meth c H locs 0 0 (MQ below (q_X9_ripens dC dI cI cC cZ cB cJ A a_x xI xH xB vI wY xX yA xY uD uJ rW uQ uP uO xO tJ jJ mY pG pD pE eO rG rJ pX rO dN bD bJ aI uU gF qF mX oE dY jE eW eY dU fY gJ jG nU post) args s 0 0 A) (F0 m 18 ls [])) : ∀ (x1 x2 x3 oY : Int32) (rD : Nat -> Int32) (qB : Int32) (jK : Nat -> Int32) (H : Heap) (locs : List Loc) (ls : Array Slot), (ws_X9_ripens_18 post next dN bD uU gF qF mX oE dY jE eW eY gJ jG) x1 x2 x3 oY rD qB jK -> va_P (dC, dI) classes (aLy cI cC cZ cB cJ a_x xI xH xB vI wY xX yA xY uD uJ rW uQ uP uO xO tJ jJ mY pG pD pE eO rG oY rJ pX rO rD dN bD bJ aI uU gF qF mX oE dY jE eW eY dU fY gJ jG nU qB jK) H -> va_D A (aLy cI cC cZ cB cJ a_x xI xH xB vI wY xX yA xY uD uJ rW uQ uP uO xO tJ jJ mY pG pD pE eO rG oY rJ pX rO rD dN bD bJ aI uU gF qF mX oE dY jE eW eY dU fY gJ jG nU qB jK) -> va_S A s.heap H locs -> lv_has ls 5 [(0, .ref a_x), (1, .int x1), (2, .int x2), (3, .int x3)] -> W p l e rm_X9_ripens s m args below meth c H locs 0 0 (MQ below (q_X9_ripens dC dI cI cC cZ cB cJ A a_x xI xH xB vI wY xX yA xY uD uJ rW uQ uP uO xO tJ jJ mY pG pD pE eO rG rJ pX rO dN bD bJ aI uU gF qF mX oE dY jE eW eY dU fY gJ jG nU post) args s 0 0 A) (F0 m 18 ls []) := by
  obtain ⟨hx, hb, hr, hml, hown, hts, hlocks, hA, hK, hN, tL, tM, hZL, hTL, hZM, hTM, hZX⟩ := id C0
  intro x1 x2 x3 oY rD qB jK H locs ls hp hP hD hS hl
  unfold ws_X9_ripens_18 at hp
  refine lv_iload_n hx hb aWu.2.2.2.2.2.2.2.2.2.2.1 rfl (lv_at hl 3 rfl) ?_
  refine lv_bipush (v := 9) hx hb aWu.2.2.2.2.2.2.2.2.2.2.2.1 bp_9 ?_
  refine lv_icmp_gt (tgt := 54) hx hb aWu.2.2.2.2.2.2.2.2.2.2.2.2.1 (by decide) (fun hc => ?_) (fun hc => ?_)
  · have hp := hp.1 hc
    refine lv_aload_n hx hb aT5.2.2.2.2.2.2.2.2.2.2.2.2.1 rfl (lv_at hl 0 rfl) ?_
    refine va_get (D := (dC, dI)) (ci := 9) (v := .ref xH) (C := RX9) (T := TX9) (N := 9) hx hb hts aC3 hown hK hP 0 rfl rfl 1 (lbz rfl) (hts _ aOt) (fun _ h9 => h9) rfl aT5.2.2.2.2.2.2.2.2.2.2.2.2.2.1 ?_
    refine lv_aload_n hx hb aT5.2.2.2.2.2.2.2.2.2.2.2.2.2.2.1 rfl (lv_at hl 0 rfl) ?_
    refine va_get (D := (dC, dI)) (ci := 9) (v := .ref wY) (C := RX9) (T := TX9) (N := 9) hx hb hts aC3 hown hK hP 0 rfl rfl 4 (lbz rfl) (hts _ q_179) (fun _ h9 => h9) rfl aT5.2.2.2.2.2.2.2.2.2.2.2.2.2.2.2 ?_
    refine va_get (D := (dC, dI)) (ci := 2) (v := .int gJ) (C := RX2) (T := TX2) (N := 8) hx hb hts i_X2 hown hK hP 11 rfl rfl 5 (lbz rfl) (hts _ q_414) (fun _ h9 => h9) rfl aT6.1 ?_
    refine lv_bipush (v := 9) hx hb aT6.2.1 bp_9 ?_
    have hm := mgk (wc := (aKU cI cC cZ cB cJ xH xB vI uJ rW uQ uP uO wY xO tJ jJ mY pG pD pE eO oY rJ pX rO rD dN bD bJ aI uU gF qF mX oE dY jE eW eY dU fY gJ jG nU)) hP aUu 14 rfl rfl rfl
    refine aBn hP hD hS hA (yS aUu) (aAi aUu) hm.1 hm.2 (aAk _) (zW _) (zF (As := [.int gJ, .int 9]) (rest := []) C0 hP hD hS (yS aUu) hm.1 (aAl _) 1 5 rfl rfl (c_X5_lookAs l dC dI cI cC cZ cB cJ xH xB vI uJ rW uQ uP uO wY xO tJ jJ mY pG pD pE eO H.size gJ 9 oY rJ pX rO rD dN bD bJ aI uU gF qF mX oE dY jE eW eY dU fY gJ jG nU _ hp) q_440 q_543 q_441 q_442 aRn h_X5_lookAs rfl rfl ⟨lbz rfl, lbz rfl⟩ rfl rfl hl.1 rfl (lv_room (lbz rfl)) aT6.2.2.1 ⟨Nat.zero_le _, Nat.zero_le _⟩) (fun u H locs hp hP hD hS => ?_)
    obtain ⟨aBo, aCo⟩ := u
    have hPD := PDm (ws' := (aLy cI cC cZ cB cJ a_x xI xH xB vI wY xX yA xY uD uJ rW uQ uP uO xO tJ jJ mY pG pD pE eO rG aBo rJ pX rO aCo dN bD bJ aI uU gF qF mX oE dY jE eW eY dU fY gJ jG nU qB jK)) hP hD 14 rfl rfl rfl
    have hP := hPD.1
    have hD := hPD.2
    refine lv_aload_n hx hb aT6.2.2.2.1 rfl (lv_at hl 0 rfl) ?_
    refine lv_iload_n hx hb aT6.2.2.2.2.1 rfl (lv_at hl 1 rfl) ?_
    refine lv_aload_n hx hb aT6.2.2.2.2.2.1 rfl (lv_at hl 0 rfl) ?_
    refine va_get (D := (dC, dI)) (ci := 9) (v := .ref xH) (C := RX9) (T := TX9) (N := 9) hx hb hts aC3 hown hK hP 0 rfl rfl 1 (lbz rfl) (hts _ aOt) (fun _ h9 => h9) rfl aT6.2.2.2.2.2.2.1 ?_
    refine lv_aload_n hx hb aT6.2.2.2.2.2.2.2.1 rfl (lv_at hl 0 rfl) ?_
    refine va_get (D := (dC, dI)) (ci := 9) (v := .ref xH) (C := RX9) (T := TX9) (N := 9) hx hb hts aC3 hown hK hP 0 rfl rfl 1 (lbz rfl) (hts _ aOt) (fun _ h9 => h9) rfl aT6.2.2.2.2.2.2.2.2.1 ?_
    refine va_get (D := (dC, dI)) (ci := 5) (v := .int aBo) (C := RX5) (T := TX5) (N := 11) hx hb hts i_X5 hown hK hP 1 rfl rfl 7 (lbz rfl) (hts _ q_462) (fun _ h9 => h9) rfl aT6.2.2.2.2.2.2.2.2.2.1 ?_
    refine lv_aload_n hx hb aT6.2.2.2.2.2.2.2.2.2.2.1 rfl (lv_at hl 0 rfl) ?_
    refine va_get (D := (dC, dI)) (ci := 9) (v := .ref vI) (C := RX9) (T := TX9) (N := 9) hx hb hts aC3 hown hK hP 0 rfl rfl 3 (lbz rfl) (hts _ q_74) (fun _ h9 => h9) rfl aT6.2.2.2.2.2.2.2.2.2.2.2.1 ?_
    have hm := mgk (wc := (aHS cI cC cZ cB cJ vI tJ jJ mY pG pD pE eO dN bD bJ aI)) hP aNG 14 rfl rfl rfl
    refine yW hP hD hS hA (yS aNG) (aAi aNG) hm.1 hm.2 (aAk _) (zW _) (zF (As := []) (rest := [.int aBo, .ref xH, .int x1, .ref a_x]) C0 hP hD hS (yS aNG) hm.1 (aAl _) 4 3 rfl rfl (aLl l dC dI cI cC cZ cB cJ vI tJ jJ mY pG pD pE eO H.size dN bD bJ aI _ hp) q_426 q_463 q_427 q_428 q_48 aLo rfl rfl ⟨lbz rfl, lbz rfl⟩ rfl rfl hl.1 rfl (lv_room (lbz rfl)) aT6.2.2.2.2.2.2.2.2.2.2.2.2.1 ⟨Nat.zero_le _, Nat.zero_le _⟩) (fun r_3 u H locs hp hP hD hS => ?_)
    have hPD := PDm (ws' := (aLy cI cC cZ cB cJ a_x xI xH xB vI wY xX yA xY uD uJ rW uQ uP uO xO tJ jJ mY pG pD pE eO rG aBo rJ pX rO aCo dN bD bJ aI uU gF qF mX oE dY jE eW eY dU fY gJ jG nU qB jK)) hP hD 14 rfl rfl rfl
    have hP := hPD.1
    have hD := hPD.2
    have hm := mgk (wc := (aFh cI cC cZ cB cJ xH xB vI uJ rW uQ uP uO tJ jJ mY pG pD pE eO aBo rJ pX rO aCo dN bD bJ aI)) hP mk_123 14 rfl rfl rfl
    refine yW hP hD hS hA (yS mk_123) (aAi mk_123) hm.1 hm.2 (aAk _) (zW _) (zF (As := [.int aBo, .int r_3]) (rest := [.int x1, .ref a_x]) C0 hP hD hS (yS mk_123) hm.1 (aAl _) 1 5 rfl rfl (c_X5_smallestCover l dC dI cI cC cZ cB cJ xH xB vI uJ rW uQ uP uO tJ jJ mY pG pD pE eO H.size aBo r_3 aBo rJ pX rO aCo dN bD bJ aI _ hp) q_464 q_467 q_465 q_466 aRn h_X5_smallestCover rfl rfl ⟨lbz rfl, lbz rfl⟩ rfl rfl hl.1 rfl (lv_room (lbz rfl)) aT6.2.2.2.2.2.2.2.2.2.2.2.2.2.1 ⟨Nat.zero_le _, Nat.zero_le _⟩) (fun r_4 u H locs hp hP hD hS => ?_)
    have hPD := PDm (ws' := (aLy cI cC cZ cB cJ a_x xI xH xB vI wY xX yA xY uD uJ rW uQ uP uO xO tJ jJ mY pG pD pE eO rG aBo rJ pX rO aCo dN bD bJ aI uU gF qF mX oE dY jE eW eY dU fY gJ jG nU qB jK)) hP hD 14 rfl rfl rfl
    have hP := hPD.1
    have hD := hPD.2
    have hm := mgk (wc := (aBh cI cC cZ cB cJ)) hP aJ7 14 rfl rfl rfl
    refine yW hP hD hS hA (yS aJ7) (aAi aJ7) hm.1 hm.2 (aAk _) (zW _) (aDn (As := [.int r_4]) (rest := [.int x1, .ref a_x]) C0 hP hD hS (yS aJ7) hm.1 (aAl _) (aBv l dC dI cI cC cZ cB cJ H.size r_4 _ hp) q_320 q_474 q_322 q_321 aBw rfl rfl ⟨lbz rfl, lbz rfl⟩ rfl rfl hl.1 rfl (lv_room (lbz rfl)) aT6.2.2.2.2.2.2.2.2.2.2.2.2.2.2.1 ⟨Nat.zero_le _, Nat.zero_le _⟩) (fun r_5 u H locs hp hP hD hS => ?_)
    have hPD := PDm (ws' := (aLy cI cC cZ cB cJ a_x xI xH xB vI wY xX yA xY uD uJ rW uQ uP uO xO tJ jJ mY pG pD pE eO rG aBo rJ pX rO aCo dN bD bJ aI uU gF qF mX oE dY jE eW eY dU fY gJ jG nU qB jK)) hP hD 14 rfl rfl rfl
    have hP := hPD.1
    have hD := hPD.2
    have hm := mgk (wc := (aRW cI cC cZ cB cJ a_x xI xH xB vI wY xX yA xY uD rG qB jK)) hP mk_121 14 rfl rfl rfl
    refine aBn hP hD hS hA (yS mk_121) (aAi mk_121) hm.1 hm.2 (aAk _) (zW _) (zF (As := [.int x1, .int r_5]) (rest := []) C0 hP hD hS (yS mk_121) hm.1 (aAl _) 0 9 rfl rfl (c_X9_tell_ l dC dI cI cC cZ cB cJ a_x xI xH xB vI wY xX yA xY uD rG H.size x1 r_5 qB jK _ hp) q_377 q_380 q_378 q_379 aIl h_X9_tell_ rfl rfl ⟨lbz rfl, lbz rfl⟩ rfl rfl hl.1 rfl (lv_room (lbz rfl)) aT6.2.2.2.2.2.2.2.2.2.2.2.2.2.2.2 ⟨Nat.zero_le _, Nat.zero_le _⟩) (fun u H locs hp hP hD hS => ?_)
    obtain ⟨aKD, aF9⟩ := u
    have hPD := PDm (ws' := (aLy cI cC cZ cB cJ a_x xI xH xB vI wY xX yA xY uD uJ rW uQ uP uO xO tJ jJ mY pG pD pE eO rG aBo rJ pX rO aCo dN bD bJ aI uU gF qF mX oE dY jE eW eY dU fY gJ jG nU aKD aF9)) hP hD 14 rfl rfl rfl
    have hP := hPD.1
    have hD := hPD.2
    refine lv_iload_n hx hb eX9_ripens_99.1 rfl (lv_at hl 2 rfl) ?_
    exact W.iret (v := x2) hx hb hr (fun t ht hW => ⟨⟨x2, (aBo, aCo, aKD, aF9), rfl, hp, by rw [ht]; exact hP, va_K.moved hW.alike hK, hD⟩, hS.F ht⟩) hS.2.2 eX9_ripens_99.2
  · have hp := hp.2 hc
    refine lv_aload_n hx hb aWu.2.2.2.2.2.2.2.2.2.2.2.2.2.1 rfl (lv_at hl 0 rfl) ?_
    refine va_get (D := (dC, dI)) (ci := 9) (v := .ref xB) (C := RX9) (T := TX9) (N := 9) hx hb hts aC3 hown hK hP 0 rfl rfl 2 (lbz rfl) (hts _ q_146) (fun _ h9 => h9) rfl aWu.2.2.2.2.2.2.2.2.2.2.2.2.2.2.1 ?_
    refine lv_iload_n hx hb aWu.2.2.2.2.2.2.2.2.2.2.2.2.2.2.2 rfl (lv_at hl 3 rfl) ?_
    have hm := mgk (wc := (bCF cI cC cZ cB cJ xB vI wY xO tJ jJ mY pG pD pE eO dN bD bJ aI qF jE eW eY dU fY gJ jG nU)) hP mk_181 14 rfl rfl rfl
    refine yW hP hD hS hA (yS mk_181) (aAi mk_181) hm.1 hm.2 (aAk _) (zW _) (zF (As := [.int x3]) (rest := []) C0 hP hD hS (yS mk_181) hm.1 (aAl _) 3 0 rfl rfl (c_X0_ripeFirst l dC dI cI cC cZ cB cJ xB vI wY xO tJ jJ mY pG pD pE eO H.size x3 dN bD bJ aI qF jE eW eY dU fY gJ jG nU _ hp) q_584 q_587 q_585 q_586 q_187 h_X0_ripeFirst rfl rfl ⟨lbz rfl, lbz rfl⟩ rfl rfl hl.1 rfl (lv_room (lbz rfl)) aT5.1 ⟨Nat.zero_le _, Nat.zero_le _⟩) (fun r_8 u H locs hp hP hD hS => ?_)
    have hPD := PDm (ws' := (aLy cI cC cZ cB cJ a_x xI xH xB vI wY xX yA xY uD uJ rW uQ uP uO xO tJ jJ mY pG pD pE eO rG oY rJ pX rO rD dN bD bJ aI uU gF qF mX oE dY jE eW eY dU fY gJ jG nU qB jK)) hP hD 14 rfl rfl rfl
    have hP := hPD.1
    have hD := hPD.2
    have hm := mgk (wc := (aBh cI cC cZ cB cJ)) hP aJ7 14 rfl rfl rfl
    refine yW hP hD hS hA (yS aJ7) (aAi aJ7) hm.1 hm.2 (aAk _) (zW _) (aDn (As := [.int r_8]) (rest := []) C0 hP hD hS (yS aJ7) hm.1 (aAl _) (aBv l dC dI cI cC cZ cB cJ H.size r_8 _ hp) q_320 q_474 q_322 q_321 aBw rfl rfl ⟨lbz rfl, lbz rfl⟩ rfl rfl hl.1 rfl (lv_room (lbz rfl)) aT5.2.1 ⟨Nat.zero_le _, Nat.zero_le _⟩) (fun r_9 u H locs hp hP hD hS => ?_)
    have hPD := PDm (ws' := (aLy cI cC cZ cB cJ a_x xI xH xB vI wY xX yA xY uD uJ rW uQ uP uO xO tJ jJ mY pG pD pE eO rG oY rJ pX rO rD dN bD bJ aI uU gF qF mX oE dY jE eW eY dU fY gJ jG nU qB jK)) hP hD 14 rfl rfl rfl
    have hP := hPD.1
    have hD := hPD.2
    refine lv_istore (lv' := [(4, .int r_9), (0, .ref a_x), (1, .int x1), (2, .int x2), (3, .int x3)]) hx hb aT5.2.2.1 hl (by decide) rfl (fun ls hl => ?_)
    refine lv_iload hx hb aT5.2.2.2.1 (lv_at hl 0 rfl) ?_
    refine lv_iload_n hx hb aT5.2.2.2.2.1 rfl (lv_at hl 3 rfl) ?_
    refine lv_icmp_le (tgt := 48) hx hb aT5.2.2.2.2.2.1 (by decide) (fun hc => ?_) (fun hc => ?_)
    · have hp := hp.1 hc
      exact ks_X9_ripens_48 C0 hKn x1 x2 x3 oY rD qB jK H locs ls hp hP hD hS (lv_sub hl [1, 2, 3, 4] rfl)
    · have hp := hp.2 hc
      refine lv_iload_n hx hb aT5.2.2.2.2.2.2.1 rfl (lv_at hl 4 rfl) ?_
      refine lv_istore_n (lv' := [(1, .int x3), (4, .int r_9), (0, .ref a_x), (2, .int x2), (3, .int x3)]) hx hb aT5.2.2.2.2.2.2.2.1 rfl hl (by decide) rfl (fun ls hl => ?_)
      refine lv_iload hx hb aT5.2.2.2.2.2.2.2.2.1 (lv_at hl 1 rfl) ?_
      refine lv_istore_n (lv' := [(2, .int r_9), (1, .int x3), (4, .int r_9), (0, .ref a_x), (3, .int x3)]) hx hb aT5.2.2.2.2.2.2.2.2.2.1 rfl hl (by decide) rfl (fun ls hl => ?_)
      exact ks_X9_ripens_48 C0 hKn x3 r_9 x3 oY rD qB jK H locs ls hp hP hD hS (lv_sub hl [3, 1, 0, 4] rfl)
set_option maxHeartbeats 4000000 in
set_option maxRecDepth 100000 in
theorem kb_X9_ripens_18 (C0 : gc aEz (some .int) 5 RX9 (dC, dI) (tyl cI cC cZ cB cJ) A p s m args meth c) : ∀ (n : Nat), ∀ (x1 x2 x3 oY : Int32) (rD : Nat -> Int32) (qB : Int32) (jK : Nat -> Int32) (H : Heap) (locs : List Loc) (ls : Array Slot), (wb_X9_ripens_18 post dN bD uU gF qF mX oE dY jE eW eY gJ jG n) x1 x2 x3 oY rD qB jK -> va_P (dC, dI) classes (aLy cI cC cZ cB cJ a_x xI xH xB vI wY xX yA xY uD uJ rW uQ uP uO xO tJ jJ mY pG pD pE eO rG oY rJ pX rO rD dN bD bJ aI uU gF qF mX oE dY jE eW eY dU fY gJ jG nU qB jK) H -> va_D A (aLy cI cC cZ cB cJ a_x xI xH xB vI wY xX yA xY uD uJ rW uQ uP uO xO tJ jJ mY pG pD pE eO rG oY rJ pX rO rD dN bD bJ aI uU gF qF mX oE dY jE eW eY dU fY gJ jG nU qB jK) -> va_S A s.heap H locs -> lv_has ls 5 [(0, .ref a_x), (1, .int x1), (2, .int x2), (3, .int x3)] -> W p l e rm_X9_ripens s m args below meth c H locs 0 0 (MQ below (q_X9_ripens dC dI cI cC cZ cB cJ A a_x xI xH xB vI wY xX yA xY uD uJ rW uQ uP uO xO tJ jJ mY pG pD pE eO rG rJ pX rO dN bD bJ aI uU gF qF mX oE dY jE eW eY dU fY gJ jG nU post) args s 0 0 A) (F0 m 18 ls []) := by
  intro n
  induction n with
  | zero =>
    intro x1 x2 x3 oY rD qB jK H locs ls hp
    exact False.elim hp
  | succ n ih =>
    intro x1 x2 x3 oY rD qB jK H locs ls hp
    exact ks_X9_ripens_18 C0 ih x1 x2 x3 oY rD qB jK H locs ls hp
end S_X9_ripens
def wp_X9_ripens (post : Int32 -> Int32 -> (Nat -> Int32) -> Int32 -> (Nat -> Int32) -> Prop) (oY : Int32) (rD : Nat -> Int32) (dN bD : Int32) (uU gF qF mX oE dY : Nat -> Int32) (jE eW eY gJ jG qB : Int32) (jK : Nat -> Int32) : Prop := ∃ n : Nat, wb_X9_ripens_18 post dN bD uU gF qF mX oE dY jE eW eY gJ jG n jG 0 jG oY rD qB jK
set_option maxHeartbeats 4000000 in
set_option maxRecDepth 100000 in
theorem c_X9_ripens (l : Launch) (dC : Nat -> ClassId) (dI : Nat -> Nat -> Nat) (cI cC cZ cB cJ : ClassId) (a_x xI xH xB vI wY xX yA xY uD uJ rW uQ uP uO xO tJ jJ mY pG pD pE eO rG sz : Nat) (oY rJ pX rO : Int32) (rD : Nat -> Int32) (dN bD bJ aI : Int32) (uU gF qF mX oE dY : Nat -> Int32) (jE eW eY dU fY gJ jG nU qB : Int32) (jK : Nat -> Int32) (post : Int32 -> Int32 -> (Nat -> Int32) -> Int32 -> (Nat -> Int32) -> Prop) (hw : wp_X9_ripens post oY rD dN bD uU gF qF mX oE dY jE eW eY gJ jG qB jK) : Met l yX9_ripens (gw yX9_ripens aEz 5 (some .int)) rm_X9_ripens (va_Pc [.ref a_x] (gPre (dC, dI) (tyl cI cC cZ cB cJ) (aLy cI cC cZ cB cJ a_x xI xH xB vI wY xX yA xY uD uJ rW uQ uP uO xO tJ jJ mY pG pD pE eO rG oY rJ pX rO rD dN bD bJ aI uU gF qF mX oE dY jE eW eY dU fY gJ jG nU qB jK) sz)) (q_X9_ripens dC dI cI cC cZ cB cJ (va_A (aLy cI cC cZ cB cJ a_x xI xH xB vI wY xX yA xY uD uJ rW uQ uP uO xO tJ jJ mY pG pD pE eO rG oY rJ pX rO rD dN bD bJ aI uU gF qF mX oE dY jE eW eY dU fY gJ jG nU qB jK) sz) a_x xI xH xB vI wY xX yA xY uD uJ rW uQ uP uO xO tJ jJ mY pG pD pE eO rG rJ pX rO dN bD bJ aI uU gF qF mX oE dY jE eW eY dU fY gJ jG nU post) 0 0 (va_A (aLy cI cC cZ cB cJ a_x xI xH xB vI wY xX yA xY uD uJ rW uQ uP uO xO tJ jJ mY pG pD pE eO rG oY rJ pX rO rD dN bD bJ aI uU gF qF mX oE dY jE eW eY dU fY gJ jG nU qB jK) sz) := by
  refine aBJ (own := RX9) (dC, dI) (tyl cI cC cZ cB cJ) (aLy cI cC cZ cB cJ a_x xI xH xB vI wY xX yA xY uD uJ rW uQ uP uO xO tJ jJ mY pG pD pE eO rG oY rJ pX rO rD dN bD bJ aI uU gF qF mX oE dY jE eW eY dU fY gJ jG nU qB jK) sz [.ref a_x] (fun A => q_X9_ripens dC dI cI cC cZ cB cJ A a_x xI xH xB vI wY xX yA xY uD uJ rW uQ uP uO xO tJ jJ mY pG pD pE eO rG rJ pX rO dN bD bJ aI uU gF qF mX oE dY jE eW eY dU fY gJ jG nU post) pn_RX9 rfl (lbz rfl) ?_
  intro p e s m args below meth c A H locs ls C0 hP hD hS hl
  have hl : lv_has ls 5 [(0, .ref a_x)] := hl
  obtain ⟨hx, hb, hr, hml, hown, hts, hlocks, hA, hK, hN, tL, tM, hZL, hTL, hZM, hTM, hZX⟩ := id C0
  have hp := hw
  unfold wp_X9_ripens at hp
  refine lv_aload_n hx hb aWu.1 rfl (lv_at hl 0 rfl) ?_
  refine va_get (D := (dC, dI)) (ci := 9) (v := .ref wY) (C := RX9) (T := TX9) (N := 9) hx hb hts aC3 hown hK hP 0 rfl rfl 4 (lbz rfl) (hts _ q_179) (fun _ h9 => h9) rfl aWu.2.1 ?_
  refine va_get (D := (dC, dI)) (ci := 2) (v := .int jG) (C := RX2) (T := TX2) (N := 8) hx hb hts i_X2 hown hK hP 11 rfl rfl 6 (lbz rfl) (hts _ q_542) (fun _ h9 => h9) rfl aWu.2.2.1 ?_
  refine lv_istore_n (lv' := [(1, .int jG), (0, .ref a_x)]) hx hb aWu.2.2.2.1 rfl hl (by decide) rfl (fun ls hl => ?_)
  refine lv_iconst (v := 0) hx hb aWu.2.2.2.2.1 aCi ?_
  refine lv_istore_n (lv' := [(2, .int 0), (1, .int jG), (0, .ref a_x)]) hx hb aWu.2.2.2.2.2.1 rfl hl (by decide) rfl (fun ls hl => ?_)
  refine lv_aload_n hx hb aWu.2.2.2.2.2.2.1 rfl (lv_at hl 2 rfl) ?_
  refine va_get (D := (dC, dI)) (ci := 9) (v := .ref wY) (C := RX9) (T := TX9) (N := 9) hx hb hts aC3 hown hK hP 0 rfl rfl 4 (lbz rfl) (hts _ q_179) (fun _ h9 => h9) rfl aWu.2.2.2.2.2.2.2.1 ?_
  refine va_get (D := (dC, dI)) (ci := 2) (v := .int jG) (C := RX2) (T := TX2) (N := 8) hx hb hts i_X2 hown hK hP 11 rfl rfl 6 (lbz rfl) (hts _ q_542) (fun _ h9 => h9) rfl aWu.2.2.2.2.2.2.2.2.1 ?_
  refine lv_istore_n (lv' := [(3, .int jG), (2, .int 0), (1, .int jG), (0, .ref a_x)]) hx hb aWu.2.2.2.2.2.2.2.2.2.1 rfl hl (by decide) rfl (fun ls hl => ?_)
  obtain ⟨n9, hp⟩ := hp
  exact kb_X9_ripens_18 C0 n9 jG 0 jG oY rD qB jK H locs ls hp hP hD hS (lv_sub hl [3, 2, 1, 0] rfl)
abbrev wd_X9_ondays (cI cC cZ cB cJ : ClassId) (a_x xI xH xB vI wY xX yA xY uD uJ rW uQ uP uO xO tJ jJ mY pG pD pE eO rG : Nat) (oY rJ pX rO : Int32) (rD : Nat -> Int32) (dN bD bJ aI : Int32) (uU gF qF mX oE dY : Nat -> Int32) (jE eW eY dU fY gJ jG nU qB : Int32) (jK : Nat -> Int32) : va_W := [(a_x, .inr (9, [.ref xI, .ref xH, .ref xB, .ref vI, .ref wY, .ref xX, .ref yA, .ref xY, .ref uD])), (xH, .inr (5, [.ref xB, .ref vI, .ref uJ, .ref rW, .ref uQ, .ref uP, .ref uO, .int oY, .int rJ, .int pX, .int rO])), (uJ, .inl (cI, 8, .inl rD)), (xB, .inr (0, [.ref vI, .ref wY, .ref xO])), (vI, .inr (3, [.ref tJ, .ref jJ, .ref mY, .ref pG, .ref pD, .ref pE, .ref eO, .int dN, .int bD, .int bJ, .int aI])), (tJ, .inl (cI, 16, .inl uU)), (jJ, .inl (cI, 16, .inl gF)), (pG, .inl (cI, 16, .inl qF)), (pD, .inl (cI, 8, .inl mX)), (pE, .inl (cI, 8, .inl oE)), (eO, .inl (cI, 5, .inl dY)), (wY, .inr (2, [.int jE, .int eW, .int eY, .int dU, .int fY, .int gJ, .int jG, .int nU])), (yA, .inr (6, [.ref rG, .int qB])), (rG, .inl (cI, 16, .inl jK))]
abbrev q_X9_ondays (dC : Nat -> ClassId) (dI : Nat -> Nat -> Nat) (cI cC cZ cB cJ : ClassId) (A : Nat -> Prop) (a_x xI xH xB vI wY xX yA xY uD uJ rW uQ uP uO xO tJ jJ mY pG pD pE eO rG : Nat) (rJ pX rO dN bD bJ aI : Int32) (uU gF qF mX oE dY : Nat -> Int32) (jE eW eY dU fY gJ jG nU : Int32) (post : Int32 -> Int32 -> (Nat -> Int32) -> Int32 -> (Nat -> Int32) -> Prop) : Array Value -> State -> Outcome -> State -> Prop := va_Qi (fun (r : Int32) (u : Int32 × (Nat -> Int32) × Int32 × (Nat -> Int32)) => post r u.1 u.2.1 u.2.2.1 u.2.2.2) (fun u t => gB (dC, dI) (tyl cI cC cZ cB cJ) A (wd_X9_ondays cI cC cZ cB cJ a_x xI xH xB vI wY xX yA xY uD uJ rW uQ uP uO xO tJ jJ mY pG pD pE eO rG u.1 rJ pX rO u.2.1 dN bD bJ aI uU gF qF mX oE dY jE eW eY dU fY gJ jG nU u.2.2.1 u.2.2.2) t) A
abbrev rm_X9_ondays : Room := { frames := 5, cells := 0, slots := 0, locals := 115 }
def wp_X9_ondays (post : Int32 -> Int32 -> (Nat -> Int32) -> Int32 -> (Nat -> Int32) -> Prop) (p0 oY : Int32) (rD : Nat -> Int32) (dN bD : Int32) (uU gF qF mX oE dY : Nat -> Int32) (jE eW eY gJ jG qB : Int32) (jK : Nat -> Int32) : Prop := (p0 < jG -> post (-1) oY rD qB jK) /\ (¬ p0 < jG -> (p0 <= 9 -> aZL (fun aBo aCo => wp_X0_ripeFirst (fun r_3 => aHs (fun r_4 => aPV (fun r_5 => ∀ v_6 : Int32, v_6 = r_3 &&& r_5 -> aHs (fun r_7 => aXB (fun r_8 => wp_X9_tellMembers (fun r_9 ro_size_10 ro_numbers_11 => post r_9 aBo aCo ro_size_10 ro_numbers_11) r_8 qB jK) v_6 r_7 aCo bD) bD) r_4 aCo bD) bD) p0 dN qF jE eW eY jG) oY rD dN bD uU gF qF mX oE dY jE eW eY gJ jG) /\ (¬ p0 <= 9 -> post (-1) oY rD qB jK))
set_option maxHeartbeats 4000000 in
set_option maxRecDepth 100000 in
theorem c_X9_ondays (l : Launch) (dC : Nat -> ClassId) (dI : Nat -> Nat -> Nat) (cI cC cZ cB cJ : ClassId) (a_x xI xH xB vI wY xX yA xY uD uJ rW uQ uP uO xO tJ jJ mY pG pD pE eO rG sz : Nat) (p0 oY rJ pX rO : Int32) (rD : Nat -> Int32) (dN bD bJ aI : Int32) (uU gF qF mX oE dY : Nat -> Int32) (jE eW eY dU fY gJ jG nU qB : Int32) (jK : Nat -> Int32) (post : Int32 -> Int32 -> (Nat -> Int32) -> Int32 -> (Nat -> Int32) -> Prop) (hw : wp_X9_ondays post p0 oY rD dN bD uU gF qF mX oE dY jE eW eY gJ jG qB jK) : Met l yX9_ondays (gw yX9_ondays aIK 3 (some .int)) rm_X9_ondays (va_Pc [.ref a_x, .int p0] (gPre (dC, dI) (tyl cI cC cZ cB cJ) (wd_X9_ondays cI cC cZ cB cJ a_x xI xH xB vI wY xX yA xY uD uJ rW uQ uP uO xO tJ jJ mY pG pD pE eO rG oY rJ pX rO rD dN bD bJ aI uU gF qF mX oE dY jE eW eY dU fY gJ jG nU qB jK) sz)) (q_X9_ondays dC dI cI cC cZ cB cJ (va_A (wd_X9_ondays cI cC cZ cB cJ a_x xI xH xB vI wY xX yA xY uD uJ rW uQ uP uO xO tJ jJ mY pG pD pE eO rG oY rJ pX rO rD dN bD bJ aI uU gF qF mX oE dY jE eW eY dU fY gJ jG nU qB jK) sz) a_x xI xH xB vI wY xX yA xY uD uJ rW uQ uP uO xO tJ jJ mY pG pD pE eO rG rJ pX rO dN bD bJ aI uU gF qF mX oE dY jE eW eY dU fY gJ jG nU post) 0 0 (va_A (wd_X9_ondays cI cC cZ cB cJ a_x xI xH xB vI wY xX yA xY uD uJ rW uQ uP uO xO tJ jJ mY pG pD pE eO rG oY rJ pX rO rD dN bD bJ aI uU gF qF mX oE dY jE eW eY dU fY gJ jG nU qB jK) sz) := by
  refine aBJ (own := RX9) (dC, dI) (tyl cI cC cZ cB cJ) (wd_X9_ondays cI cC cZ cB cJ a_x xI xH xB vI wY xX yA xY uD uJ rW uQ uP uO xO tJ jJ mY pG pD pE eO rG oY rJ pX rO rD dN bD bJ aI uU gF qF mX oE dY jE eW eY dU fY gJ jG nU qB jK) sz [.ref a_x, .int p0] (fun A => q_X9_ondays dC dI cI cC cZ cB cJ A a_x xI xH xB vI wY xX yA xY uD uJ rW uQ uP uO xO tJ jJ mY pG pD pE eO rG rJ pX rO dN bD bJ aI uU gF qF mX oE dY jE eW eY dU fY gJ jG nU post) pn_RX9 rfl (lbz rfl) ?_
  intro p e s m args below meth c A H locs ls C0 hP hD hS hl
  have hl : lv_has ls 3 [(0, .ref a_x), (1, .int p0)] := hl
  obtain ⟨hx, hb, hr, hml, hown, hts, hlocks, hA, hK, hN, tL, tM, hZL, hTL, hZM, hTM, hZX⟩ := id C0
  have hp := hw
  unfold wp_X9_ondays at hp
  refine lv_iload_n hx hb aSI.1 rfl (lv_at hl 1 rfl) ?_
  refine lv_aload_n hx hb aSI.2.1 rfl (lv_at hl 0 rfl) ?_
  refine va_get (D := (dC, dI)) (ci := 9) (v := .ref wY) (C := RX9) (T := TX9) (N := 9) hx hb hts aC3 hown hK hP 0 rfl rfl 4 (lbz rfl) (hts _ q_179) (fun _ h9 => h9) rfl aSI.2.2.1 ?_
  refine va_get (D := (dC, dI)) (ci := 2) (v := .int jG) (C := RX2) (T := TX2) (N := 8) hx hb hts i_X2 hown hK hP 11 rfl rfl 6 (lbz rfl) (hts _ q_542) (fun _ h9 => h9) rfl aSI.2.2.2.1 ?_
  refine lv_icmp_lt (tgt := 17) hx hb aSI.2.2.2.2.1 (by decide) (fun hc => ?_) (fun hc => ?_)
  · have hp := hp.1 hc
    refine lv_iconst (v := (-1)) hx hb aSI.2.2.2.2.2.2.2.2.1 aEJ ?_
    exact W.iret (v := (-1)) hx hb hr (fun t ht hW => ⟨⟨(-1), (oY, rD, qB, jK), rfl, hp, by rw [ht]; exact hP, va_K.moved hW.alike hK, hD⟩, hS.F ht⟩) hS.2.2 aSI.2.2.2.2.2.2.2.2.2.1
  · have hp := hp.2 hc
    refine lv_iload_n hx hb aSI.2.2.2.2.2.1 rfl (lv_at hl 1 rfl) ?_
    refine lv_bipush (v := 9) hx hb aSI.2.2.2.2.2.2.1 bp_9 ?_
    refine lv_icmp_le (tgt := 19) hx hb aSI.2.2.2.2.2.2.2.1 (by decide) (fun hc => ?_) (fun hc => ?_)
    · have hp := hp.1 hc
      refine lv_aload_n hx hb aSI.2.2.2.2.2.2.2.2.2.2.1 rfl (lv_at hl 0 rfl) ?_
      refine va_get (D := (dC, dI)) (ci := 9) (v := .ref xH) (C := RX9) (T := TX9) (N := 9) hx hb hts aC3 hown hK hP 0 rfl rfl 1 (lbz rfl) (hts _ aOt) (fun _ h9 => h9) rfl aSI.2.2.2.2.2.2.2.2.2.2.2.1 ?_
      have hm := mgk (wc := (aVN cI cC cZ cB cJ xH xB vI uJ rW uQ uP uO wY xO tJ jJ mY pG pD pE eO oY rJ pX rO rD dN bD bJ aI uU gF qF mX oE dY jE eW eY dU fY gJ jG nU)) hP aUu 14 rfl rfl rfl
      refine aBn hP hD hS hA (yS aUu) (aAi aUu) hm.1 hm.2 (aAk _) (zW _) (zF (As := []) (rest := []) C0 hP hD hS (yS aUu) hm.1 (aAl _) 1 5 rfl rfl (c_X5_look l dC dI cI cC cZ cB cJ xH xB vI uJ rW uQ uP uO wY xO tJ jJ mY pG pD pE eO H.size oY rJ pX rO rD dN bD bJ aI uU gF qF mX oE dY jE eW eY dU fY gJ jG nU _ hp) q_445 q_448 q_446 q_447 aRn h_X5_look rfl rfl ⟨lbz rfl, lbz rfl⟩ rfl rfl hl.1 rfl (lv_room (lbz rfl)) aSI.2.2.2.2.2.2.2.2.2.2.2.2.1 ⟨Nat.zero_le _, Nat.zero_le _⟩) (fun u H locs hp hP hD hS => ?_)
      obtain ⟨aBo, aCo⟩ := u
      have hPD := PDm (ws' := (wd_X9_ondays cI cC cZ cB cJ a_x xI xH xB vI wY xX yA xY uD uJ rW uQ uP uO xO tJ jJ mY pG pD pE eO rG aBo rJ pX rO aCo dN bD bJ aI uU gF qF mX oE dY jE eW eY dU fY gJ jG nU qB jK)) hP hD 14 rfl rfl rfl
      have hP := hPD.1
      have hD := hPD.2
      refine lv_aload_n hx hb aSI.2.2.2.2.2.2.2.2.2.2.2.2.2.1 rfl (lv_at hl 0 rfl) ?_
      refine va_get (D := (dC, dI)) (ci := 9) (v := .ref xB) (C := RX9) (T := TX9) (N := 9) hx hb hts aC3 hown hK hP 0 rfl rfl 2 (lbz rfl) (hts _ q_146) (fun _ h9 => h9) rfl aSI.2.2.2.2.2.2.2.2.2.2.2.2.2.2.1 ?_
      refine lv_iload_n hx hb aSI.2.2.2.2.2.2.2.2.2.2.2.2.2.2.2 rfl (lv_at hl 1 rfl) ?_
      have hm := mgk (wc := (bCF cI cC cZ cB cJ xB vI wY xO tJ jJ mY pG pD pE eO dN bD bJ aI qF jE eW eY dU fY gJ jG nU)) hP mk_181 14 rfl rfl rfl
      refine yW hP hD hS hA (yS mk_181) (aAi mk_181) hm.1 hm.2 (aAk _) (zW _) (zF (As := [.int p0]) (rest := []) C0 hP hD hS (yS mk_181) hm.1 (aAl _) 3 0 rfl rfl (c_X0_ripeFirst l dC dI cI cC cZ cB cJ xB vI wY xO tJ jJ mY pG pD pE eO H.size p0 dN bD bJ aI qF jE eW eY dU fY gJ jG nU _ hp) q_584 q_587 q_585 q_586 q_187 h_X0_ripeFirst rfl rfl ⟨lbz rfl, lbz rfl⟩ rfl rfl hl.1 rfl (lv_room (lbz rfl)) aT0.1 ⟨Nat.zero_le _, Nat.zero_le _⟩) (fun r_3 u H locs hp hP hD hS => ?_)
      have hPD := PDm (ws' := (wd_X9_ondays cI cC cZ cB cJ a_x xI xH xB vI wY xX yA xY uD uJ rW uQ uP uO xO tJ jJ mY pG pD pE eO rG aBo rJ pX rO aCo dN bD bJ aI uU gF qF mX oE dY jE eW eY dU fY gJ jG nU qB jK)) hP hD 14 rfl rfl rfl
      have hP := hPD.1
      have hD := hPD.2
      refine lv_aload_n hx hb aT0.2.1 rfl (lv_at hl 0 rfl) ?_
      refine va_get (D := (dC, dI)) (ci := 9) (v := .ref xH) (C := RX9) (T := TX9) (N := 9) hx hb hts aC3 hown hK hP 0 rfl rfl 1 (lbz rfl) (hts _ aOt) (fun _ h9 => h9) rfl aT0.2.2.1 ?_
      refine lv_aload_n hx hb aT0.2.2.2.1 rfl (lv_at hl 0 rfl) ?_
      refine va_get (D := (dC, dI)) (ci := 9) (v := .ref vI) (C := RX9) (T := TX9) (N := 9) hx hb hts aC3 hown hK hP 0 rfl rfl 3 (lbz rfl) (hts _ q_74) (fun _ h9 => h9) rfl aT0.2.2.2.2.1 ?_
      have hm := mgk (wc := (aHS cI cC cZ cB cJ vI tJ jJ mY pG pD pE eO dN bD bJ aI)) hP aNG 14 rfl rfl rfl
      refine yW hP hD hS hA (yS aNG) (aAi aNG) hm.1 hm.2 (aAk _) (zW _) (zF (As := []) (rest := [.ref xH, .int r_3]) C0 hP hD hS (yS aNG) hm.1 (aAl _) 4 3 rfl rfl (aLl l dC dI cI cC cZ cB cJ vI tJ jJ mY pG pD pE eO H.size dN bD bJ aI _ hp) q_426 q_463 q_427 q_428 q_48 aLo rfl rfl ⟨lbz rfl, lbz rfl⟩ rfl rfl hl.1 rfl (lv_room (lbz rfl)) aT0.2.2.2.2.2.1 ⟨Nat.zero_le _, Nat.zero_le _⟩) (fun r_4 u H locs hp hP hD hS => ?_)
      have hPD := PDm (ws' := (wd_X9_ondays cI cC cZ cB cJ a_x xI xH xB vI wY xX yA xY uD uJ rW uQ uP uO xO tJ jJ mY pG pD pE eO rG aBo rJ pX rO aCo dN bD bJ aI uU gF qF mX oE dY jE eW eY dU fY gJ jG nU qB jK)) hP hD 14 rfl rfl rfl
      have hP := hPD.1
      have hD := hPD.2
      have hm := mgk (wc := (aHK cI cC cZ cB cJ xH xB vI uJ rW uQ uP uO tJ jJ mY pG pD pE eO aBo rJ pX rO aCo dN bD bJ aI)) hP mk_123 14 rfl rfl rfl
      refine yW hP hD hS hA (yS mk_123) (aAi mk_123) hm.1 hm.2 (aAk _) (zW _) (zF (As := [.int r_4]) (rest := [.int r_3]) C0 hP hD hS (yS mk_123) hm.1 (aAl _) 1 5 rfl rfl (c_X5_reachedBy l dC dI cI cC cZ cB cJ xH xB vI uJ rW uQ uP uO tJ jJ mY pG pD pE eO H.size r_4 aBo rJ pX rO aCo dN bD bJ aI _ hp) q_430 q_472 q_432 q_433 aRn h_X5_reachedBy rfl rfl ⟨lbz rfl, lbz rfl⟩ rfl rfl hl.1 rfl (lv_room (lbz rfl)) aT0.2.2.2.2.2.2.1 ⟨Nat.zero_le _, Nat.zero_le _⟩) (fun r_5 u H locs hp hP hD hS => ?_)
      have hPD := PDm (ws' := (wd_X9_ondays cI cC cZ cB cJ a_x xI xH xB vI wY xX yA xY uD uJ rW uQ uP uO xO tJ jJ mY pG pD pE eO rG aBo rJ pX rO aCo dN bD bJ aI uU gF qF mX oE dY jE eW eY dU fY gJ jG nU qB jK)) hP hD 14 rfl rfl rfl
      have hP := hPD.1
      have hD := hPD.2
      refine lv_iand hx hb aT0.2.2.2.2.2.2.2.1 ?_
      refine lv_topi (fun v_6 ev_6 => ?_)
      have hp := hp v_6 ev_6
      refine lv_istore_n (lv' := [(2, .int v_6), (0, .ref a_x), (1, .int p0)]) hx hb aT0.2.2.2.2.2.2.2.2.1 rfl hl (by decide) rfl (fun ls hl => ?_)
      refine lv_aload_n hx hb aT0.2.2.2.2.2.2.2.2.2.1 rfl (lv_at hl 1 rfl) ?_
      refine lv_aload_n hx hb aT0.2.2.2.2.2.2.2.2.2.2.1 rfl (lv_at hl 1 rfl) ?_
      refine va_get (D := (dC, dI)) (ci := 9) (v := .ref xH) (C := RX9) (T := TX9) (N := 9) hx hb hts aC3 hown hK hP 0 rfl rfl 1 (lbz rfl) (hts _ aOt) (fun _ h9 => h9) rfl aT0.2.2.2.2.2.2.2.2.2.2.2.1 ?_
      refine lv_iload_n hx hb aT0.2.2.2.2.2.2.2.2.2.2.2.2.1 rfl (lv_at hl 0 rfl) ?_
      refine lv_aload_n hx hb aT0.2.2.2.2.2.2.2.2.2.2.2.2.2.1 rfl (lv_at hl 1 rfl) ?_
      refine va_get (D := (dC, dI)) (ci := 9) (v := .ref vI) (C := RX9) (T := TX9) (N := 9) hx hb hts aC3 hown hK hP 0 rfl rfl 3 (lbz rfl) (hts _ q_74) (fun _ h9 => h9) rfl aT0.2.2.2.2.2.2.2.2.2.2.2.2.2.2.1 ?_
      have hm := mgk (wc := (aHS cI cC cZ cB cJ vI tJ jJ mY pG pD pE eO dN bD bJ aI)) hP aNG 14 rfl rfl rfl
      refine yW hP hD hS hA (yS aNG) (aAi aNG) hm.1 hm.2 (aAk _) (zW _) (zF (As := []) (rest := [.int v_6, .ref xH, .ref a_x]) C0 hP hD hS (yS aNG) hm.1 (aAl _) 4 3 rfl rfl (aLl l dC dI cI cC cZ cB cJ vI tJ jJ mY pG pD pE eO H.size dN bD bJ aI _ hp) q_426 q_463 q_427 q_428 q_48 aLo rfl rfl ⟨lbz rfl, lbz rfl⟩ rfl rfl hl.1 rfl (lv_room (lbz rfl)) aT0.2.2.2.2.2.2.2.2.2.2.2.2.2.2.2 ⟨Nat.zero_le _, Nat.zero_le _⟩) (fun r_7 u H locs hp hP hD hS => ?_)
      have hPD := PDm (ws' := (wd_X9_ondays cI cC cZ cB cJ a_x xI xH xB vI wY xX yA xY uD uJ rW uQ uP uO xO tJ jJ mY pG pD pE eO rG aBo rJ pX rO aCo dN bD bJ aI uU gF qF mX oE dY jE eW eY dU fY gJ jG nU qB jK)) hP hD 14 rfl rfl rfl
      have hP := hPD.1
      have hD := hPD.2
      have hm := mgk (wc := (aFh cI cC cZ cB cJ xH xB vI uJ rW uQ uP uO tJ jJ mY pG pD pE eO aBo rJ pX rO aCo dN bD bJ aI)) hP mk_123 14 rfl rfl rfl
      refine yW hP hD hS hA (yS mk_123) (aAi mk_123) hm.1 hm.2 (aAk _) (zW _) (zF (As := [.int v_6, .int r_7]) (rest := [.ref a_x]) C0 hP hD hS (yS mk_123) hm.1 (aAl _) 1 5 rfl rfl (c_X5_smallestCover l dC dI cI cC cZ cB cJ xH xB vI uJ rW uQ uP uO tJ jJ mY pG pD pE eO H.size v_6 r_7 aBo rJ pX rO aCo dN bD bJ aI _ hp) q_464 q_467 q_465 q_466 aRn h_X5_smallestCover rfl rfl ⟨lbz rfl, lbz rfl⟩ rfl rfl hl.1 rfl (lv_room (lbz rfl)) eX9_ondays_63.1 ⟨Nat.zero_le _, Nat.zero_le _⟩) (fun r_8 u H locs hp hP hD hS => ?_)
      have hPD := PDm (ws' := (wd_X9_ondays cI cC cZ cB cJ a_x xI xH xB vI wY xX yA xY uD uJ rW uQ uP uO xO tJ jJ mY pG pD pE eO rG aBo rJ pX rO aCo dN bD bJ aI uU gF qF mX oE dY jE eW eY dU fY gJ jG nU qB jK)) hP hD 14 rfl rfl rfl
      have hP := hPD.1
      have hD := hPD.2
      have hm := mgk (wc := (aIc cI cC cZ cB cJ a_x xI xH xB vI wY xX yA xY uD rG qB jK)) hP mk_121 14 rfl rfl rfl
      refine yW hP hD hS hA (yS mk_121) (aAi mk_121) hm.1 hm.2 (aAk _) (zW _) (zF (As := [.int r_8]) (rest := []) C0 hP hD hS (yS mk_121) hm.1 (aAl _) 0 9 rfl rfl (c_X9_tellMembers l dC dI cI cC cZ cB cJ a_x xI xH xB vI wY xX yA xY uD rG H.size r_8 qB jK _ hp) q_468 q_471 q_469 q_470 aIl h_X9_tellMembers rfl rfl ⟨lbz rfl, lbz rfl⟩ rfl rfl hl.1 rfl (lv_room (lbz rfl)) eX9_ondays_63.2.1 ⟨Nat.zero_le _, Nat.zero_le _⟩) (fun r_9 u H locs hp hP hD hS => ?_)
      obtain ⟨ro_size_10, ro_numbers_11⟩ := u
      have hPD := PDm (ws' := (wd_X9_ondays cI cC cZ cB cJ a_x xI xH xB vI wY xX yA xY uD uJ rW uQ uP uO xO tJ jJ mY pG pD pE eO rG aBo rJ pX rO aCo dN bD bJ aI uU gF qF mX oE dY jE eW eY dU fY gJ jG nU ro_size_10 ro_numbers_11)) hP hD 14 rfl rfl rfl
      have hP := hPD.1
      have hD := hPD.2
      exact W.iret (v := r_9) hx hb hr (fun t ht hW => ⟨⟨r_9, (aBo, aCo, ro_size_10, ro_numbers_11), rfl, hp, by rw [ht]; exact hP, va_K.moved hW.alike hK, hD⟩, hS.F ht⟩) hS.2.2 eX9_ondays_63.2.2
    · have hp := hp.2 hc
      refine lv_iconst (v := (-1)) hx hb aSI.2.2.2.2.2.2.2.2.1 aEJ ?_
      exact W.iret (v := (-1)) hx hb hr (fun t ht hW => ⟨⟨(-1), (oY, rD, qB, jK), rfl, hp, by rw [ht]; exact hP, va_K.moved hW.alike hK, hD⟩, hS.F ht⟩) hS.2.2 aSI.2.2.2.2.2.2.2.2.2.1
abbrev aM0 (cI cC cZ cB cJ : ClassId) (a_x xI xH xB vI wY xX yA xY uD xO tJ jJ mY pG pD pE eO rG : Nat) (dN bD bJ aI : Int32) (pL qF : Nat -> Int32) (jE eW eY dU fY gJ jG nU qB : Int32) (jK : Nat -> Int32) : va_W := [(a_x, .inr (9, [.ref xI, .ref xH, .ref xB, .ref vI, .ref wY, .ref xX, .ref yA, .ref xY, .ref uD])), (xB, .inr (0, [.ref vI, .ref wY, .ref xO])), (vI, .inr (3, [.ref tJ, .ref jJ, .ref mY, .ref pG, .ref pD, .ref pE, .ref eO, .int dN, .int bD, .int bJ, .int aI])), (mY, .inl (cI, 16, .inl pL)), (pG, .inl (cI, 16, .inl qF)), (wY, .inr (2, [.int jE, .int eW, .int eY, .int dU, .int fY, .int gJ, .int jG, .int nU])), (yA, .inr (6, [.ref rG, .int qB])), (rG, .inl (cI, 16, .inl jK))]
abbrev q_X9_allripe (dC : Nat -> ClassId) (dI : Nat -> Nat -> Nat) (cI cC cZ cB cJ : ClassId) (A : Nat -> Prop) (a_x xI xH xB vI wY xX yA xY uD xO tJ jJ mY pG pD pE eO rG : Nat) (dN bD bJ aI : Int32) (pL qF : Nat -> Int32) (jE eW eY dU fY gJ jG nU : Int32) (post : Int32 -> Int32 -> (Nat -> Int32) -> Prop) : Array Value -> State -> Outcome -> State -> Prop := va_Qi (fun (r : Int32) (u : Int32 × (Nat -> Int32)) => post r u.1 u.2) (fun u t => gB (dC, dI) (tyl cI cC cZ cB cJ) A (aM0 cI cC cZ cB cJ a_x xI xH xB vI wY xX yA xY uD xO tJ jJ mY pG pD pE eO rG dN bD bJ aI pL qF jE eW eY dU fY gJ jG nU u.1 u.2) t) A
abbrev rm_X9_allripe : Room := { frames := 3, cells := 0, slots := 0, locals := 64 }
section S_X9_allripe
variable {p : Program} {l : Launch} {e : Env} {s : State} {m : MethodId} {args : Array Value} {below : List Frame} {meth : Method} {c : Code} {dC : Nat -> ClassId} {dI : Nat -> Nat -> Nat} {cI cC cZ cB cJ : ClassId} {A : Nat -> Prop} {a_x xI xH xB vI wY xX yA xY uD xO tJ jJ mY pG pD pE eO rG : Nat} {dN bD bJ aI : Int32} {pL qF : Nat -> Int32} {jE eW eY dU fY gJ jG nU : Int32} {post : Int32 -> Int32 -> (Nat -> Int32) -> Prop}
def ws_X9_allripe_62 (post : Int32 -> Int32 -> (Nat -> Int32) -> Prop) (dN : Int32) (pL qF : Nat -> Int32) (jE eW eY dU jG x2 x3 qB : Int32) (jK : Nat -> Int32) : Prop := aBb (fun r_4 => aVC (fun r_5 => aPf (fun aKD aF9 => post x3 aKD aF9) r_4 r_5 qB jK) x2 dN pL dU) x2
set_option maxHeartbeats 4000000 in
set_option maxRecDepth 100000 in
theorem ks_X9_allripe_62 (C0 : gc aE4 (some .int) 4 RX9 (dC, dI) (tyl cI cC cZ cB cJ) A p s m args meth c) : ∀ (x2 x3 qB : Int32) (jK : Nat -> Int32) (H : Heap) (locs : List Loc) (ls : Array Slot), (ws_X9_allripe_62 post dN pL qF jE eW eY dU jG) x2 x3 qB jK -> va_P (dC, dI) classes (aM0 cI cC cZ cB cJ a_x xI xH xB vI wY xX yA xY uD xO tJ jJ mY pG pD pE eO rG dN bD bJ aI pL qF jE eW eY dU fY gJ jG nU qB jK) H -> va_D A (aM0 cI cC cZ cB cJ a_x xI xH xB vI wY xX yA xY uD xO tJ jJ mY pG pD pE eO rG dN bD bJ aI pL qF jE eW eY dU fY gJ jG nU qB jK) -> va_S A s.heap H locs -> lv_has ls 4 [(0, .ref a_x), (2, .int x2), (3, .int x3)] -> W p l e rm_X9_allripe s m args below meth c H locs 0 0 (MQ below (q_X9_allripe dC dI cI cC cZ cB cJ A a_x xI xH xB vI wY xX yA xY uD xO tJ jJ mY pG pD pE eO rG dN bD bJ aI pL qF jE eW eY dU fY gJ jG nU post) args s 0 0 A) (F0 m 62 ls []) := by
  obtain ⟨hx, hb, hr, hml, hown, hts, hlocks, hA, hK, hN, tL, tM, hZL, hTL, hZM, hTM, hZX⟩ := id C0
  intro x2 x3 qB jK H locs ls hp hP hD hS hl
  unfold ws_X9_allripe_62 at hp
  refine lv_aload_n hx hb bBe.2.1 rfl (lv_at hl 0 rfl) ?_
  refine lv_iload_n hx hb bBe.2.2.1 rfl (lv_at hl 1 rfl) ?_
  have hm := mgk (wc := (aBh cI cC cZ cB cJ)) hP aRc 8 rfl rfl rfl
  refine yW hP hD hS hA (yS aRc) (aAi aRc) hm.1 hm.2 (aAk _) (zW _) (aDn (As := [.int x2]) (rest := [.ref a_x]) C0 hP hD hS (yS aRc) hm.1 (aAl _) (aBv l dC dI cI cC cZ cB cJ H.size x2 _ hp) q_320 q_474 q_322 q_321 aBw rfl rfl ⟨lbz rfl, lbz rfl⟩ rfl rfl hl.1 rfl (lv_room (lbz rfl)) bBe.2.2.2.1 ⟨Nat.zero_le _, Nat.zero_le _⟩) (fun r_4 u H locs hp hP hD hS => ?_)
  have hPD := PDm (ws' := (aM0 cI cC cZ cB cJ a_x xI xH xB vI wY xX yA xY uD xO tJ jJ mY pG pD pE eO rG dN bD bJ aI pL qF jE eW eY dU fY gJ jG nU qB jK)) hP hD 8 rfl rfl rfl
  have hP := hPD.1
  have hD := hPD.2
  refine lv_aload_n hx hb bBe.2.2.2.2.1 rfl (lv_at hl 0 rfl) ?_
  refine va_get (D := (dC, dI)) (ci := 9) (v := .ref xB) (C := RX9) (T := TX9) (N := 9) hx hb hts aC3 hown hK hP 0 rfl rfl 2 (lbz rfl) (hts _ q_146) (fun _ h9 => h9) rfl bBe.2.2.2.2.2.1 ?_
  refine lv_iload_n hx hb bBe.2.2.2.2.2.2.1 rfl (lv_at hl 1 rfl) ?_
  have hm := mgk (wc := (aT8 cI cC cZ cB cJ xB vI wY xO tJ jJ mY pG pD pE eO dN bD bJ aI pL jE eW eY dU fY gJ jG nU)) hP mk_182 8 rfl rfl rfl
  refine yW hP hD hS hA (yS mk_182) (aAi mk_182) hm.1 hm.2 (aAk _) (zW _) (zF (As := [.int x2]) (rest := [.int r_4, .ref a_x]) C0 hP hD hS (yS mk_182) hm.1 (aAl _) 1 0 rfl rfl (c_X0_worthOf l dC dI cI cC cZ cB cJ xB vI wY xO tJ jJ mY pG pD pE eO H.size x2 dN bD bJ aI pL jE eW eY dU fY gJ jG nU _ hp) q_297 q_417 q_298 q_299 q_187 h_X0_worthOf rfl rfl ⟨lbz rfl, lbz rfl⟩ rfl rfl hl.1 rfl (lv_room (lbz rfl)) bBe.2.2.2.2.2.2.2.1 ⟨Nat.zero_le _, Nat.zero_le _⟩) (fun r_5 u H locs hp hP hD hS => ?_)
  have hPD := PDm (ws' := (aM0 cI cC cZ cB cJ a_x xI xH xB vI wY xX yA xY uD xO tJ jJ mY pG pD pE eO rG dN bD bJ aI pL qF jE eW eY dU fY gJ jG nU qB jK)) hP hD 8 rfl rfl rfl
  have hP := hPD.1
  have hD := hPD.2
  have hm := mgk (wc := (aRW cI cC cZ cB cJ a_x xI xH xB vI wY xX yA xY uD rG qB jK)) hP aLf 8 rfl rfl rfl
  refine aBn hP hD hS hA (yS aLf) (aAi aLf) hm.1 hm.2 (aAk _) (zW _) (zF (As := [.int r_4, .int r_5]) (rest := []) C0 hP hD hS (yS aLf) hm.1 (aAl _) 0 9 rfl rfl (c_X9_tell_ l dC dI cI cC cZ cB cJ a_x xI xH xB vI wY xX yA xY uD rG H.size r_4 r_5 qB jK _ hp) q_377 q_380 q_378 q_379 aIl h_X9_tell_ rfl rfl ⟨lbz rfl, lbz rfl⟩ rfl rfl hl.1 rfl (lv_room (lbz rfl)) bBe.2.2.2.2.2.2.2.2.1 ⟨Nat.zero_le _, Nat.zero_le _⟩) (fun u H locs hp hP hD hS => ?_)
  obtain ⟨aKD, aF9⟩ := u
  have hPD := PDm (ws' := (aM0 cI cC cZ cB cJ a_x xI xH xB vI wY xX yA xY uD xO tJ jJ mY pG pD pE eO rG dN bD bJ aI pL qF jE eW eY dU fY gJ jG nU aKD aF9)) hP hD 8 rfl rfl rfl
  have hP := hPD.1
  have hD := hPD.2
  refine lv_iload_n hx hb bBe.2.2.2.2.2.2.2.2.2.1 rfl (lv_at hl 2 rfl) ?_
  exact W.iret (v := x3) hx hb hr (fun t ht hW => ⟨⟨x3, (aKD, aF9), rfl, hp, by rw [ht]; exact hP, va_K.moved hW.alike hK, hD⟩, hS.F ht⟩) hS.2.2 bBe.2.2.2.2.2.2.2.2.2.2
def ws_X9_allripe_35 (post : Int32 -> Int32 -> (Nat -> Int32) -> Prop) (next : Int32 -> Int32 -> Int32 -> Int32 -> (Nat -> Int32) -> Prop) (dN : Int32) (pL qF : Nat -> Int32) (jE eW eY dU jG x1 x2 x3 qB : Int32) (jK : Nat -> Int32) : Prop := (9 <= x3 -> ws_X9_allripe_62 post dN pL qF jE eW eY dU jG x2 x3 qB jK) /\ (¬ 9 <= x3 -> aZj (fun r_8 => ((x1 &&& (r_8 ^^^ (-1))) = 0 -> ws_X9_allripe_62 post dN pL qF jE eW eY dU jG x2 x3 qB jK) /\ (¬ (x1 &&& (r_8 ^^^ (-1))) = 0 -> ∀ v_9 : Int32, v_9 = x3 + 1 -> next x1 x2 v_9 qB jK)) x3 dN qF)
noncomputable def wb_X9_allripe_35 (post : Int32 -> Int32 -> (Nat -> Int32) -> Prop) (dN : Int32) (pL qF : Nat -> Int32) (jE eW eY dU jG : Int32) : Nat -> Int32 -> Int32 -> Int32 -> Int32 -> (Nat -> Int32) -> Prop := fun n => Nat.rec (motive := fun _ => Int32 -> Int32 -> Int32 -> Int32 -> (Nat -> Int32) -> Prop) (fun _ _ _ _ _ => False) (fun _ ih => ws_X9_allripe_35 post ih dN pL qF jE eW eY dU jG) n
set_option maxHeartbeats 4000000 in
set_option maxRecDepth 100000 in
theorem ks_X9_allripe_35 (C0 : gc aE4 (some .int) 4 RX9 (dC, dI) (tyl cI cC cZ cB cJ) A p s m args meth c) {next : Int32 -> Int32 -> Int32 -> Int32 -> (Nat -> Int32) -> Prop} (hKn : ∀ (x1 : Int32) (x2 : Int32) (x3 : Int32) (qB : Int32) (jK : Nat -> Int32) (H : Heap) (locs : List Loc) (ls : Array Slot), next x1 x2 x3 qB jK -> va_P (dC, dI) classes (aM0 cI cC cZ cB cJ a_x xI xH xB vI wY xX yA xY uD xO tJ jJ mY pG pD pE eO rG dN bD bJ aI pL qF jE eW eY dU fY gJ jG nU qB jK) H -> va_D A (aM0 cI cC cZ cB cJ a_x xI xH xB vI wY xX yA xY uD xO tJ jJ mY pG pD pE eO rG dN bD bJ aI pL qF jE eW eY dU fY gJ jG nU qB jK) -> va_S A s.heap H locs -> lv_has ls 4 [(0, .ref a_x), (1, .int x1), (2, .int x2), (3, .int x3)] -> W p l e rm_X9_allripe s m args below meth c H locs 0 0 (MQ below (q_X9_allripe dC dI cI cC cZ cB cJ A a_x xI xH xB vI wY xX yA xY uD xO tJ jJ mY pG pD pE eO rG dN bD bJ aI pL qF jE eW eY dU fY gJ jG nU post) args s 0 0 A) (F0 m 35 ls [])) : ∀ (x1 x2 x3 qB : Int32) (jK : Nat -> Int32) (H : Heap) (locs : List Loc) (ls : Array Slot), (ws_X9_allripe_35 post next dN pL qF jE eW eY dU jG) x1 x2 x3 qB jK -> va_P (dC, dI) classes (aM0 cI cC cZ cB cJ a_x xI xH xB vI wY xX yA xY uD xO tJ jJ mY pG pD pE eO rG dN bD bJ aI pL qF jE eW eY dU fY gJ jG nU qB jK) H -> va_D A (aM0 cI cC cZ cB cJ a_x xI xH xB vI wY xX yA xY uD xO tJ jJ mY pG pD pE eO rG dN bD bJ aI pL qF jE eW eY dU fY gJ jG nU qB jK) -> va_S A s.heap H locs -> lv_has ls 4 [(0, .ref a_x), (1, .int x1), (2, .int x2), (3, .int x3)] -> W p l e rm_X9_allripe s m args below meth c H locs 0 0 (MQ below (q_X9_allripe dC dI cI cC cZ cB cJ A a_x xI xH xB vI wY xX yA xY uD xO tJ jJ mY pG pD pE eO rG dN bD bJ aI pL qF jE eW eY dU fY gJ jG nU post) args s 0 0 A) (F0 m 35 ls []) := by
  obtain ⟨hx, hb, hr, hml, hown, hts, hlocks, hA, hK, hN, tL, tM, hZL, hTL, hZM, hTM, hZX⟩ := id C0
  intro x1 x2 x3 qB jK H locs ls hp hP hD hS hl
  unfold ws_X9_allripe_35 at hp
  refine lv_iload_n hx hb aQq.2.2.2.1 rfl (lv_at hl 3 rfl) ?_
  refine lv_bipush (v := 9) hx hb aQq.2.2.2.2.1 bp_9 ?_
  refine lv_icmp_ge (tgt := 62) hx hb aQq.2.2.2.2.2.1 (by decide) (fun hc => ?_) (fun hc => ?_)
  · have hp := hp.1 hc
    exact ks_X9_allripe_62 C0 x2 x3 qB jK H locs ls hp hP hD hS (lv_sub hl [0, 2, 3] rfl)
  · have hp := hp.2 hc
    refine lv_iload_n hx hb aQq.2.2.2.2.2.2.1 rfl (lv_at hl 1 rfl) ?_
    refine lv_aload_n hx hb aQq.2.2.2.2.2.2.2.1 rfl (lv_at hl 0 rfl) ?_
    refine va_get (D := (dC, dI)) (ci := 9) (v := .ref vI) (C := RX9) (T := TX9) (N := 9) hx hb hts aC3 hown hK hP 0 rfl rfl 3 (lbz rfl) (hts _ q_74) (fun _ h9 => h9) rfl aQq.2.2.2.2.2.2.2.2.1 ?_
    refine lv_iload_n hx hb aQq.2.2.2.2.2.2.2.2.2.1 rfl (lv_at hl 3 rfl) ?_
    have hm := mgk (wc := (aLw cI cC cZ cB cJ vI tJ jJ mY pG pD pE eO dN bD bJ aI qF)) hP mk_184 8 rfl rfl rfl
    refine yW hP hD hS hA (yS mk_184) (aAi mk_184) hm.1 hm.2 (aAk _) (zW _) (zF (As := [.int x3]) (rest := [.int x1]) C0 hP hD hS (yS mk_184) hm.1 (aAl _) 2 3 rfl rfl (c_X3_ripeBy l dC dI cI cC cZ cB cJ vI tJ jJ mY pG pD pE eO H.size x3 dN bD bJ aI qF _ hp) q_343 q_544 q_344 q_345 q_48 h_X3_ripeBy rfl rfl ⟨lbz rfl, lbz rfl⟩ rfl rfl hl.1 rfl (lv_room (lbz rfl)) aQq.2.2.2.2.2.2.2.2.2.2.1 ⟨Nat.zero_le _, Nat.zero_le _⟩) (fun r_8 u H locs hp hP hD hS => ?_)
    have hPD := PDm (ws' := (aM0 cI cC cZ cB cJ a_x xI xH xB vI wY xX yA xY uD xO tJ jJ mY pG pD pE eO rG dN bD bJ aI pL qF jE eW eY dU fY gJ jG nU qB jK)) hP hD 8 rfl rfl rfl
    have hP := hPD.1
    have hD := hPD.2
    refine lv_iconst (v := (-1)) hx hb aQq.2.2.2.2.2.2.2.2.2.2.2.1 aEJ ?_
    refine lv_ixor hx hb aQq.2.2.2.2.2.2.2.2.2.2.2.2.1 ?_
    refine lv_iand hx hb aQq.2.2.2.2.2.2.2.2.2.2.2.2.2.1 ?_
    refine lv_if_eq (tgt := 62) hx hb aQq.2.2.2.2.2.2.2.2.2.2.2.2.2.2.1 (by decide) (fun hc => ?_) (fun hc => ?_)
    · have hp := hp.1 hc
      exact ks_X9_allripe_62 C0 x2 x3 qB jK H locs ls hp hP hD hS (lv_sub hl [0, 2, 3] rfl)
    · have hp := hp.2 hc
      obtain ⟨v_9, ev_9⟩ : ∃ y : Int32, y = x3 + 1 := ⟨_, rfl⟩
      refine lv_iinc (v := v_9) (lv' := [(3, .int v_9), (0, .ref a_x), (1, .int x1), (2, .int x2)]) hx hb aQq.2.2.2.2.2.2.2.2.2.2.2.2.2.2.2 hl (k := 3) rfl (by rw [ev_9]; rfl) (by decide) rfl (fun ls hl => ?_)
      have hp := hp v_9 ev_9
      refine lv_goto (tgt := 35) hx hb bBe.1 (by decide) ?_
      exact hKn x1 x2 v_9 qB jK H locs ls hp hP hD hS (lv_sub hl [1, 2, 3, 0] rfl)
set_option maxHeartbeats 4000000 in
set_option maxRecDepth 100000 in
theorem kb_X9_allripe_35 (C0 : gc aE4 (some .int) 4 RX9 (dC, dI) (tyl cI cC cZ cB cJ) A p s m args meth c) : ∀ (n : Nat), ∀ (x1 x2 x3 qB : Int32) (jK : Nat -> Int32) (H : Heap) (locs : List Loc) (ls : Array Slot), (wb_X9_allripe_35 post dN pL qF jE eW eY dU jG n) x1 x2 x3 qB jK -> va_P (dC, dI) classes (aM0 cI cC cZ cB cJ a_x xI xH xB vI wY xX yA xY uD xO tJ jJ mY pG pD pE eO rG dN bD bJ aI pL qF jE eW eY dU fY gJ jG nU qB jK) H -> va_D A (aM0 cI cC cZ cB cJ a_x xI xH xB vI wY xX yA xY uD xO tJ jJ mY pG pD pE eO rG dN bD bJ aI pL qF jE eW eY dU fY gJ jG nU qB jK) -> va_S A s.heap H locs -> lv_has ls 4 [(0, .ref a_x), (1, .int x1), (2, .int x2), (3, .int x3)] -> W p l e rm_X9_allripe s m args below meth c H locs 0 0 (MQ below (q_X9_allripe dC dI cI cC cZ cB cJ A a_x xI xH xB vI wY xX yA xY uD xO tJ jJ mY pG pD pE eO rG dN bD bJ aI pL qF jE eW eY dU fY gJ jG nU post) args s 0 0 A) (F0 m 35 ls []) := by
  intro n
  induction n with
  | zero =>
    intro x1 x2 x3 qB jK H locs ls hp
    exact False.elim hp
  | succ n ih =>
    intro x1 x2 x3 qB jK H locs ls hp
    exact ks_X9_allripe_35 C0 ih x1 x2 x3 qB jK H locs ls hp
end S_X9_allripe
def wp_X9_allripe (post : Int32 -> Int32 -> (Nat -> Int32) -> Prop) (dN : Int32) (pL qF : Nat -> Int32) (jE eW eY dU jG qB : Int32) (jK : Nat -> Int32) : Prop := aOu (fun r_1 => aZj (fun r_2 => ∀ v_3 : Int32, v_3 = r_1 &&& (r_2 ^^^ (-1)) -> ∃ n : Nat, wb_X9_allripe_35 post dN pL qF jE eW eY dU jG n r_1 v_3 jG qB jK) jG dN qF) dN jE eW eY
set_option maxHeartbeats 4000000 in
set_option maxRecDepth 100000 in
theorem c_X9_allripe (l : Launch) (dC : Nat -> ClassId) (dI : Nat -> Nat -> Nat) (cI cC cZ cB cJ : ClassId) (a_x xI xH xB vI wY xX yA xY uD xO tJ jJ mY pG pD pE eO rG sz : Nat) (dN bD bJ aI : Int32) (pL qF : Nat -> Int32) (jE eW eY dU fY gJ jG nU qB : Int32) (jK : Nat -> Int32) (post : Int32 -> Int32 -> (Nat -> Int32) -> Prop) (hw : wp_X9_allripe post dN pL qF jE eW eY dU jG qB jK) : Met l yX9_allripe (gw yX9_allripe aE4 4 (some .int)) rm_X9_allripe (va_Pc [.ref a_x] (gPre (dC, dI) (tyl cI cC cZ cB cJ) (aM0 cI cC cZ cB cJ a_x xI xH xB vI wY xX yA xY uD xO tJ jJ mY pG pD pE eO rG dN bD bJ aI pL qF jE eW eY dU fY gJ jG nU qB jK) sz)) (q_X9_allripe dC dI cI cC cZ cB cJ (va_A (aM0 cI cC cZ cB cJ a_x xI xH xB vI wY xX yA xY uD xO tJ jJ mY pG pD pE eO rG dN bD bJ aI pL qF jE eW eY dU fY gJ jG nU qB jK) sz) a_x xI xH xB vI wY xX yA xY uD xO tJ jJ mY pG pD pE eO rG dN bD bJ aI pL qF jE eW eY dU fY gJ jG nU post) 0 0 (va_A (aM0 cI cC cZ cB cJ a_x xI xH xB vI wY xX yA xY uD xO tJ jJ mY pG pD pE eO rG dN bD bJ aI pL qF jE eW eY dU fY gJ jG nU qB jK) sz) := by
  refine aBJ (own := RX9) (dC, dI) (tyl cI cC cZ cB cJ) (aM0 cI cC cZ cB cJ a_x xI xH xB vI wY xX yA xY uD xO tJ jJ mY pG pD pE eO rG dN bD bJ aI pL qF jE eW eY dU fY gJ jG nU qB jK) sz [.ref a_x] (fun A => q_X9_allripe dC dI cI cC cZ cB cJ A a_x xI xH xB vI wY xX yA xY uD xO tJ jJ mY pG pD pE eO rG dN bD bJ aI pL qF jE eW eY dU fY gJ jG nU post) pn_RX9 rfl (lbz rfl) ?_
  intro p e s m args below meth c A H locs ls C0 hP hD hS hl
  have hl : lv_has ls 4 [(0, .ref a_x)] := hl
  obtain ⟨hx, hb, hr, hml, hown, hts, hlocks, hA, hK, hN, tL, tM, hZL, hTL, hZM, hTM, hZX⟩ := id C0
  have hp := hw
  unfold wp_X9_allripe at hp
  refine lv_aload_n hx hb aTg.1 rfl (lv_at hl 0 rfl) ?_
  refine va_get (D := (dC, dI)) (ci := 9) (v := .ref xB) (C := RX9) (T := TX9) (N := 9) hx hb hts aC3 hown hK hP 0 rfl rfl 2 (lbz rfl) (hts _ q_146) (fun _ h9 => h9) rfl aTg.2.1 ?_
  have hm := mgk (wc := (aOf cI cC cZ cB cJ xB vI wY xO tJ jJ mY pG pD pE eO dN bD bJ aI jE eW eY dU fY gJ jG nU)) hP mk_185 8 rfl rfl rfl
  refine yW hP hD hS hA (yS mk_185) (aAi mk_185) hm.1 hm.2 (aAk _) (zW _) (zF (As := []) (rest := []) C0 hP hD hS (yS mk_185) hm.1 (aAl _) 1 0 rfl rfl (c_X0_hanging l dC dI cI cC cZ cB cJ xB vI wY xO tJ jJ mY pG pD pE eO H.size dN bD bJ aI jE eW eY dU fY gJ jG nU _ hp) q_186 q_190 q_188 q_189 q_187 h_X0_hanging rfl rfl ⟨lbz rfl, lbz rfl⟩ rfl rfl hl.1 rfl (lv_room (lbz rfl)) aTg.2.2.1 ⟨Nat.zero_le _, Nat.zero_le _⟩) (fun r_1 u H locs hp hP hD hS => ?_)
  have hPD := PDm (ws' := (aM0 cI cC cZ cB cJ a_x xI xH xB vI wY xX yA xY uD xO tJ jJ mY pG pD pE eO rG dN bD bJ aI pL qF jE eW eY dU fY gJ jG nU qB jK)) hP hD 8 rfl rfl rfl
  have hP := hPD.1
  have hD := hPD.2
  refine lv_istore_n (lv' := [(1, .int r_1), (0, .ref a_x)]) hx hb aTg.2.2.2.1 rfl hl (by decide) rfl (fun ls hl => ?_)
  refine lv_iload_n hx hb aTg.2.2.2.2.1 rfl (lv_at hl 0 rfl) ?_
  refine lv_aload_n hx hb aTg.2.2.2.2.2.1 rfl (lv_at hl 1 rfl) ?_
  refine va_get (D := (dC, dI)) (ci := 9) (v := .ref vI) (C := RX9) (T := TX9) (N := 9) hx hb hts aC3 hown hK hP 0 rfl rfl 3 (lbz rfl) (hts _ q_74) (fun _ h9 => h9) rfl aTg.2.2.2.2.2.2.1 ?_
  refine lv_aload_n hx hb aTg.2.2.2.2.2.2.2.1 rfl (lv_at hl 1 rfl) ?_
  refine va_get (D := (dC, dI)) (ci := 9) (v := .ref wY) (C := RX9) (T := TX9) (N := 9) hx hb hts aC3 hown hK hP 0 rfl rfl 4 (lbz rfl) (hts _ q_179) (fun _ h9 => h9) rfl aTg.2.2.2.2.2.2.2.2.1 ?_
  refine va_get (D := (dC, dI)) (ci := 2) (v := .int jG) (C := RX2) (T := TX2) (N := 8) hx hb hts i_X2 hown hK hP 5 rfl rfl 6 (lbz rfl) (hts _ q_542) (fun _ h9 => h9) rfl aTg.2.2.2.2.2.2.2.2.2.1 ?_
  have hm := mgk (wc := (aLw cI cC cZ cB cJ vI tJ jJ mY pG pD pE eO dN bD bJ aI qF)) hP mk_184 8 rfl rfl rfl
  refine yW hP hD hS hA (yS mk_184) (aAi mk_184) hm.1 hm.2 (aAk _) (zW _) (zF (As := [.int jG]) (rest := [.int r_1]) C0 hP hD hS (yS mk_184) hm.1 (aAl _) 2 3 rfl rfl (c_X3_ripeBy l dC dI cI cC cZ cB cJ vI tJ jJ mY pG pD pE eO H.size jG dN bD bJ aI qF _ hp) q_343 q_544 q_344 q_345 q_48 h_X3_ripeBy rfl rfl ⟨lbz rfl, lbz rfl⟩ rfl rfl hl.1 rfl (lv_room (lbz rfl)) aTg.2.2.2.2.2.2.2.2.2.2.1 ⟨Nat.zero_le _, Nat.zero_le _⟩) (fun r_2 u H locs hp hP hD hS => ?_)
  have hPD := PDm (ws' := (aM0 cI cC cZ cB cJ a_x xI xH xB vI wY xX yA xY uD xO tJ jJ mY pG pD pE eO rG dN bD bJ aI pL qF jE eW eY dU fY gJ jG nU qB jK)) hP hD 8 rfl rfl rfl
  have hP := hPD.1
  have hD := hPD.2
  refine lv_iconst (v := (-1)) hx hb aTg.2.2.2.2.2.2.2.2.2.2.2.1 aEJ ?_
  refine lv_ixor hx hb aTg.2.2.2.2.2.2.2.2.2.2.2.2.1 ?_
  refine lv_iand hx hb aTg.2.2.2.2.2.2.2.2.2.2.2.2.2.1 ?_
  refine lv_topi (fun v_3 aGW => ?_)
  have hp := hp v_3 aGW
  refine lv_istore_n (lv' := [(2, .int v_3), (1, .int r_1), (0, .ref a_x)]) hx hb aTg.2.2.2.2.2.2.2.2.2.2.2.2.2.2.1 rfl hl (by decide) rfl (fun ls hl => ?_)
  refine lv_aload_n hx hb aTg.2.2.2.2.2.2.2.2.2.2.2.2.2.2.2 rfl (lv_at hl 2 rfl) ?_
  refine va_get (D := (dC, dI)) (ci := 9) (v := .ref wY) (C := RX9) (T := TX9) (N := 9) hx hb hts aC3 hown hK hP 0 rfl rfl 4 (lbz rfl) (hts _ q_179) (fun _ h9 => h9) rfl aQq.1 ?_
  refine va_get (D := (dC, dI)) (ci := 2) (v := .int jG) (C := RX2) (T := TX2) (N := 8) hx hb hts i_X2 hown hK hP 5 rfl rfl 6 (lbz rfl) (hts _ q_542) (fun _ h9 => h9) rfl aQq.2.1 ?_
  refine lv_istore_n (lv' := [(3, .int jG), (2, .int v_3), (1, .int r_1), (0, .ref a_x)]) hx hb aQq.2.2.1 rfl hl (by decide) rfl (fun ls hl => ?_)
  obtain ⟨n9, hp⟩ := hp
  exact kb_X9_allripe_35 C0 n9 r_1 v_3 jG qB jK H locs ls hp hP hD hS (lv_sub hl [3, 2, 1, 0] rfl)
abbrev aJ3 (cI cC cZ cB cJ : ClassId) (vI tJ jJ mY pG pD pE eO : Nat) (dN bD bJ aI : Int32) (mX : Nat -> Int32) : va_W := [(vI, .inr (3, [.ref tJ, .ref jJ, .ref mY, .ref pG, .ref pD, .ref pE, .ref eO, .int dN, .int bD, .int bJ, .int aI])), (pD, .inl (cI, 8, .inl mX))]
abbrev q_X3_standingsAt (dC : Nat -> ClassId) (dI : Nat -> Nat -> Nat) (cI cC cZ cB cJ : ClassId) (A : Nat -> Prop) (vI tJ jJ mY pG pD pE eO : Nat) (dN bD bJ aI : Int32) (mX : Nat -> Int32) (post : Int32 -> Prop) : Array Value -> State -> Outcome -> State -> Prop := va_Qi (fun (r : Int32) (u : Unit) => post r) (fun u t => gB (dC, dI) (tyl cI cC cZ cB cJ) A (aJ3 cI cC cZ cB cJ vI tJ jJ mY pG pD pE eO dN bD bJ aI mX) t) A
abbrev rm_X3_standingsAt : Room := { frames := 1, cells := 0, slots := 0, locals := 21 }
section S_X3_standingsAt
variable {p : Program} {l : Launch} {e : Env} {s : State} {m : MethodId} {args : Array Value} {below : List Frame} {meth : Method} {c : Code} {dC : Nat -> ClassId} {dI : Nat -> Nat -> Nat} {cI cC cZ cB cJ : ClassId} {A : Nat -> Prop} {vI tJ jJ mY pG pD pE eO : Nat} {dN bD bJ aI : Int32} {mX : Nat -> Int32} {post : Int32 -> Prop}
def bBx (post : Int32 -> Prop) (K5 : Int32 -> Int32 -> Int32 -> Int32 -> Prop) (bD : Int32) (mX : Nat -> Int32) (x1 x2 x3 x4 : Int32) : Prop := ∀ v_4 : Int32, v_4 = x4 + 1 -> K5 x1 x2 x3 v_4
set_option maxHeartbeats 4000000 in
set_option maxRecDepth 100000 in
theorem ks_X3_standingsAt_37 (C0 : gc aFE (some .int) 5 RX3 (dC, dI) (tyl cI cC cZ cB cJ) A p s m args meth c) {K5 : Int32 -> Int32 -> Int32 -> Int32 -> Prop} (hK5 : ∀ (x1 : Int32) (x2 : Int32) (x3 : Int32) (x4 : Int32) (H : Heap) (locs : List Loc) (ls : Array Slot), K5 x1 x2 x3 x4 -> va_P (dC, dI) classes (aJ3 cI cC cZ cB cJ vI tJ jJ mY pG pD pE eO dN bD bJ aI mX) H -> va_D A (aJ3 cI cC cZ cB cJ vI tJ jJ mY pG pD pE eO dN bD bJ aI mX) -> va_S A s.heap H locs -> lv_has ls 5 [(0, .ref vI), (1, .int x1), (2, .int x2), (3, .int x3), (4, .int x4)] -> W p l e rm_X3_standingsAt s m args below meth c H locs 0 0 (MQ below (q_X3_standingsAt dC dI cI cC cZ cB cJ A vI tJ jJ mY pG pD pE eO dN bD bJ aI mX post) args s 0 0 A) (F0 m 5 ls [])) : ∀ (x1 x2 x3 x4 : Int32) (H : Heap) (locs : List Loc) (ls : Array Slot), (bBx post K5 bD mX) x1 x2 x3 x4 -> va_P (dC, dI) classes (aJ3 cI cC cZ cB cJ vI tJ jJ mY pG pD pE eO dN bD bJ aI mX) H -> va_D A (aJ3 cI cC cZ cB cJ vI tJ jJ mY pG pD pE eO dN bD bJ aI mX) -> va_S A s.heap H locs -> lv_has ls 5 [(0, .ref vI), (1, .int x1), (2, .int x2), (3, .int x3), (4, .int x4)] -> W p l e rm_X3_standingsAt s m args below meth c H locs 0 0 (MQ below (q_X3_standingsAt dC dI cI cC cZ cB cJ A vI tJ jJ mY pG pD pE eO dN bD bJ aI mX post) args s 0 0 A) (F0 m 37 ls []) := by
  obtain ⟨hx, hb, hr, hml, hown, hts, hlocks, hA, hK, hN, tL, tM, hZL, hTL, hZM, hTM, hZX⟩ := id C0
  intro x1 x2 x3 x4 H locs ls hp hP hD hS hl
  unfold bBx at hp
  obtain ⟨v_4, aHM⟩ : ∃ y : Int32, y = x4 + 1 := ⟨_, rfl⟩
  refine lv_iinc (v := v_4) (lv' := [(4, .int v_4), (0, .ref vI), (1, .int x1), (2, .int x2), (3, .int x3)]) hx hb aRv.2.2.2.2.2.2.2.1 hl (k := 4) rfl (by rw [aHM]; rfl) (by decide) rfl (fun ls hl => ?_)
  have hp := hp v_4 aHM
  refine lv_goto (tgt := 5) hx hb aRv.2.2.2.2.2.2.2.2.1 (by decide) ?_
  exact hK5 x1 x2 x3 v_4 H locs ls hp hP hD hS (lv_sub hl [1, 2, 3, 4, 0] rfl)
def ws_X3_standingsAt_5 (post : Int32 -> Prop) (next : Int32 -> Int32 -> Int32 -> Int32 -> Prop) (bD : Int32) (mX : Nat -> Int32) (x1 x2 x3 x4 : Int32) : Prop := (bD <= x4 -> post x3) /\ (¬ bD <= x4 -> vp_in x4 8 /\ (∀ v_1 : Int32, v_1 = mX x4.toNatClampNeg -> ∀ v_2 : Int32, v_2 = v_1 - x1 -> ∀ v_3 : Int32, v_3 = (if 0 <= v_2 then v_2 else 0 - v_2) -> (x2 < v_3 -> bBx post next bD mX x1 x2 x3 x4) /\ (¬ x2 < v_3 -> ∀ v_5 : Int32, v_5 = x3 ||| (1 <<< (x4 &&& 31)) -> bBx post next bD mX x1 x2 v_5 x4)))
noncomputable def wb_X3_standingsAt_5 (post : Int32 -> Prop) (bD : Int32) (mX : Nat -> Int32) : Nat -> Int32 -> Int32 -> Int32 -> Int32 -> Prop := fun n => Nat.rec (motive := fun _ => Int32 -> Int32 -> Int32 -> Int32 -> Prop) (fun _ _ _ _ => False) (fun _ ih => ws_X3_standingsAt_5 post ih bD mX) n
set_option maxHeartbeats 4000000 in
set_option maxRecDepth 100000 in
theorem ks_X3_standingsAt_5 (C0 : gc aFE (some .int) 5 RX3 (dC, dI) (tyl cI cC cZ cB cJ) A p s m args meth c) {next : Int32 -> Int32 -> Int32 -> Int32 -> Prop} (hKn : ∀ (x1 : Int32) (x2 : Int32) (x3 : Int32) (x4 : Int32) (H : Heap) (locs : List Loc) (ls : Array Slot), next x1 x2 x3 x4 -> va_P (dC, dI) classes (aJ3 cI cC cZ cB cJ vI tJ jJ mY pG pD pE eO dN bD bJ aI mX) H -> va_D A (aJ3 cI cC cZ cB cJ vI tJ jJ mY pG pD pE eO dN bD bJ aI mX) -> va_S A s.heap H locs -> lv_has ls 5 [(0, .ref vI), (1, .int x1), (2, .int x2), (3, .int x3), (4, .int x4)] -> W p l e rm_X3_standingsAt s m args below meth c H locs 0 0 (MQ below (q_X3_standingsAt dC dI cI cC cZ cB cJ A vI tJ jJ mY pG pD pE eO dN bD bJ aI mX post) args s 0 0 A) (F0 m 5 ls [])) : ∀ (x1 x2 x3 x4 : Int32) (H : Heap) (locs : List Loc) (ls : Array Slot), (ws_X3_standingsAt_5 post next bD mX) x1 x2 x3 x4 -> va_P (dC, dI) classes (aJ3 cI cC cZ cB cJ vI tJ jJ mY pG pD pE eO dN bD bJ aI mX) H -> va_D A (aJ3 cI cC cZ cB cJ vI tJ jJ mY pG pD pE eO dN bD bJ aI mX) -> va_S A s.heap H locs -> lv_has ls 5 [(0, .ref vI), (1, .int x1), (2, .int x2), (3, .int x3), (4, .int x4)] -> W p l e rm_X3_standingsAt s m args below meth c H locs 0 0 (MQ below (q_X3_standingsAt dC dI cI cC cZ cB cJ A vI tJ jJ mY pG pD pE eO dN bD bJ aI mX post) args s 0 0 A) (F0 m 5 ls []) := by
  obtain ⟨hx, hb, hr, hml, hown, hts, hlocks, hA, hK, hN, tL, tM, hZL, hTL, hZM, hTM, hZX⟩ := id C0
  intro x1 x2 x3 x4 H locs ls hp hP hD hS hl
  unfold ws_X3_standingsAt_5 at hp
  refine lv_iload hx hb aKv.2.2.2.2.1 (lv_at hl 4 rfl) ?_
  refine lv_aload_n hx hb aKv.2.2.2.2.2.1 rfl (lv_at hl 0 rfl) ?_
  refine va_get (D := (dC, dI)) (ci := 3) (v := .int bD) (C := RX3) (T := TX3) (N := 11) hx hb hts i_X3 hown hK hP 0 rfl rfl 8 (lbz rfl) (hts _ q_22) (fun _ h9 => h9) rfl aKv.2.2.2.2.2.2.1 ?_
  refine lv_icmp_ge (tgt := 43) hx hb aKv.2.2.2.2.2.2.2.1 (by decide) (fun hc => ?_) (fun hc => ?_)
  · have hp := hp.1 hc
    refine lv_iload_n hx hb aRv.2.2.2.2.2.2.2.2.2.1 rfl (lv_at hl 3 rfl) ?_
    exact W.iret (v := x3) hx hb hr (fun t ht hW => ⟨⟨x3, (), rfl, hp, by rw [ht]; exact hP, va_K.moved hW.alike hK, hD⟩, hS.F ht⟩) hS.2.2 aRv.2.2.2.2.2.2.2.2.2.2
  · have hp := hp.2 hc
    refine lv_aload_n hx hb aKv.2.2.2.2.2.2.2.2.1 rfl (lv_at hl 0 rfl) ?_
    refine va_get (D := (dC, dI)) (ci := 3) (v := .ref pD) (C := RX3) (T := TX3) (N := 11) hx hb hts i_X3 hown hK hP 0 rfl rfl 4 (lbz rfl) (hts _ q_53) (fun _ h9 => h9) rfl aKv.2.2.2.2.2.2.2.2.2.1 ?_
    refine lv_iload hx hb aKv.2.2.2.2.2.2.2.2.2.2.1 (lv_at hl 4 rfl) ?_
    have hin := hp.1
    have hp := hp.2
    refine va_iald hx hb hK hP 1 0 rfl rfl hin aKv.2.2.2.2.2.2.2.2.2.2.2.1 ?_
    refine lv_topi (fun v_1 aFJ => ?_)
    have hp := hp v_1 aFJ
    refine lv_iload_n hx hb aKv.2.2.2.2.2.2.2.2.2.2.2.2.1 rfl (lv_at hl 1 rfl) ?_
    refine lv_isub hx hb aKv.2.2.2.2.2.2.2.2.2.2.2.2.2.1 ?_
    refine lv_topi (fun v_2 aGO => ?_)
    have hp := hp v_2 aGO
    refine va_mabs hx hb (by rw [hml]; exact hl.1.symm) hown (hts _ q_165) (hts _ q_166) (hts _ q_16) (hts _ q_167) (lbz rfl) (lbz rfl) (Nat.zero_le _) (Nat.zero_le _) aKv.2.2.2.2.2.2.2.2.2.2.2.2.2.2.1 ?_
    refine lv_topi (fun v_3 aGW => ?_)
    have hp := hp v_3 aGW
    refine lv_iload_n hx hb aKv.2.2.2.2.2.2.2.2.2.2.2.2.2.2.2 rfl (lv_at hl 2 rfl) ?_
    refine lv_icmp_gt (tgt := 37) hx hb aRv.1 (by decide) (fun hc => ?_) (fun hc => ?_)
    · have hp := hp.1 hc
      exact ks_X3_standingsAt_37 C0 hKn x1 x2 x3 x4 H locs ls hp hP hD hS (lv_sub hl [0, 1, 2, 3, 4] rfl)
    · have hp := hp.2 hc
      refine lv_iload_n hx hb aRv.2.1 rfl (lv_at hl 3 rfl) ?_
      refine lv_iconst (v := 1) hx hb aRv.2.2.1 aDx ?_
      refine lv_iload hx hb aRv.2.2.2.1 (lv_at hl 4 rfl) ?_
      refine lv_ishl hx hb aRv.2.2.2.2.1 ?_
      refine lv_ior hx hb aRv.2.2.2.2.2.1 ?_
      refine lv_topi (fun v_5 aJD => ?_)
      have hp := hp v_5 aJD
      refine lv_istore_n (lv' := [(3, .int v_5), (0, .ref vI), (1, .int x1), (2, .int x2), (4, .int x4)]) hx hb aRv.2.2.2.2.2.2.1 rfl hl (by decide) rfl (fun ls hl => ?_)
      exact ks_X3_standingsAt_37 C0 hKn x1 x2 v_5 x4 H locs ls hp hP hD hS (lv_sub hl [1, 2, 3, 0, 4] rfl)
set_option maxHeartbeats 4000000 in
set_option maxRecDepth 100000 in
theorem kb_X3_standingsAt_5 (C0 : gc aFE (some .int) 5 RX3 (dC, dI) (tyl cI cC cZ cB cJ) A p s m args meth c) : ∀ (n : Nat), ∀ (x1 x2 x3 x4 : Int32) (H : Heap) (locs : List Loc) (ls : Array Slot), (wb_X3_standingsAt_5 post bD mX n) x1 x2 x3 x4 -> va_P (dC, dI) classes (aJ3 cI cC cZ cB cJ vI tJ jJ mY pG pD pE eO dN bD bJ aI mX) H -> va_D A (aJ3 cI cC cZ cB cJ vI tJ jJ mY pG pD pE eO dN bD bJ aI mX) -> va_S A s.heap H locs -> lv_has ls 5 [(0, .ref vI), (1, .int x1), (2, .int x2), (3, .int x3), (4, .int x4)] -> W p l e rm_X3_standingsAt s m args below meth c H locs 0 0 (MQ below (q_X3_standingsAt dC dI cI cC cZ cB cJ A vI tJ jJ mY pG pD pE eO dN bD bJ aI mX post) args s 0 0 A) (F0 m 5 ls []) := by
  intro n
  induction n with
  | zero =>
    intro x1 x2 x3 x4 H locs ls hp
    exact False.elim hp
  | succ n ih =>
    intro x1 x2 x3 x4 H locs ls hp
    exact ks_X3_standingsAt_5 C0 ih x1 x2 x3 x4 H locs ls hp
end S_X3_standingsAt
def bBR (post : Int32 -> Prop) (p0 p1 bD : Int32) (mX : Nat -> Int32) : Prop := ∃ n : Nat, wb_X3_standingsAt_5 post bD mX n p0 p1 0 0
set_option maxHeartbeats 4000000 in
set_option maxRecDepth 100000 in
theorem c_X3_standingsAt (l : Launch) (dC : Nat -> ClassId) (dI : Nat -> Nat -> Nat) (cI cC cZ cB cJ : ClassId) (vI tJ jJ mY pG pD pE eO sz : Nat) (p0 p1 dN bD bJ aI : Int32) (mX : Nat -> Int32) (post : Int32 -> Prop) (hw : bBR post p0 p1 bD mX) : Met l aZI (gw aZI aFE 5 (some .int)) rm_X3_standingsAt (va_Pc [.ref vI, .int p0, .int p1] (gPre (dC, dI) (tyl cI cC cZ cB cJ) (aJ3 cI cC cZ cB cJ vI tJ jJ mY pG pD pE eO dN bD bJ aI mX) sz)) (q_X3_standingsAt dC dI cI cC cZ cB cJ (va_A (aJ3 cI cC cZ cB cJ vI tJ jJ mY pG pD pE eO dN bD bJ aI mX) sz) vI tJ jJ mY pG pD pE eO dN bD bJ aI mX post) 0 0 (va_A (aJ3 cI cC cZ cB cJ vI tJ jJ mY pG pD pE eO dN bD bJ aI mX) sz) := by
  refine aBJ (own := RX3) (dC, dI) (tyl cI cC cZ cB cJ) (aJ3 cI cC cZ cB cJ vI tJ jJ mY pG pD pE eO dN bD bJ aI mX) sz [.ref vI, .int p0, .int p1] (fun A => q_X3_standingsAt dC dI cI cC cZ cB cJ A vI tJ jJ mY pG pD pE eO dN bD bJ aI mX post) pn_RX3 rfl (lbz rfl) ?_
  intro p e s m args below meth c A H locs ls C0 hP hD hS hl
  have hl : lv_has ls 5 [(0, .ref vI), (1, .int p0), (2, .int p1)] := hl
  obtain ⟨hx, hb, hr, hml, hown, hts, hlocks, hA, hK, hN, tL, tM, hZL, hTL, hZM, hTM, hZX⟩ := id C0
  have hp := hw
  unfold bBR at hp
  refine lv_iconst (v := 0) hx hb aKv.1 aCi ?_
  refine lv_istore_n (lv' := [(3, .int 0), (0, .ref vI), (1, .int p0), (2, .int p1)]) hx hb aKv.2.1 rfl hl (by decide) rfl (fun ls hl => ?_)
  refine lv_iconst (v := 0) hx hb aKv.2.2.1 aCi ?_
  refine lv_istore (lv' := [(4, .int 0), (3, .int 0), (0, .ref vI), (1, .int p0), (2, .int p1)]) hx hb aKv.2.2.2.1 hl (by decide) rfl (fun ls hl => ?_)
  obtain ⟨n9, hp⟩ := hp
  exact kb_X3_standingsAt_5 C0 n9 p0 p1 0 0 H locs ls hp hP hD hS (lv_sub hl [2, 3, 4, 1, 0] rfl)
abbrev wd_X9_marks (cI cC cZ cB cJ : ClassId) (a_x xI xH xB vI wY xX yA xY uD tJ jJ mY pG pD pE eO : Nat) (dN bD bJ aI : Int32) (mX : Nat -> Int32) : va_W := [(a_x, .inr (9, [.ref xI, .ref xH, .ref xB, .ref vI, .ref wY, .ref xX, .ref yA, .ref xY, .ref uD])), (vI, .inr (3, [.ref tJ, .ref jJ, .ref mY, .ref pG, .ref pD, .ref pE, .ref eO, .int dN, .int bD, .int bJ, .int aI])), (pD, .inl (cI, 8, .inl mX))]
abbrev q_X9_marks (dC : Nat -> ClassId) (dI : Nat -> Nat -> Nat) (cI cC cZ cB cJ : ClassId) (A : Nat -> Prop) (a_x xI xH xB vI wY xX yA xY uD tJ jJ mY pG pD pE eO : Nat) (dN bD bJ aI : Int32) (mX : Nat -> Int32) (post : Int32 -> Prop) : Array Value -> State -> Outcome -> State -> Prop := va_Qi (fun (r : Int32) (u : Unit) => post r) (fun u t => gB (dC, dI) (tyl cI cC cZ cB cJ) A (wd_X9_marks cI cC cZ cB cJ a_x xI xH xB vI wY xX yA xY uD tJ jJ mY pG pD pE eO dN bD bJ aI mX) t) A
abbrev rm_X9_marks : Room := { frames := 2, cells := 0, slots := 0, locals := 45 }
def wp_X9_marks (post : Int32 -> Prop) (p0 p1 bD : Int32) (mX : Nat -> Int32) : Prop := (p0 < 0 -> post (-1)) /\ (¬ p0 < 0 -> (99 < p0 -> post (-1)) /\ (¬ 99 < p0 -> (p1 < 0 -> post (-1)) /\ (¬ p1 < 0 -> (p1 <= 99 -> bBR (fun r_1 => post r_1) p0 p1 bD mX) /\ (¬ p1 <= 99 -> post (-1)))))
set_option maxHeartbeats 4000000 in
set_option maxRecDepth 100000 in
theorem c_X9_marks (l : Launch) (dC : Nat -> ClassId) (dI : Nat -> Nat -> Nat) (cI cC cZ cB cJ : ClassId) (a_x xI xH xB vI wY xX yA xY uD tJ jJ mY pG pD pE eO sz : Nat) (p0 p1 dN bD bJ aI : Int32) (mX : Nat -> Int32) (post : Int32 -> Prop) (hw : wp_X9_marks post p0 p1 bD mX) : Met l yX9_marks (gw yX9_marks cX9_marks 3 (some .int)) rm_X9_marks (va_Pc [.ref a_x, .int p0, .int p1] (gPre (dC, dI) (tyl cI cC cZ cB cJ) (wd_X9_marks cI cC cZ cB cJ a_x xI xH xB vI wY xX yA xY uD tJ jJ mY pG pD pE eO dN bD bJ aI mX) sz)) (q_X9_marks dC dI cI cC cZ cB cJ (va_A (wd_X9_marks cI cC cZ cB cJ a_x xI xH xB vI wY xX yA xY uD tJ jJ mY pG pD pE eO dN bD bJ aI mX) sz) a_x xI xH xB vI wY xX yA xY uD tJ jJ mY pG pD pE eO dN bD bJ aI mX post) 0 0 (va_A (wd_X9_marks cI cC cZ cB cJ a_x xI xH xB vI wY xX yA xY uD tJ jJ mY pG pD pE eO dN bD bJ aI mX) sz) := by
  refine aBJ (own := RX9) (dC, dI) (tyl cI cC cZ cB cJ) (wd_X9_marks cI cC cZ cB cJ a_x xI xH xB vI wY xX yA xY uD tJ jJ mY pG pD pE eO dN bD bJ aI mX) sz [.ref a_x, .int p0, .int p1] (fun A => q_X9_marks dC dI cI cC cZ cB cJ A a_x xI xH xB vI wY xX yA xY uD tJ jJ mY pG pD pE eO dN bD bJ aI mX post) pn_RX9 rfl (lbz rfl) ?_
  intro p e s m args below meth c A H locs ls C0 hP hD hS hl
  have hl : lv_has ls 3 [(0, .ref a_x), (1, .int p0), (2, .int p1)] := hl
  obtain ⟨hx, hb, hr, hml, hown, hts, hlocks, hA, hK, hN, tL, tM, hZL, hTL, hZM, hTM, hZX⟩ := id C0
  have hp := hw
  unfold wp_X9_marks at hp
  refine lv_iload_n hx hb aPY.1 rfl (lv_at hl 1 rfl) ?_
  refine lv_if_lt (tgt := 20) hx hb aPY.2.1 (by decide) (fun hc => ?_) (fun hc => ?_)
  · have hp := hp.1 hc
    refine lv_iconst (v := (-1)) hx hb aPY.2.2.2.2.2.2.2.2.2.2.1 aEJ ?_
    exact W.iret (v := (-1)) hx hb hr (fun t ht hW => ⟨⟨(-1), (), rfl, hp, by rw [ht]; exact hP, va_K.moved hW.alike hK, hD⟩, hS.F ht⟩) hS.2.2 aPY.2.2.2.2.2.2.2.2.2.2.2.1
  · have hp := hp.2 hc
    refine lv_iload_n hx hb aPY.2.2.1 rfl (lv_at hl 1 rfl) ?_
    refine lv_bipush (v := 99) hx hb aPY.2.2.2.1 bp_99 ?_
    refine lv_icmp_gt (tgt := 20) hx hb aPY.2.2.2.2.1 (by decide) (fun hc => ?_) (fun hc => ?_)
    · have hp := hp.1 hc
      refine lv_iconst (v := (-1)) hx hb aPY.2.2.2.2.2.2.2.2.2.2.1 aEJ ?_
      exact W.iret (v := (-1)) hx hb hr (fun t ht hW => ⟨⟨(-1), (), rfl, hp, by rw [ht]; exact hP, va_K.moved hW.alike hK, hD⟩, hS.F ht⟩) hS.2.2 aPY.2.2.2.2.2.2.2.2.2.2.2.1
    · have hp := hp.2 hc
      refine lv_iload_n hx hb aPY.2.2.2.2.2.1 rfl (lv_at hl 2 rfl) ?_
      refine lv_if_lt (tgt := 20) hx hb aPY.2.2.2.2.2.2.1 (by decide) (fun hc => ?_) (fun hc => ?_)
      · have hp := hp.1 hc
        refine lv_iconst (v := (-1)) hx hb aPY.2.2.2.2.2.2.2.2.2.2.1 aEJ ?_
        exact W.iret (v := (-1)) hx hb hr (fun t ht hW => ⟨⟨(-1), (), rfl, hp, by rw [ht]; exact hP, va_K.moved hW.alike hK, hD⟩, hS.F ht⟩) hS.2.2 aPY.2.2.2.2.2.2.2.2.2.2.2.1
      · have hp := hp.2 hc
        refine lv_iload_n hx hb aPY.2.2.2.2.2.2.2.1 rfl (lv_at hl 2 rfl) ?_
        refine lv_bipush (v := 99) hx hb aPY.2.2.2.2.2.2.2.2.1 bp_99 ?_
        refine lv_icmp_le (tgt := 22) hx hb aPY.2.2.2.2.2.2.2.2.2.1 (by decide) (fun hc => ?_) (fun hc => ?_)
        · have hp := hp.1 hc
          refine lv_aload_n hx hb aPY.2.2.2.2.2.2.2.2.2.2.2.2.1 rfl (lv_at hl 0 rfl) ?_
          refine va_get (D := (dC, dI)) (ci := 9) (v := .ref vI) (C := RX9) (T := TX9) (N := 9) hx hb hts aC3 hown hK hP 0 rfl rfl 3 (lbz rfl) (hts _ q_74) (fun _ h9 => h9) rfl aPY.2.2.2.2.2.2.2.2.2.2.2.2.2.1 ?_
          refine lv_iload_n hx hb aPY.2.2.2.2.2.2.2.2.2.2.2.2.2.2.1 rfl (lv_at hl 1 rfl) ?_
          refine lv_iload_n hx hb aPY.2.2.2.2.2.2.2.2.2.2.2.2.2.2.2 rfl (lv_at hl 2 rfl) ?_
          have hm := mgk (wc := (aJ3 cI cC cZ cB cJ vI tJ jJ mY pG pD pE eO dN bD bJ aI mX)) hP mk_0 3 rfl rfl rfl
          refine yW hP hD hS hA (yS mk_0) (aAi mk_0) hm.1 hm.2 (aAk _) (zW _) (zF (As := [.int p0, .int p1]) (rest := []) C0 hP hD hS (yS mk_0) hm.1 (aAl _) 1 3 rfl rfl (c_X3_standingsAt l dC dI cI cC cZ cB cJ vI tJ jJ mY pG pD pE eO H.size p0 p1 dN bD bJ aI mX _ hp) q_588 q_591 q_589 q_590 q_48 h_X3_standingsAt rfl rfl ⟨lbz rfl, lbz rfl⟩ rfl rfl hl.1 rfl (lv_room (lbz rfl)) eX9_marks_28.1 ⟨Nat.zero_le _, Nat.zero_le _⟩) (fun r_1 u H locs hp hP hD hS => ?_)
          have hPD := PDm (ws' := (wd_X9_marks cI cC cZ cB cJ a_x xI xH xB vI wY xX yA xY uD tJ jJ mY pG pD pE eO dN bD bJ aI mX)) hP hD 3 rfl rfl rfl
          have hP := hPD.1
          have hD := hPD.2
          exact W.iret (v := r_1) hx hb hr (fun t ht hW => ⟨⟨r_1, (), rfl, hp, by rw [ht]; exact hP, va_K.moved hW.alike hK, hD⟩, hS.F ht⟩) hS.2.2 eX9_marks_28.2
        · have hp := hp.2 hc
          refine lv_iconst (v := (-1)) hx hb aPY.2.2.2.2.2.2.2.2.2.2.1 aEJ ?_
          exact W.iret (v := (-1)) hx hb hr (fun t ht hW => ⟨⟨(-1), (), rfl, hp, by rw [ht]; exact hP, va_K.moved hW.alike hK, hD⟩, hS.F ht⟩) hS.2.2 aPY.2.2.2.2.2.2.2.2.2.2.2.1
abbrev aKK (cI cC cZ cB cJ : ClassId) (xI uY xY aAB yQ : Nat) (qL qJ rX : Int32) (qM : Nat -> Int32) (vR : Int32) (xW : Nat -> Int32) : va_W := [(xI, .inr (8, [.ref uY, .int qL, .int qJ, .int rX])), (uY, .inl (cC, 80, .inl qM)), (xY, .inr (1, [.ref aAB, .ref yQ, .int vR])), (aAB, .inl (cI, 6, .inl xW))]
abbrev q_X1_readAll (dC : Nat -> ClassId) (dI : Nat -> Nat -> Nat) (cI cC cZ cB cJ : ClassId) (A : Nat -> Prop) (xI uY xY aAB yQ : Nat) (qL rX : Int32) (qM : Nat -> Int32) (post : Int32 -> Int32 -> Int32 -> (Nat -> Int32) -> Prop) : Array Value -> State -> Outcome -> State -> Prop := va_Qi (fun (r : Int32) (u : Int32 × Int32 × (Nat -> Int32)) => post r u.1 u.2.1 u.2.2) (fun u t => gB (dC, dI) (tyl cI cC cZ cB cJ) A (aKK cI cC cZ cB cJ xI uY xY aAB yQ qL u.1 rX qM u.2.1 u.2.2) t) A
abbrev rm_X1_readAll : Room := { frames := 2, cells := 0, slots := 0, locals := 45 }
section S_X1_readAll
variable {p : Program} {l : Launch} {e : Env} {s : State} {m : MethodId} {args : Array Value} {below : List Frame} {meth : Method} {c : Code} {dC : Nat -> ClassId} {dI : Nat -> Nat -> Nat} {cI cC cZ cB cJ : ClassId} {A : Nat -> Prop} {xI uY xY aAB yQ : Nat} {qL rX : Int32} {qM : Nat -> Int32} {post : Int32 -> Int32 -> Int32 -> (Nat -> Int32) -> Prop}
def ws_X1_readAll_5 (post : Int32 -> Int32 -> Int32 -> (Nat -> Int32) -> Prop) (next : Int32 -> Int32 -> (Nat -> Int32) -> Prop) (qL rX : Int32) (qM : Nat -> Int32) (qJ vR : Int32) (xW : Nat -> Int32) : Prop := (6 <= vR -> post 0 qJ vR xW) /\ (¬ 6 <= vR -> aMm (fun r_1 aCK => (¬ r_1 = (-1) -> vp_in vR 6 /\ (wp_X8_take (fun r_3 aDB => (¬ r_3 = 0 -> ∀ v_5 : Int32, v_5 = vR + 1 -> next aDB v_5 (upd xW vR.toNatClampNeg r_1)) /\ (r_3 = 0 -> ∀ v_6 : Int32, v_6 = vR + 1 -> bCL (fun r_7 => narrow .boolean (.int r_7) = .int r_7 /\ post r_7 aDB v_6 (upd xW vR.toNatClampNeg r_1)) qL aDB)) 44 aCK rX qM)) /\ (r_1 = (-1) -> post 0 aCK vR xW)) 2 qJ rX qM)
noncomputable def wb_X1_readAll_5 (post : Int32 -> Int32 -> Int32 -> (Nat -> Int32) -> Prop) (qL rX : Int32) (qM : Nat -> Int32) : Nat -> Int32 -> Int32 -> (Nat -> Int32) -> Prop := fun n => Nat.rec (motive := fun _ => Int32 -> Int32 -> (Nat -> Int32) -> Prop) (fun _ _ _ => False) (fun _ ih => ws_X1_readAll_5 post ih qL rX qM) n
set_option maxHeartbeats 4000000 in
set_option maxRecDepth 100000 in
theorem ks_X1_readAll_5 (C0 : gc aE3 (some .boolean) 3 RX1 (dC, dI) (tyl cI cC cZ cB cJ) A p s m args meth c) {next : Int32 -> Int32 -> (Nat -> Int32) -> Prop} (hKn : ∀ (qJ : Int32) (vR : Int32) (xW : Nat -> Int32) (H : Heap) (locs : List Loc) (ls : Array Slot), next qJ vR xW -> va_P (dC, dI) classes (aKK cI cC cZ cB cJ xI uY xY aAB yQ qL qJ rX qM vR xW) H -> va_D A (aKK cI cC cZ cB cJ xI uY xY aAB yQ qL qJ rX qM vR xW) -> va_S A s.heap H locs -> lv_has ls 3 [(0, .ref xY), (1, .ref xI)] -> W p l e rm_X1_readAll s m args below meth c H locs 0 0 (MQ below (q_X1_readAll dC dI cI cC cZ cB cJ A xI uY xY aAB yQ qL rX qM post) args s 0 0 A) (F0 m 5 ls [])) : ∀ (qJ vR : Int32) (xW : Nat -> Int32) (H : Heap) (locs : List Loc) (ls : Array Slot), (ws_X1_readAll_5 post next qL rX qM) qJ vR xW -> va_P (dC, dI) classes (aKK cI cC cZ cB cJ xI uY xY aAB yQ qL qJ rX qM vR xW) H -> va_D A (aKK cI cC cZ cB cJ xI uY xY aAB yQ qL qJ rX qM vR xW) -> va_S A s.heap H locs -> lv_has ls 3 [(0, .ref xY), (1, .ref xI)] -> W p l e rm_X1_readAll s m args below meth c H locs 0 0 (MQ below (q_X1_readAll dC dI cI cC cZ cB cJ A xI uY xY aAB yQ qL rX qM post) args s 0 0 A) (F0 m 5 ls []) := by
  obtain ⟨hx, hb, hr, hml, hown, hts, hlocks, hA, hK, hN, tL, tM, hZL, hTL, hZM, hTM, hZX⟩ := id C0
  intro qJ vR xW H locs ls hp hP hD hS hl
  unfold ws_X1_readAll_5 at hp
  refine lv_aload_n hx hb aTY.2.2.2.1 rfl (lv_at hl 0 rfl) ?_
  refine va_get (D := (dC, dI)) (ci := 1) (v := .int vR) (C := RX1) (T := TX1) (N := 3) hx hb hts i_X1 hown hK hP 2 rfl rfl 2 (lbz rfl) (hts _ q_592) (fun _ h9 => h9) rfl aTY.2.2.2.2.1 ?_
  refine lv_bipush (v := 6) hx hb aTY.2.2.2.2.2.1 bp_6 ?_
  refine lv_icmp_ge (tgt := 74) hx hb aTY.2.2.2.2.2.2.1 (by decide) (fun hc => ?_) (fun hc => ?_)
  · have hp := hp.1 hc
    refine lv_iconst (v := 0) hx hb aYu.2.2.2.2.2.2.2.2.2.2.1 aCi ?_
    exact W.zret (v := 0) hx hb hr rfl (fun t ht hW => ⟨⟨0, (qJ, vR, xW), rfl, hp, by rw [ht]; exact hP, va_K.moved hW.alike hK, hD⟩, hS.F ht⟩) hS.2.2 aYu.2.2.2.2.2.2.2.2.2.2.2
  · have hp := hp.2 hc
    refine lv_aload_n hx hb aTY.2.2.2.2.2.2.2.1 rfl (lv_at hl 1 rfl) ?_
    refine lv_iconst (v := 2) hx hb aTY.2.2.2.2.2.2.2.2.1 ic_2 ?_
    have hm := mgk (wc := (aG2 cI cC cZ cB cJ xI uY qL qJ rX qM)) hP mk_1 4 rfl rfl rfl
    refine yW hP hD hS hA (yS mk_1) (aAi mk_1) hm.1 hm.2 (aAk _) (zW _) (zF (As := [.int 2]) (rest := []) C0 hP hD hS (yS mk_1) hm.1 (aAl _) 0 8 rfl rfl (c_X8_readNumber l dC dI cI cC cZ cB cJ xI uY H.size 2 qL qJ rX qM _ hp) q_37 q_593 q_38 q_39 q_5 h_X8_readNumber rfl rfl ⟨lbz rfl, lbz rfl⟩ rfl rfl hl.1 rfl (lv_room (lbz rfl)) aTY.2.2.2.2.2.2.2.2.2.1 ⟨Nat.zero_le _, Nat.zero_le _⟩) (fun r_1 u H locs hp hP hD hS => ?_)
    obtain ⟨aCK, rfl⟩ : ∃ z, z = u := ⟨_, rfl⟩
    have hPD := PDm (ws' := (aKK cI cC cZ cB cJ xI uY xY aAB yQ qL aCK rX qM vR xW)) hP hD 4 rfl rfl rfl
    have hP := hPD.1
    have hD := hPD.2
    refine lv_istore_n (lv' := [(2, .int r_1), (0, .ref xY), (1, .ref xI)]) hx hb aTY.2.2.2.2.2.2.2.2.2.2.1 rfl hl (by decide) rfl (fun ls hl => ?_)
    refine lv_iload_n hx hb aTY.2.2.2.2.2.2.2.2.2.2.2.1 rfl (lv_at hl 0 rfl) ?_
    refine lv_iconst (v := (-1)) hx hb aTY.2.2.2.2.2.2.2.2.2.2.2.2.1 aEJ ?_
    refine lv_icmp_ne (tgt := 27) hx hb aTY.2.2.2.2.2.2.2.2.2.2.2.2.2.1 (by decide) (fun hc => ?_) (fun hc => ?_)
    · have hp := hp.1 hc
      refine lv_aload_n hx hb aQi.1 rfl (lv_at hl 1 rfl) ?_
      refine va_get (D := (dC, dI)) (ci := 1) (v := .ref aAB) (C := RX1) (T := TX1) (N := 3) hx hb hts i_X1 hown hK hP 2 rfl rfl 0 (lbz rfl) (hts _ q_594) (fun _ h9 => h9) rfl aQi.2.1 ?_
      refine lv_aload_n hx hb aQi.2.2.1 rfl (lv_at hl 1 rfl) ?_
      refine va_get (D := (dC, dI)) (ci := 1) (v := .int vR) (C := RX1) (T := TX1) (N := 3) hx hb hts i_X1 hown hK hP 2 rfl rfl 2 (lbz rfl) (hts _ q_592) (fun _ h9 => h9) rfl aQi.2.2.2.1 ?_
      refine lv_iload_n hx hb aQi.2.2.2.2.1 rfl (lv_at hl 0 rfl) ?_
      have hin := hp.1
      have hp := hp.2
      refine va_iast hx hb hK hP hD hS 3 0 rfl rfl hin aQi.2.2.2.2.2.1 (fun H locs hP hD hS => ?_)
      have hPD := PDw (ws' := (aKK cI cC cZ cB cJ xI uY xY aAB yQ qL aCK rX qM vR (upd xW vR.toNatClampNeg r_1))) hP hD rfl
      have hP := hPD.1
      have hD := hPD.2
      refine lv_aload_n hx hb aQi.2.2.2.2.2.2.1 rfl (lv_at hl 2 rfl) ?_
      refine lv_bipush (v := 44) hx hb aQi.2.2.2.2.2.2.2.1 bp_44 ?_
      have hm := mgk (wc := (wd_X8_take cI cC cZ cB cJ xI uY qL aCK rX qM)) hP mk_1 4 rfl rfl rfl
      refine yW hP hD hS hA (yS mk_1) (aAi mk_1) hm.1 hm.2 (aAk _) (zW _) (zF (As := [.int 44]) (rest := []) C0 hP hD hS (yS mk_1) hm.1 (aAl _) 0 8 rfl rfl (c_X8_take l dC dI cI cC cZ cB cJ xI uY H.size 44 qL aCK rX qM _ hp) q_41 q_595 q_42 q_43 q_5 h_X8_take rfl rfl ⟨lbz rfl, lbz rfl⟩ rfl rfl hl.1 rfl (lv_room (lbz rfl)) aQi.2.2.2.2.2.2.2.2.1 ⟨Nat.zero_le _, Nat.zero_le _⟩) (fun r_3 u H locs hp hP hD hS => ?_)
      obtain ⟨aDB, rfl⟩ : ∃ z, z = u := ⟨_, rfl⟩
      have hPD := PDm (ws' := (aKK cI cC cZ cB cJ xI uY xY aAB yQ qL aDB rX qM vR (upd xW vR.toNatClampNeg r_1))) hP hD 4 rfl rfl rfl
      have hP := hPD.1
      have hD := hPD.2
      refine lv_if_ne (tgt := 61) hx hb aQi.2.2.2.2.2.2.2.2.2.1 (by decide) (fun hc => ?_) (fun hc => ?_)
      · have hp := hp.1 hc
        refine lv_aload_n hx hb aYu.2.2.2.1 rfl (lv_at hl 1 rfl) ?_
        refine lv_dup hx hb aYu.2.2.2.2.1 rfl ?_
        refine va_get (D := (dC, dI)) (ci := 1) (v := .int vR) (C := RX1) (T := TX1) (N := 3) hx hb hts i_X1 hown hK hP 2 rfl rfl 2 (lbz rfl) (hts _ q_592) (fun _ h9 => h9) rfl aYu.2.2.2.2.2.1 ?_
        refine lv_iconst (v := 1) hx hb aYu.2.2.2.2.2.2.1 aDx ?_
        refine lv_iadd hx hb aYu.2.2.2.2.2.2.2.1 ?_
        refine lv_topi (fun v_5 aJD => ?_)
        have hp := hp v_5 aJD
        refine va_put (D := (dC, dI)) (ci := 1) (v := .int v_5) (ty := .int) (C := RX1) (T := TX1) (N := 3) hx hb hts i_X1 tyX1 tyX1_ok nmX1 hown hK hP hD hS 2 rfl rfl 2 (lbz rfl) (hts _ q_592) (fun _ h9 => h9) rfl (tyX1_ok 2 (lbz rfl)) rfl rfl (lbz rfl) aYu.2.2.2.2.2.2.2.2.1 (fun H locs hP hD hS => ?_)
        have hPD := PDw (ws' := (aKK cI cC cZ cB cJ xI uY xY aAB yQ qL aDB rX qM v_5 (upd xW vR.toNatClampNeg r_1))) hP hD rfl
        have hP := hPD.1
        have hD := hPD.2
        refine lv_goto (tgt := 5) hx hb aYu.2.2.2.2.2.2.2.2.2.1 (by decide) ?_
        exact hKn aDB v_5 (upd xW vR.toNatClampNeg r_1) H locs ls hp hP hD hS (lv_sub hl [1, 2] rfl)
      · have hp := hp.2 hc
        refine lv_aload_n hx hb aQi.2.2.2.2.2.2.2.2.2.2.1 rfl (lv_at hl 1 rfl) ?_
        refine lv_dup hx hb aQi.2.2.2.2.2.2.2.2.2.2.2.1 rfl ?_
        refine va_get (D := (dC, dI)) (ci := 1) (v := .int vR) (C := RX1) (T := TX1) (N := 3) hx hb hts i_X1 hown hK hP 2 rfl rfl 2 (lbz rfl) (hts _ q_592) (fun _ h9 => h9) rfl aQi.2.2.2.2.2.2.2.2.2.2.2.2.1 ?_
        refine lv_iconst (v := 1) hx hb aQi.2.2.2.2.2.2.2.2.2.2.2.2.2.1 aDx ?_
        refine lv_iadd hx hb aQi.2.2.2.2.2.2.2.2.2.2.2.2.2.2.1 ?_
        refine lv_topi (fun v_6 ev_6 => ?_)
        have hp := hp v_6 ev_6
        refine va_put (D := (dC, dI)) (ci := 1) (v := .int v_6) (ty := .int) (C := RX1) (T := TX1) (N := 3) hx hb hts i_X1 tyX1 tyX1_ok nmX1 hown hK hP hD hS 2 rfl rfl 2 (lbz rfl) (hts _ q_592) (fun _ h9 => h9) rfl (tyX1_ok 2 (lbz rfl)) rfl rfl (lbz rfl) aQi.2.2.2.2.2.2.2.2.2.2.2.2.2.2.2 (fun H locs hP hD hS => ?_)
        have hPD := PDw (ws' := (aKK cI cC cZ cB cJ xI uY xY aAB yQ qL aDB rX qM v_6 (upd xW vR.toNatClampNeg r_1))) hP hD rfl
        have hP := hPD.1
        have hD := hPD.2
        refine lv_aload_n hx hb aYu.1 rfl (lv_at hl 2 rfl) ?_
        have hm := mgk (wc := (wd_X8_isThrough cI cC cZ cB cJ xI uY qL aDB rX)) hP mk_15 4 rfl rfl rfl
        refine yW hP hD hS hA (yS mk_15) (aAi mk_15) hm.1 hm.2 (aAk _) (zW _) (zF (As := []) (rest := []) C0 hP hD hS (yS mk_15) hm.1 (aAl _) 0 8 rfl rfl (c_X8_isThrough l dC dI cI cC cZ cB cJ xI uY H.size qL aDB rX _ hp) q_97 q_596 q_98 q_99 q_5 h_X8_isThrough rfl rfl ⟨lbz rfl, lbz rfl⟩ rfl rfl hl.1 rfl (lv_room (lbz rfl)) aYu.2.1 ⟨Nat.zero_le _, Nat.zero_le _⟩) (fun r_7 u H locs hp hP hD hS => ?_)
        have hPD := PDm (ws' := (aKK cI cC cZ cB cJ xI uY xY aAB yQ qL aDB rX qM v_6 (upd xW vR.toNatClampNeg r_1))) hP hD 4 rfl rfl rfl
        have hP := hPD.1
        have hD := hPD.2
        have hnz := hp.1
        have hp := hp.2
        exact W.zret (v := r_7) hx hb hr hnz (fun t ht hW => ⟨⟨r_7, (aDB, v_6, (upd xW vR.toNatClampNeg r_1)), rfl, hp, by rw [ht]; exact hP, va_K.moved hW.alike hK, hD⟩, hS.F ht⟩) hS.2.2 aYu.2.2.1
    · have hp := hp.2 hc
      refine lv_iconst (v := 0) hx hb aTY.2.2.2.2.2.2.2.2.2.2.2.2.2.2.1 aCi ?_
      exact W.zret (v := 0) hx hb hr rfl (fun t ht hW => ⟨⟨0, (aCK, vR, xW), rfl, hp, by rw [ht]; exact hP, va_K.moved hW.alike hK, hD⟩, hS.F ht⟩) hS.2.2 aTY.2.2.2.2.2.2.2.2.2.2.2.2.2.2.2
set_option maxHeartbeats 4000000 in
set_option maxRecDepth 100000 in
theorem kb_X1_readAll_5 (C0 : gc aE3 (some .boolean) 3 RX1 (dC, dI) (tyl cI cC cZ cB cJ) A p s m args meth c) : ∀ (n : Nat), ∀ (qJ vR : Int32) (xW : Nat -> Int32) (H : Heap) (locs : List Loc) (ls : Array Slot), (wb_X1_readAll_5 post qL rX qM n) qJ vR xW -> va_P (dC, dI) classes (aKK cI cC cZ cB cJ xI uY xY aAB yQ qL qJ rX qM vR xW) H -> va_D A (aKK cI cC cZ cB cJ xI uY xY aAB yQ qL qJ rX qM vR xW) -> va_S A s.heap H locs -> lv_has ls 3 [(0, .ref xY), (1, .ref xI)] -> W p l e rm_X1_readAll s m args below meth c H locs 0 0 (MQ below (q_X1_readAll dC dI cI cC cZ cB cJ A xI uY xY aAB yQ qL rX qM post) args s 0 0 A) (F0 m 5 ls []) := by
  intro n
  induction n with
  | zero =>
    intro qJ vR xW H locs ls hp
    exact False.elim hp
  | succ n ih =>
    intro qJ vR xW H locs ls hp
    exact ks_X1_readAll_5 C0 ih qJ vR xW H locs ls hp
end S_X1_readAll
def wp_X1_readAll (post : Int32 -> Int32 -> Int32 -> (Nat -> Int32) -> Prop) (qL qJ rX : Int32) (qM : Nat -> Int32) (vR : Int32) (xW : Nat -> Int32) : Prop := ∃ n : Nat, wb_X1_readAll_5 post qL rX qM n qJ 0 xW
set_option maxHeartbeats 4000000 in
set_option maxRecDepth 100000 in
theorem c_X1_readAll (l : Launch) (dC : Nat -> ClassId) (dI : Nat -> Nat -> Nat) (cI cC cZ cB cJ : ClassId) (xI uY xY aAB yQ sz : Nat) (qL qJ rX : Int32) (qM : Nat -> Int32) (vR : Int32) (xW : Nat -> Int32) (post : Int32 -> Int32 -> Int32 -> (Nat -> Int32) -> Prop) (hw : wp_X1_readAll post qL qJ rX qM vR xW) : Met l yX1_readAll (gw yX1_readAll aE3 3 (some .boolean)) rm_X1_readAll (va_Pc [.ref xY, .ref xI] (gPre (dC, dI) (tyl cI cC cZ cB cJ) (aKK cI cC cZ cB cJ xI uY xY aAB yQ qL qJ rX qM vR xW) sz)) (q_X1_readAll dC dI cI cC cZ cB cJ (va_A (aKK cI cC cZ cB cJ xI uY xY aAB yQ qL qJ rX qM vR xW) sz) xI uY xY aAB yQ qL rX qM post) 0 0 (va_A (aKK cI cC cZ cB cJ xI uY xY aAB yQ qL qJ rX qM vR xW) sz) := by
  refine aBJ (own := RX1) (dC, dI) (tyl cI cC cZ cB cJ) (aKK cI cC cZ cB cJ xI uY xY aAB yQ qL qJ rX qM vR xW) sz [.ref xY, .ref xI] (fun A => q_X1_readAll dC dI cI cC cZ cB cJ A xI uY xY aAB yQ qL rX qM post) pn_RX1 rfl (lbz rfl) ?_
  intro p e s m args below meth c A H locs ls C0 hP hD hS hl
  have hl : lv_has ls 3 [(0, .ref xY), (1, .ref xI)] := hl
  obtain ⟨hx, hb, hr, hml, hown, hts, hlocks, hA, hK, hN, tL, tM, hZL, hTL, hZM, hTM, hZX⟩ := id C0
  have hp := hw
  unfold wp_X1_readAll at hp
  refine lv_aload_n hx hb aTY.1 rfl (lv_at hl 0 rfl) ?_
  refine lv_iconst (v := 0) hx hb aTY.2.1 aCi ?_
  refine va_put (D := (dC, dI)) (ci := 1) (v := .int 0) (ty := .int) (C := RX1) (T := TX1) (N := 3) hx hb hts i_X1 tyX1 tyX1_ok nmX1 hown hK hP hD hS 2 rfl rfl 2 (lbz rfl) (hts _ q_592) (fun _ h9 => h9) rfl (tyX1_ok 2 (lbz rfl)) rfl rfl (lbz rfl) aTY.2.2.1 (fun H locs hP hD hS => ?_)
  have hPD := PDw (ws' := (aKK cI cC cZ cB cJ xI uY xY aAB yQ qL qJ rX qM 0 xW)) hP hD rfl
  have hP := hPD.1
  have hD := hPD.2
  obtain ⟨n9, hp⟩ := hp
  exact kb_X1_readAll_5 C0 n9 qJ 0 xW H locs ls hp hP hD hS (lv_sub hl [0, 1] rfl)
abbrev aD8 (cI cC cZ cB cJ : ClassId) (vI tJ jJ mY pG pD pE eO xY aAB yQ : Nat) (dN bD bJ aI : Int32) (mX : Nat -> Int32) (vR : Int32) (xW vW : Nat -> Int32) : va_W := [(vI, .inr (3, [.ref tJ, .ref jJ, .ref mY, .ref pG, .ref pD, .ref pE, .ref eO, .int dN, .int bD, .int bJ, .int aI])), (pD, .inl (cI, 8, .inl mX)), (xY, .inr (1, [.ref aAB, .ref yQ, .int vR])), (aAB, .inl (cI, 6, .inl xW)), (yQ, .inl (cI, 48, .inl vW))]
abbrev aQ6 (dC : Nat -> ClassId) (dI : Nat -> Nat -> Nat) (cI cC cZ cB cJ : ClassId) (A : Nat -> Prop) (vI tJ jJ mY pG pD pE eO xY aAB yQ : Nat) (dN bD bJ aI : Int32) (mX : Nat -> Int32) (vR : Int32) (xW : Nat -> Int32) (post : Int32 -> (Nat -> Int32) -> Prop) : Array Value -> State -> Outcome -> State -> Prop := va_Qi (fun (r : Int32) (u : (Nat -> Int32)) => post r u) (fun u t => gB (dC, dI) (tyl cI cC cZ cB cJ) A (aD8 cI cC cZ cB cJ vI tJ jJ mY pG pD pE eO xY aAB yQ dN bD bJ aI mX vR xW u) t) A
abbrev aPT : Room := { frames := 2, cells := 0, slots := 0, locals := 45 }
section S_X1_countRows
variable {p : Program} {l : Launch} {e : Env} {s : State} {m : MethodId} {args : Array Value} {below : List Frame} {meth : Method} {c : Code} {dC : Nat -> ClassId} {dI : Nat -> Nat -> Nat} {cI cC cZ cB cJ : ClassId} {A : Nat -> Prop} {vI tJ jJ mY pG pD pE eO xY aAB yQ : Nat} {dN bD bJ aI : Int32} {mX : Nat -> Int32} {vR : Int32} {xW : Nat -> Int32} {post : Int32 -> (Nat -> Int32) -> Prop}
def ws_X1_countRows_92 (post : Int32 -> (Nat -> Int32) -> Prop) (K10 : Int32 -> Int32 -> Int32 -> (Nat -> Int32) -> Prop) (K37 : Int32 -> Int32 -> Int32 -> Int32 -> Int32 -> Int32 -> (Nat -> Int32) -> Prop) (bD : Int32) (mX : Nat -> Int32) (vR : Int32) (xW : Nat -> Int32) (x2 x3 x4 x5 x6 x7 x8 : Int32) (vW : Nat -> Int32) : Prop := ∀ v_6 : Int32, v_6 = x4 * 8 -> ∀ v_7 : Int32, v_7 = v_6 + x7 -> vp_in v_7 48 /\ (∀ v_8 : Int32, v_8 = x3 + x8 -> ∀ v_9 : Int32, v_9 = x7 + 1 -> K37 x2 v_8 x4 x5 x6 v_9 (upd vW v_7.toNatClampNeg x8))
set_option maxHeartbeats 4000000 in
set_option maxRecDepth 100000 in
theorem ks_X1_countRows_92 (C0 : gc aCC (some .int) 9 RX1 (dC, dI) (tyl cI cC cZ cB cJ) A p s m args meth c) {K10 : Int32 -> Int32 -> Int32 -> (Nat -> Int32) -> Prop} {K37 : Int32 -> Int32 -> Int32 -> Int32 -> Int32 -> Int32 -> (Nat -> Int32) -> Prop} (hK10 : ∀ (x2 : Int32) (x3 : Int32) (x4 : Int32) (vW : Nat -> Int32) (H : Heap) (locs : List Loc) (ls : Array Slot), K10 x2 x3 x4 vW -> va_P (dC, dI) classes (aD8 cI cC cZ cB cJ vI tJ jJ mY pG pD pE eO xY aAB yQ dN bD bJ aI mX vR xW vW) H -> va_D A (aD8 cI cC cZ cB cJ vI tJ jJ mY pG pD pE eO xY aAB yQ dN bD bJ aI mX vR xW vW) -> va_S A s.heap H locs -> lv_has ls 9 [(0, .ref xY), (1, .ref vI), (2, .int x2), (3, .int x3), (4, .int x4)] -> W p l e aPT s m args below meth c H locs 0 0 (MQ below (aQ6 dC dI cI cC cZ cB cJ A vI tJ jJ mY pG pD pE eO xY aAB yQ dN bD bJ aI mX vR xW post) args s 0 0 A) (F0 m 10 ls [])) (hK37 : ∀ (x2 : Int32) (x3 : Int32) (x4 : Int32) (x5 : Int32) (x6 : Int32) (x7 : Int32) (vW : Nat -> Int32) (H : Heap) (locs : List Loc) (ls : Array Slot), K37 x2 x3 x4 x5 x6 x7 vW -> va_P (dC, dI) classes (aD8 cI cC cZ cB cJ vI tJ jJ mY pG pD pE eO xY aAB yQ dN bD bJ aI mX vR xW vW) H -> va_D A (aD8 cI cC cZ cB cJ vI tJ jJ mY pG pD pE eO xY aAB yQ dN bD bJ aI mX vR xW vW) -> va_S A s.heap H locs -> lv_has ls 9 [(0, .ref xY), (1, .ref vI), (2, .int x2), (3, .int x3), (4, .int x4), (5, .int x5), (6, .int x6), (7, .int x7)] -> W p l e aPT s m args below meth c H locs 0 0 (MQ below (aQ6 dC dI cI cC cZ cB cJ A vI tJ jJ mY pG pD pE eO xY aAB yQ dN bD bJ aI mX vR xW post) args s 0 0 A) (F0 m 37 ls [])) : ∀ (x2 x3 x4 x5 x6 x7 x8 : Int32) (vW : Nat -> Int32) (H : Heap) (locs : List Loc) (ls : Array Slot), (ws_X1_countRows_92 post K10 K37 bD mX vR xW) x2 x3 x4 x5 x6 x7 x8 vW -> va_P (dC, dI) classes (aD8 cI cC cZ cB cJ vI tJ jJ mY pG pD pE eO xY aAB yQ dN bD bJ aI mX vR xW vW) H -> va_D A (aD8 cI cC cZ cB cJ vI tJ jJ mY pG pD pE eO xY aAB yQ dN bD bJ aI mX vR xW vW) -> va_S A s.heap H locs -> lv_has ls 9 [(0, .ref xY), (1, .ref vI), (2, .int x2), (3, .int x3), (4, .int x4), (5, .int x5), (6, .int x6), (7, .int x7), (8, .int x8)] -> W p l e aPT s m args below meth c H locs 0 0 (MQ below (aQ6 dC dI cI cC cZ cB cJ A vI tJ jJ mY pG pD pE eO xY aAB yQ dN bD bJ aI mX vR xW post) args s 0 0 A) (F0 m 92 ls []) := by
  obtain ⟨hx, hb, hr, hml, hown, hts, hlocks, hA, hK, hN, tL, tM, hZL, hTL, hZM, hTM, hZX⟩ := id C0
  intro x2 x3 x4 x5 x6 x7 x8 vW H locs ls hp hP hD hS hl
  unfold ws_X1_countRows_92 at hp
  refine lv_aload_n hx hb aMU.2.2.2.2.2.2.2.1 rfl (lv_at hl 0 rfl) ?_
  refine va_get (D := (dC, dI)) (ci := 1) (v := .ref yQ) (C := RX1) (T := TX1) (N := 3) hx hb hts i_X1 hown hK hP 2 rfl rfl 1 (lbz rfl) (hts _ q_598) (fun _ h9 => h9) rfl aMU.2.2.2.2.2.2.2.2.1 ?_
  refine lv_iload hx hb aMU.2.2.2.2.2.2.2.2.2.1 (lv_at hl 4 rfl) ?_
  refine lv_bipush (v := 8) hx hb aMU.2.2.2.2.2.2.2.2.2.2.1 bp_8 ?_
  refine lv_imul hx hb aMU.2.2.2.2.2.2.2.2.2.2.2.1 ?_
  refine lv_topi (fun v_6 ev_6 => ?_)
  have hp := hp v_6 ev_6
  refine lv_iload hx hb aMU.2.2.2.2.2.2.2.2.2.2.2.2.1 (lv_at hl 7 rfl) ?_
  refine lv_iadd hx hb aMU.2.2.2.2.2.2.2.2.2.2.2.2.2.1 ?_
  refine lv_topi (fun v_7 ev_7 => ?_)
  have hp := hp v_7 ev_7
  refine lv_iload hx hb aMU.2.2.2.2.2.2.2.2.2.2.2.2.2.2.1 (lv_at hl 8 rfl) ?_
  have hin := hp.1
  have hp := hp.2
  refine va_iast hx hb hK hP hD hS 4 0 rfl rfl hin aMU.2.2.2.2.2.2.2.2.2.2.2.2.2.2.2 (fun H locs hP hD hS => ?_)
  have hPD := PDw (ws' := (aD8 cI cC cZ cB cJ vI tJ jJ mY pG pD pE eO xY aAB yQ dN bD bJ aI mX vR xW (upd vW v_7.toNatClampNeg x8))) hP hD rfl
  have hP := hPD.1
  have hD := hPD.2
  refine lv_iload_n hx hb aX0.1 rfl (lv_at hl 3 rfl) ?_
  refine lv_iload hx hb aX0.2.1 (lv_at hl 8 rfl) ?_
  refine lv_iadd hx hb aX0.2.2.1 ?_
  refine lv_topi (fun v_8 ev_8 => ?_)
  have hp := hp v_8 ev_8
  refine lv_istore_n (lv' := [(3, .int v_8), (0, .ref xY), (1, .ref vI), (2, .int x2), (4, .int x4), (5, .int x5), (6, .int x6), (7, .int x7), (8, .int x8)]) hx hb aX0.2.2.2.1 rfl hl (by decide) rfl (fun ls hl => ?_)
  obtain ⟨v_9, ev_9⟩ : ∃ y : Int32, y = x7 + 1 := ⟨_, rfl⟩
  refine lv_iinc (v := v_9) (lv' := [(7, .int v_9), (3, .int v_8), (0, .ref xY), (1, .ref vI), (2, .int x2), (4, .int x4), (5, .int x5), (6, .int x6), (8, .int x8)]) hx hb aX0.2.2.2.2.1 hl (k := 7) rfl (by rw [ev_9]; rfl) (by decide) rfl (fun ls hl => ?_)
  have hp := hp v_9 ev_9
  refine lv_goto (tgt := 37) hx hb aX0.2.2.2.2.2.1 (by decide) ?_
  exact hK37 x2 v_8 x4 x5 x6 v_9 (upd vW v_7.toNatClampNeg x8) H locs ls hp hP hD hS (lv_sub hl [2, 3, 4, 1, 5, 6, 7, 0] rfl)
def ws_X1_countRows_90 (post : Int32 -> (Nat -> Int32) -> Prop) (K10 : Int32 -> Int32 -> Int32 -> (Nat -> Int32) -> Prop) (K37 : Int32 -> Int32 -> Int32 -> Int32 -> Int32 -> Int32 -> (Nat -> Int32) -> Prop) (bD : Int32) (mX : Nat -> Int32) (vR : Int32) (xW : Nat -> Int32) (x2 x3 x4 x5 x6 x7 k0 : Int32) (vW : Nat -> Int32) : Prop := ws_X1_countRows_92 post K10 K37 bD mX vR xW x2 x3 x4 x5 x6 x7 k0 vW
set_option maxHeartbeats 4000000 in
set_option maxRecDepth 100000 in
theorem ks_X1_countRows_90 (C0 : gc aCC (some .int) 9 RX1 (dC, dI) (tyl cI cC cZ cB cJ) A p s m args meth c) {K10 : Int32 -> Int32 -> Int32 -> (Nat -> Int32) -> Prop} {K37 : Int32 -> Int32 -> Int32 -> Int32 -> Int32 -> Int32 -> (Nat -> Int32) -> Prop} (hK10 : ∀ (x2 : Int32) (x3 : Int32) (x4 : Int32) (vW : Nat -> Int32) (H : Heap) (locs : List Loc) (ls : Array Slot), K10 x2 x3 x4 vW -> va_P (dC, dI) classes (aD8 cI cC cZ cB cJ vI tJ jJ mY pG pD pE eO xY aAB yQ dN bD bJ aI mX vR xW vW) H -> va_D A (aD8 cI cC cZ cB cJ vI tJ jJ mY pG pD pE eO xY aAB yQ dN bD bJ aI mX vR xW vW) -> va_S A s.heap H locs -> lv_has ls 9 [(0, .ref xY), (1, .ref vI), (2, .int x2), (3, .int x3), (4, .int x4)] -> W p l e aPT s m args below meth c H locs 0 0 (MQ below (aQ6 dC dI cI cC cZ cB cJ A vI tJ jJ mY pG pD pE eO xY aAB yQ dN bD bJ aI mX vR xW post) args s 0 0 A) (F0 m 10 ls [])) (hK37 : ∀ (x2 : Int32) (x3 : Int32) (x4 : Int32) (x5 : Int32) (x6 : Int32) (x7 : Int32) (vW : Nat -> Int32) (H : Heap) (locs : List Loc) (ls : Array Slot), K37 x2 x3 x4 x5 x6 x7 vW -> va_P (dC, dI) classes (aD8 cI cC cZ cB cJ vI tJ jJ mY pG pD pE eO xY aAB yQ dN bD bJ aI mX vR xW vW) H -> va_D A (aD8 cI cC cZ cB cJ vI tJ jJ mY pG pD pE eO xY aAB yQ dN bD bJ aI mX vR xW vW) -> va_S A s.heap H locs -> lv_has ls 9 [(0, .ref xY), (1, .ref vI), (2, .int x2), (3, .int x3), (4, .int x4), (5, .int x5), (6, .int x6), (7, .int x7)] -> W p l e aPT s m args below meth c H locs 0 0 (MQ below (aQ6 dC dI cI cC cZ cB cJ A vI tJ jJ mY pG pD pE eO xY aAB yQ dN bD bJ aI mX vR xW post) args s 0 0 A) (F0 m 37 ls [])) : ∀ (x2 x3 x4 x5 x6 x7 k0 : Int32) (vW : Nat -> Int32) (H : Heap) (locs : List Loc) (ls : Array Slot), (ws_X1_countRows_90 post K10 K37 bD mX vR xW) x2 x3 x4 x5 x6 x7 k0 vW -> va_P (dC, dI) classes (aD8 cI cC cZ cB cJ vI tJ jJ mY pG pD pE eO xY aAB yQ dN bD bJ aI mX vR xW vW) H -> va_D A (aD8 cI cC cZ cB cJ vI tJ jJ mY pG pD pE eO xY aAB yQ dN bD bJ aI mX vR xW vW) -> va_S A s.heap H locs -> lv_has ls 9 [(0, .ref xY), (1, .ref vI), (2, .int x2), (3, .int x3), (4, .int x4), (5, .int x5), (6, .int x6), (7, .int x7)] -> W p l e aPT s m args below meth c H locs 0 0 (MQ below (aQ6 dC dI cI cC cZ cB cJ A vI tJ jJ mY pG pD pE eO xY aAB yQ dN bD bJ aI mX vR xW post) args s 0 0 A) (F0 m 90 ls [.int k0]) := by
  obtain ⟨hx, hb, hr, hml, hown, hts, hlocks, hA, hK, hN, tL, tM, hZL, hTL, hZM, hTM, hZX⟩ := id C0
  intro x2 x3 x4 x5 x6 x7 k0 vW H locs ls hp hP hD hS hl
  unfold ws_X1_countRows_90 at hp
  refine lv_istore (lv' := [(8, .int k0), (0, .ref xY), (1, .ref vI), (2, .int x2), (3, .int x3), (4, .int x4), (5, .int x5), (6, .int x6), (7, .int x7)]) hx hb aMU.2.2.2.2.2.2.1 hl (by decide) rfl (fun ls hl => ?_)
  exact ks_X1_countRows_92 C0 hK10 hK37 x2 x3 x4 x5 x6 x7 k0 vW H locs ls hp hP hD hS (lv_sub hl [1, 2, 3, 4, 5, 6, 7, 8, 0] rfl)
def ws_X1_countRows_37 (post : Int32 -> (Nat -> Int32) -> Prop) (K10 : Int32 -> Int32 -> Int32 -> (Nat -> Int32) -> Prop) (next : Int32 -> Int32 -> Int32 -> Int32 -> Int32 -> Int32 -> (Nat -> Int32) -> Prop) (bD : Int32) (mX : Nat -> Int32) (vR : Int32) (xW : Nat -> Int32) (x2 x3 x4 x5 x6 x7 : Int32) (vW : Nat -> Int32) : Prop := (8 <= x7 -> ∀ v_4 : Int32, v_4 = x4 + (-1) -> K10 x2 x3 v_4 vW) /\ (¬ 8 <= x7 -> ∀ v_5 : Int32, v_5 = x5 >>> (x7 &&& 31) -> ((v_5 &&& 1) = 0 -> ws_X1_countRows_92 post K10 next bD mX vR xW x2 x3 x4 x5 x6 x7 0 vW) /\ (¬ (v_5 &&& 1) = 0 -> (¬ x4 = (vR - 1) -> ∀ aEr : Int32, aEr = x4 + 1 -> ∀ aGH : Int32, aGH = aEr * 8 -> ∀ aEp : Int32, aEp = aGH + x7 -> vp_in aEp 48 /\ (∀ aIQ : Int32, aIQ = x6 - (vW aEp.toNatClampNeg) -> ws_X1_countRows_90 post K10 next bD mX vR xW x2 x3 x4 x5 x6 x7 aIQ vW)) /\ (x4 = (vR - 1) -> ws_X1_countRows_90 post K10 next bD mX vR xW x2 x3 x4 x5 x6 x7 1 vW)))
noncomputable def wb_X1_countRows_37 (post : Int32 -> (Nat -> Int32) -> Prop) (K10 : Int32 -> Int32 -> Int32 -> (Nat -> Int32) -> Prop) (bD : Int32) (mX : Nat -> Int32) (vR : Int32) (xW : Nat -> Int32) : Nat -> Int32 -> Int32 -> Int32 -> Int32 -> Int32 -> Int32 -> (Nat -> Int32) -> Prop := fun n => Nat.rec (motive := fun _ => Int32 -> Int32 -> Int32 -> Int32 -> Int32 -> Int32 -> (Nat -> Int32) -> Prop) (fun _ _ _ _ _ _ _ => False) (fun _ ih => ws_X1_countRows_37 post K10 ih bD mX vR xW) n
set_option maxHeartbeats 4000000 in
set_option maxRecDepth 100000 in
theorem ks_X1_countRows_37 (C0 : gc aCC (some .int) 9 RX1 (dC, dI) (tyl cI cC cZ cB cJ) A p s m args meth c) {K10 : Int32 -> Int32 -> Int32 -> (Nat -> Int32) -> Prop} {next : Int32 -> Int32 -> Int32 -> Int32 -> Int32 -> Int32 -> (Nat -> Int32) -> Prop} (hK10 : ∀ (x2 : Int32) (x3 : Int32) (x4 : Int32) (vW : Nat -> Int32) (H : Heap) (locs : List Loc) (ls : Array Slot), K10 x2 x3 x4 vW -> va_P (dC, dI) classes (aD8 cI cC cZ cB cJ vI tJ jJ mY pG pD pE eO xY aAB yQ dN bD bJ aI mX vR xW vW) H -> va_D A (aD8 cI cC cZ cB cJ vI tJ jJ mY pG pD pE eO xY aAB yQ dN bD bJ aI mX vR xW vW) -> va_S A s.heap H locs -> lv_has ls 9 [(0, .ref xY), (1, .ref vI), (2, .int x2), (3, .int x3), (4, .int x4)] -> W p l e aPT s m args below meth c H locs 0 0 (MQ below (aQ6 dC dI cI cC cZ cB cJ A vI tJ jJ mY pG pD pE eO xY aAB yQ dN bD bJ aI mX vR xW post) args s 0 0 A) (F0 m 10 ls [])) (hKn : ∀ (x2 : Int32) (x3 : Int32) (x4 : Int32) (x5 : Int32) (x6 : Int32) (x7 : Int32) (vW : Nat -> Int32) (H : Heap) (locs : List Loc) (ls : Array Slot), next x2 x3 x4 x5 x6 x7 vW -> va_P (dC, dI) classes (aD8 cI cC cZ cB cJ vI tJ jJ mY pG pD pE eO xY aAB yQ dN bD bJ aI mX vR xW vW) H -> va_D A (aD8 cI cC cZ cB cJ vI tJ jJ mY pG pD pE eO xY aAB yQ dN bD bJ aI mX vR xW vW) -> va_S A s.heap H locs -> lv_has ls 9 [(0, .ref xY), (1, .ref vI), (2, .int x2), (3, .int x3), (4, .int x4), (5, .int x5), (6, .int x6), (7, .int x7)] -> W p l e aPT s m args below meth c H locs 0 0 (MQ below (aQ6 dC dI cI cC cZ cB cJ A vI tJ jJ mY pG pD pE eO xY aAB yQ dN bD bJ aI mX vR xW post) args s 0 0 A) (F0 m 37 ls [])) : ∀ (x2 x3 x4 x5 x6 x7 : Int32) (vW : Nat -> Int32) (H : Heap) (locs : List Loc) (ls : Array Slot), (ws_X1_countRows_37 post K10 next bD mX vR xW) x2 x3 x4 x5 x6 x7 vW -> va_P (dC, dI) classes (aD8 cI cC cZ cB cJ vI tJ jJ mY pG pD pE eO xY aAB yQ dN bD bJ aI mX vR xW vW) H -> va_D A (aD8 cI cC cZ cB cJ vI tJ jJ mY pG pD pE eO xY aAB yQ dN bD bJ aI mX vR xW vW) -> va_S A s.heap H locs -> lv_has ls 9 [(0, .ref xY), (1, .ref vI), (2, .int x2), (3, .int x3), (4, .int x4), (5, .int x5), (6, .int x6), (7, .int x7)] -> W p l e aPT s m args below meth c H locs 0 0 (MQ below (aQ6 dC dI cI cC cZ cB cJ A vI tJ jJ mY pG pD pE eO xY aAB yQ dN bD bJ aI mX vR xW post) args s 0 0 A) (F0 m 37 ls []) := by
  obtain ⟨hx, hb, hr, hml, hown, hts, hlocks, hA, hK, hN, tL, tM, hZL, hTL, hZM, hTM, hZX⟩ := id C0
  intro x2 x3 x4 x5 x6 x7 vW H locs ls hp hP hD hS hl
  unfold ws_X1_countRows_37 at hp
  refine lv_iload hx hb aMS.2.2.2.2.2.2.2.1 (lv_at hl 7 rfl) ?_
  refine lv_bipush (v := 8) hx hb aMS.2.2.2.2.2.2.2.2.1 bp_8 ?_
  refine lv_icmp_ge (tgt := 118) hx hb aMS.2.2.2.2.2.2.2.2.2.1 (by decide) (fun hc => ?_) (fun hc => ?_)
  · have hp := hp.1 hc
    obtain ⟨v_4, aHM⟩ : ∃ y : Int32, y = x4 + (-1) := ⟨_, rfl⟩
    refine lv_iinc (v := v_4) (lv' := [(4, .int v_4), (0, .ref xY), (1, .ref vI), (2, .int x2), (3, .int x3), (5, .int x5), (6, .int x6), (7, .int x7)]) hx hb aX0.2.2.2.2.2.2.1 hl (k := 4) rfl (by rw [aHM]; rfl) (by decide) rfl (fun ls hl => ?_)
    have hp := hp v_4 aHM
    refine lv_goto (tgt := 10) hx hb aX0.2.2.2.2.2.2.2.1 (by decide) ?_
    exact hK10 x2 x3 v_4 vW H locs ls hp hP hD hS (lv_sub hl [1, 2, 3, 4, 0] rfl)
  · have hp := hp.2 hc
    refine lv_iconst (v := 0) hx hb aMS.2.2.2.2.2.2.2.2.2.2.1 aCi ?_
    refine lv_istore (lv' := [(8, .int 0), (0, .ref xY), (1, .ref vI), (2, .int x2), (3, .int x3), (4, .int x4), (5, .int x5), (6, .int x6), (7, .int x7)]) hx hb aMS.2.2.2.2.2.2.2.2.2.2.2.1 hl (by decide) rfl (fun ls hl => ?_)
    refine lv_iload hx hb aMS.2.2.2.2.2.2.2.2.2.2.2.2.1 (lv_at hl 6 rfl) ?_
    refine lv_iload hx hb aMS.2.2.2.2.2.2.2.2.2.2.2.2.2.1 (lv_at hl 8 rfl) ?_
    refine lv_ishr hx hb aMS.2.2.2.2.2.2.2.2.2.2.2.2.2.2.1 ?_
    refine lv_topi (fun v_5 aJD => ?_)
    have hp := hp v_5 aJD
    refine lv_iconst (v := 1) hx hb aMS.2.2.2.2.2.2.2.2.2.2.2.2.2.2.2 aDx ?_
    refine lv_iand hx hb aMT.1 ?_
    refine lv_if_eq (tgt := 92) hx hb aMT.2.1 (by decide) (fun hc => ?_) (fun hc => ?_)
    · have hp := hp.1 hc
      exact ks_X1_countRows_92 C0 hK10 hKn x2 x3 x4 x5 x6 x7 0 vW H locs ls hp hP hD hS (lv_sub hl [1, 2, 3, 4, 5, 6, 7, 8, 0] rfl)
    · have hp := hp.2 hc
      refine lv_iload hx hb aMT.2.2.1 (lv_at hl 5 rfl) ?_
      refine lv_aload_n hx hb aMT.2.2.2.1 rfl (lv_at hl 1 rfl) ?_
      refine va_get (D := (dC, dI)) (ci := 1) (v := .int vR) (C := RX1) (T := TX1) (N := 3) hx hb hts i_X1 hown hK hP 2 rfl rfl 2 (lbz rfl) (hts _ q_592) (fun _ h9 => h9) rfl aMT.2.2.2.2.1 ?_
      refine lv_iconst (v := 1) hx hb aMT.2.2.2.2.2.1 aDx ?_
      refine lv_isub hx hb aMT.2.2.2.2.2.2.1 ?_
      refine lv_icmp_ne (tgt := 72) hx hb aMT.2.2.2.2.2.2.2.1 (by decide) (fun hc => ?_) (fun hc => ?_)
      · have hp := hp.1 hc
        refine lv_iload hx hb aMT.2.2.2.2.2.2.2.2.2.2.1 (lv_at hl 7 rfl) ?_
        refine lv_aload_n hx hb aMT.2.2.2.2.2.2.2.2.2.2.2.1 rfl (lv_at hl 1 rfl) ?_
        refine va_get (D := (dC, dI)) (ci := 1) (v := .ref yQ) (C := RX1) (T := TX1) (N := 3) hx hb hts i_X1 hown hK hP 2 rfl rfl 1 (lbz rfl) (hts _ q_598) (fun _ h9 => h9) rfl aMT.2.2.2.2.2.2.2.2.2.2.2.2.1 ?_
        refine lv_iload hx hb aMT.2.2.2.2.2.2.2.2.2.2.2.2.2.1 (lv_at hl 5 rfl) ?_
        refine lv_iconst (v := 1) hx hb aMT.2.2.2.2.2.2.2.2.2.2.2.2.2.2.1 aDx ?_
        refine lv_iadd hx hb aMT.2.2.2.2.2.2.2.2.2.2.2.2.2.2.2 ?_
        refine lv_topi (fun aEr aNB => ?_)
        have hp := hp aEr aNB
        refine lv_bipush (v := 8) hx hb aMU.1 bp_8 ?_
        refine lv_imul hx hb aMU.2.1 ?_
        refine lv_topi (fun aGH ev_11 => ?_)
        have hp := hp aGH ev_11
        refine lv_iload hx hb aMU.2.2.1 (lv_at hl 8 rfl) ?_
        refine lv_iadd hx hb aMU.2.2.2.1 ?_
        refine lv_topi (fun aEp ev_12 => ?_)
        have hp := hp aEp ev_12
        have hin := hp.1
        have hp := hp.2
        refine va_iald hx hb hK hP 4 0 rfl rfl hin aMU.2.2.2.2.1 ?_
        refine lv_isub hx hb aMU.2.2.2.2.2.1 ?_
        refine lv_topi (fun aIQ ev_13 => ?_)
        have hp := hp aIQ ev_13
        exact ks_X1_countRows_90 C0 hK10 hKn x2 x3 x4 x5 x6 x7 aIQ vW H locs ls hp hP hD hS (lv_sub hl [1, 2, 3, 4, 5, 6, 7, 8] rfl)
      · have hp := hp.2 hc
        refine lv_iconst (v := 1) hx hb aMT.2.2.2.2.2.2.2.2.1 aDx ?_
        refine lv_goto (tgt := 90) hx hb aMT.2.2.2.2.2.2.2.2.2.1 (by decide) ?_
        exact ks_X1_countRows_90 C0 hK10 hKn x2 x3 x4 x5 x6 x7 1 vW H locs ls hp hP hD hS (lv_sub hl [1, 2, 3, 4, 5, 6, 7, 8] rfl)
set_option maxHeartbeats 4000000 in
set_option maxRecDepth 100000 in
theorem kb_X1_countRows_37 (C0 : gc aCC (some .int) 9 RX1 (dC, dI) (tyl cI cC cZ cB cJ) A p s m args meth c) {K10 : Int32 -> Int32 -> Int32 -> (Nat -> Int32) -> Prop} (hK10 : ∀ (x2 : Int32) (x3 : Int32) (x4 : Int32) (vW : Nat -> Int32) (H : Heap) (locs : List Loc) (ls : Array Slot), K10 x2 x3 x4 vW -> va_P (dC, dI) classes (aD8 cI cC cZ cB cJ vI tJ jJ mY pG pD pE eO xY aAB yQ dN bD bJ aI mX vR xW vW) H -> va_D A (aD8 cI cC cZ cB cJ vI tJ jJ mY pG pD pE eO xY aAB yQ dN bD bJ aI mX vR xW vW) -> va_S A s.heap H locs -> lv_has ls 9 [(0, .ref xY), (1, .ref vI), (2, .int x2), (3, .int x3), (4, .int x4)] -> W p l e aPT s m args below meth c H locs 0 0 (MQ below (aQ6 dC dI cI cC cZ cB cJ A vI tJ jJ mY pG pD pE eO xY aAB yQ dN bD bJ aI mX vR xW post) args s 0 0 A) (F0 m 10 ls [])) : ∀ (n : Nat), ∀ (x2 x3 x4 x5 x6 x7 : Int32) (vW : Nat -> Int32) (H : Heap) (locs : List Loc) (ls : Array Slot), (wb_X1_countRows_37 post K10 bD mX vR xW n) x2 x3 x4 x5 x6 x7 vW -> va_P (dC, dI) classes (aD8 cI cC cZ cB cJ vI tJ jJ mY pG pD pE eO xY aAB yQ dN bD bJ aI mX vR xW vW) H -> va_D A (aD8 cI cC cZ cB cJ vI tJ jJ mY pG pD pE eO xY aAB yQ dN bD bJ aI mX vR xW vW) -> va_S A s.heap H locs -> lv_has ls 9 [(0, .ref xY), (1, .ref vI), (2, .int x2), (3, .int x3), (4, .int x4), (5, .int x5), (6, .int x6), (7, .int x7)] -> W p l e aPT s m args below meth c H locs 0 0 (MQ below (aQ6 dC dI cI cC cZ cB cJ A vI tJ jJ mY pG pD pE eO xY aAB yQ dN bD bJ aI mX vR xW post) args s 0 0 A) (F0 m 37 ls []) := by
  intro n
  induction n with
  | zero =>
    intro x2 x3 x4 x5 x6 x7 vW H locs ls hp
    exact False.elim hp
  | succ n ih =>
    intro x2 x3 x4 x5 x6 x7 vW H locs ls hp
    exact ks_X1_countRows_37 C0 hK10 ih x2 x3 x4 x5 x6 x7 vW H locs ls hp
def ws_X1_countRows_10 (post : Int32 -> (Nat -> Int32) -> Prop) (next : Int32 -> Int32 -> Int32 -> (Nat -> Int32) -> Prop) (bD : Int32) (mX : Nat -> Int32) (vR : Int32) (xW : Nat -> Int32) (x2 x3 x4 : Int32) (vW : Nat -> Int32) : Prop := (x4 < 0 -> post x3 vW) /\ (¬ x4 < 0 -> vp_in x4 6 /\ (∀ v_2 : Int32, v_2 = xW x4.toNatClampNeg -> bBR (fun r_3 => ∃ n : Nat, wb_X1_countRows_37 post next bD mX vR xW n x2 0 x4 r_3 x3 0 vW) v_2 x2 bD mX))
noncomputable def wb_X1_countRows_10 (post : Int32 -> (Nat -> Int32) -> Prop) (bD : Int32) (mX : Nat -> Int32) (vR : Int32) (xW : Nat -> Int32) : Nat -> Int32 -> Int32 -> Int32 -> (Nat -> Int32) -> Prop := fun n => Nat.rec (motive := fun _ => Int32 -> Int32 -> Int32 -> (Nat -> Int32) -> Prop) (fun _ _ _ _ => False) (fun _ ih => ws_X1_countRows_10 post ih bD mX vR xW) n
set_option maxHeartbeats 4000000 in
set_option maxRecDepth 100000 in
theorem ks_X1_countRows_10 (C0 : gc aCC (some .int) 9 RX1 (dC, dI) (tyl cI cC cZ cB cJ) A p s m args meth c) {next : Int32 -> Int32 -> Int32 -> (Nat -> Int32) -> Prop} (hKn : ∀ (x2 : Int32) (x3 : Int32) (x4 : Int32) (vW : Nat -> Int32) (H : Heap) (locs : List Loc) (ls : Array Slot), next x2 x3 x4 vW -> va_P (dC, dI) classes (aD8 cI cC cZ cB cJ vI tJ jJ mY pG pD pE eO xY aAB yQ dN bD bJ aI mX vR xW vW) H -> va_D A (aD8 cI cC cZ cB cJ vI tJ jJ mY pG pD pE eO xY aAB yQ dN bD bJ aI mX vR xW vW) -> va_S A s.heap H locs -> lv_has ls 9 [(0, .ref xY), (1, .ref vI), (2, .int x2), (3, .int x3), (4, .int x4)] -> W p l e aPT s m args below meth c H locs 0 0 (MQ below (aQ6 dC dI cI cC cZ cB cJ A vI tJ jJ mY pG pD pE eO xY aAB yQ dN bD bJ aI mX vR xW post) args s 0 0 A) (F0 m 10 ls [])) : ∀ (x2 x3 x4 : Int32) (vW : Nat -> Int32) (H : Heap) (locs : List Loc) (ls : Array Slot), (ws_X1_countRows_10 post next bD mX vR xW) x2 x3 x4 vW -> va_P (dC, dI) classes (aD8 cI cC cZ cB cJ vI tJ jJ mY pG pD pE eO xY aAB yQ dN bD bJ aI mX vR xW vW) H -> va_D A (aD8 cI cC cZ cB cJ vI tJ jJ mY pG pD pE eO xY aAB yQ dN bD bJ aI mX vR xW vW) -> va_S A s.heap H locs -> lv_has ls 9 [(0, .ref xY), (1, .ref vI), (2, .int x2), (3, .int x3), (4, .int x4)] -> W p l e aPT s m args below meth c H locs 0 0 (MQ below (aQ6 dC dI cI cC cZ cB cJ A vI tJ jJ mY pG pD pE eO xY aAB yQ dN bD bJ aI mX vR xW post) args s 0 0 A) (F0 m 10 ls []) := by
  obtain ⟨hx, hb, hr, hml, hown, hts, hlocks, hA, hK, hN, tL, tM, hZL, hTL, hZM, hTM, hZX⟩ := id C0
  intro x2 x3 x4 vW H locs ls hp hP hD hS hl
  unfold ws_X1_countRows_10 at hp
  refine lv_iload hx hb aOD.2.2.2.2.2.2.2.1 (lv_at hl 4 rfl) ?_
  refine lv_if_lt (tgt := 124) hx hb aOD.2.2.2.2.2.2.2.2.1 (by decide) (fun hc => ?_) (fun hc => ?_)
  · have hp := hp.1 hc
    refine lv_iload_n hx hb aX0.2.2.2.2.2.2.2.2.1 rfl (lv_at hl 3 rfl) ?_
    exact W.iret (v := x3) hx hb hr (fun t ht hW => ⟨⟨x3, vW, rfl, hp, by rw [ht]; exact hP, va_K.moved hW.alike hK, hD⟩, hS.F ht⟩) hS.2.2 aX0.2.2.2.2.2.2.2.2.2
  · have hp := hp.2 hc
    refine lv_aload_n hx hb aOD.2.2.2.2.2.2.2.2.2.1 rfl (lv_at hl 1 rfl) ?_
    refine lv_aload_n hx hb aOD.2.2.2.2.2.2.2.2.2.2.1 rfl (lv_at hl 0 rfl) ?_
    refine va_get (D := (dC, dI)) (ci := 1) (v := .ref aAB) (C := RX1) (T := TX1) (N := 3) hx hb hts i_X1 hown hK hP 2 rfl rfl 0 (lbz rfl) (hts _ q_594) (fun _ h9 => h9) rfl aOD.2.2.2.2.2.2.2.2.2.2.2.1 ?_
    refine lv_iload hx hb aOD.2.2.2.2.2.2.2.2.2.2.2.2.1 (lv_at hl 4 rfl) ?_
    have hin := hp.1
    have hp := hp.2
    refine va_iald hx hb hK hP 3 0 rfl rfl hin aOD.2.2.2.2.2.2.2.2.2.2.2.2.2.1 ?_
    refine lv_topi (fun v_2 aGO => ?_)
    have hp := hp v_2 aGO
    refine lv_iload_n hx hb aOD.2.2.2.2.2.2.2.2.2.2.2.2.2.2.1 rfl (lv_at hl 2 rfl) ?_
    have hm := mgk (wc := (aJ3 cI cC cZ cB cJ vI tJ jJ mY pG pD pE eO dN bD bJ aI mX)) hP mk_17 5 rfl rfl rfl
    refine yW hP hD hS hA (yS mk_17) (aAi mk_17) hm.1 hm.2 (aAk _) (zW _) (zF (As := [.int v_2, .int x2]) (rest := []) C0 hP hD hS (yS mk_17) hm.1 (aAl _) 0 3 rfl rfl (c_X3_standingsAt l dC dI cI cC cZ cB cJ vI tJ jJ mY pG pD pE eO H.size v_2 x2 dN bD bJ aI mX _ hp) q_588 q_597 q_589 q_590 q_48 h_X3_standingsAt rfl rfl ⟨lbz rfl, lbz rfl⟩ rfl rfl hl.1 rfl (lv_room (lbz rfl)) aOD.2.2.2.2.2.2.2.2.2.2.2.2.2.2.2 ⟨Nat.zero_le _, Nat.zero_le _⟩) (fun r_3 u H locs hp hP hD hS => ?_)
    have hPD := PDm (ws' := (aD8 cI cC cZ cB cJ vI tJ jJ mY pG pD pE eO xY aAB yQ dN bD bJ aI mX vR xW vW)) hP hD 5 rfl rfl rfl
    have hP := hPD.1
    have hD := hPD.2
    refine lv_istore (lv' := [(5, .int r_3), (0, .ref xY), (1, .ref vI), (2, .int x2), (3, .int x3), (4, .int x4)]) hx hb aMS.1 hl (by decide) rfl (fun ls hl => ?_)
    refine lv_iload_n hx hb aMS.2.1 rfl (lv_at hl 4 rfl) ?_
    refine lv_istore (lv' := [(6, .int x3), (5, .int r_3), (0, .ref xY), (1, .ref vI), (2, .int x2), (3, .int x3), (4, .int x4)]) hx hb aMS.2.2.1 hl (by decide) rfl (fun ls hl => ?_)
    refine lv_iconst (v := 0) hx hb aMS.2.2.2.1 aCi ?_
    refine lv_istore_n (lv' := [(3, .int 0), (6, .int x3), (5, .int r_3), (0, .ref xY), (1, .ref vI), (2, .int x2), (4, .int x4)]) hx hb aMS.2.2.2.2.1 rfl hl (by decide) rfl (fun ls hl => ?_)
    refine lv_iconst (v := 0) hx hb aMS.2.2.2.2.2.1 aCi ?_
    refine lv_istore (lv' := [(7, .int 0), (3, .int 0), (6, .int x3), (5, .int r_3), (0, .ref xY), (1, .ref vI), (2, .int x2), (4, .int x4)]) hx hb aMS.2.2.2.2.2.2.1 hl (by decide) rfl (fun ls hl => ?_)
    obtain ⟨n9, hp⟩ := hp
    exact kb_X1_countRows_37 C0 hKn n9 x2 0 x4 r_3 x3 0 vW H locs ls hp hP hD hS (lv_sub hl [4, 5, 6, 1, 7, 3, 2, 0] rfl)
set_option maxHeartbeats 4000000 in
set_option maxRecDepth 100000 in
theorem kb_X1_countRows_10 (C0 : gc aCC (some .int) 9 RX1 (dC, dI) (tyl cI cC cZ cB cJ) A p s m args meth c) : ∀ (n : Nat), ∀ (x2 x3 x4 : Int32) (vW : Nat -> Int32) (H : Heap) (locs : List Loc) (ls : Array Slot), (wb_X1_countRows_10 post bD mX vR xW n) x2 x3 x4 vW -> va_P (dC, dI) classes (aD8 cI cC cZ cB cJ vI tJ jJ mY pG pD pE eO xY aAB yQ dN bD bJ aI mX vR xW vW) H -> va_D A (aD8 cI cC cZ cB cJ vI tJ jJ mY pG pD pE eO xY aAB yQ dN bD bJ aI mX vR xW vW) -> va_S A s.heap H locs -> lv_has ls 9 [(0, .ref xY), (1, .ref vI), (2, .int x2), (3, .int x3), (4, .int x4)] -> W p l e aPT s m args below meth c H locs 0 0 (MQ below (aQ6 dC dI cI cC cZ cB cJ A vI tJ jJ mY pG pD pE eO xY aAB yQ dN bD bJ aI mX vR xW post) args s 0 0 A) (F0 m 10 ls []) := by
  intro n
  induction n with
  | zero =>
    intro x2 x3 x4 vW H locs ls hp
    exact False.elim hp
  | succ n ih =>
    intro x2 x3 x4 vW H locs ls hp
    exact ks_X1_countRows_10 C0 ih x2 x3 x4 vW H locs ls hp
end S_X1_countRows
def wp_X1_countRows (post : Int32 -> (Nat -> Int32) -> Prop) (p1 bD : Int32) (mX : Nat -> Int32) (vR : Int32) (xW vW : Nat -> Int32) : Prop := ∀ v_1 : Int32, v_1 = vR - 1 -> ∃ n : Nat, wb_X1_countRows_10 post bD mX vR xW n p1 0 v_1 vW
set_option maxHeartbeats 4000000 in
set_option maxRecDepth 100000 in
theorem c_X1_countRows (l : Launch) (dC : Nat -> ClassId) (dI : Nat -> Nat -> Nat) (cI cC cZ cB cJ : ClassId) (vI tJ jJ mY pG pD pE eO xY aAB yQ sz : Nat) (p1 dN bD bJ aI : Int32) (mX : Nat -> Int32) (vR : Int32) (xW vW : Nat -> Int32) (post : Int32 -> (Nat -> Int32) -> Prop) (hw : wp_X1_countRows post p1 bD mX vR xW vW) : Met l yX1_countRows (gw yX1_countRows aCC 9 (some .int)) aPT (va_Pc [.ref xY, .ref vI, .int p1] (gPre (dC, dI) (tyl cI cC cZ cB cJ) (aD8 cI cC cZ cB cJ vI tJ jJ mY pG pD pE eO xY aAB yQ dN bD bJ aI mX vR xW vW) sz)) (aQ6 dC dI cI cC cZ cB cJ (va_A (aD8 cI cC cZ cB cJ vI tJ jJ mY pG pD pE eO xY aAB yQ dN bD bJ aI mX vR xW vW) sz) vI tJ jJ mY pG pD pE eO xY aAB yQ dN bD bJ aI mX vR xW post) 0 0 (va_A (aD8 cI cC cZ cB cJ vI tJ jJ mY pG pD pE eO xY aAB yQ dN bD bJ aI mX vR xW vW) sz) := by
  refine aBJ (own := RX1) (dC, dI) (tyl cI cC cZ cB cJ) (aD8 cI cC cZ cB cJ vI tJ jJ mY pG pD pE eO xY aAB yQ dN bD bJ aI mX vR xW vW) sz [.ref xY, .ref vI, .int p1] (fun A => aQ6 dC dI cI cC cZ cB cJ A vI tJ jJ mY pG pD pE eO xY aAB yQ dN bD bJ aI mX vR xW post) pn_RX1 rfl (lbz rfl) ?_
  intro p e s m args below meth c A H locs ls C0 hP hD hS hl
  have hl : lv_has ls 9 [(0, .ref xY), (1, .ref vI), (2, .int p1)] := hl
  obtain ⟨hx, hb, hr, hml, hown, hts, hlocks, hA, hK, hN, tL, tM, hZL, hTL, hZM, hTM, hZX⟩ := id C0
  have hp := hw
  unfold wp_X1_countRows at hp
  refine lv_iconst (v := 0) hx hb aOD.1 aCi ?_
  refine lv_istore_n (lv' := [(3, .int 0), (0, .ref xY), (1, .ref vI), (2, .int p1)]) hx hb aOD.2.1 rfl hl (by decide) rfl (fun ls hl => ?_)
  refine lv_aload_n hx hb aOD.2.2.1 rfl (lv_at hl 1 rfl) ?_
  refine va_get (D := (dC, dI)) (ci := 1) (v := .int vR) (C := RX1) (T := TX1) (N := 3) hx hb hts i_X1 hown hK hP 2 rfl rfl 2 (lbz rfl) (hts _ q_592) (fun _ h9 => h9) rfl aOD.2.2.2.1 ?_
  refine lv_iconst (v := 1) hx hb aOD.2.2.2.2.1 aDx ?_
  refine lv_isub hx hb aOD.2.2.2.2.2.1 ?_
  refine lv_topi (fun v_1 aFJ => ?_)
  have hp := hp v_1 aFJ
  refine lv_istore (lv' := [(4, .int v_1), (3, .int 0), (0, .ref xY), (1, .ref vI), (2, .int p1)]) hx hb aOD.2.2.2.2.2.2.1 hl (by decide) rfl (fun ls hl => ?_)
  obtain ⟨n9, hp⟩ := hp
  exact kb_X1_countRows_10 C0 n9 p1 0 v_1 vW H locs ls hp hP hD hS (lv_sub hl [2, 3, 4, 1, 0] rfl)
abbrev aQ8 (cI cC cZ cB cJ : ClassId) (xY aAB yQ : Nat) (vR : Int32) (vW : Nat -> Int32) : va_W := [(xY, .inr (1, [.ref aAB, .ref yQ, .int vR])), (yQ, .inl (cI, 48, .inl vW))]
abbrev q_X1_firstFor (dC : Nat -> ClassId) (dI : Nat -> Nat -> Nat) (cI cC cZ cB cJ : ClassId) (A : Nat -> Prop) (xY aAB yQ : Nat) (vR : Int32) (vW : Nat -> Int32) (post : Int32 -> Prop) : Array Value -> State -> Outcome -> State -> Prop := va_Qi (fun (r : Int32) (u : Unit) => post r) (fun u t => gB (dC, dI) (tyl cI cC cZ cB cJ) A (aQ8 cI cC cZ cB cJ xY aAB yQ vR vW) t) A
abbrev rm_X1_firstFor : Room := { frames := 0, cells := 0, slots := 0, locals := 0 }
section S_X1_firstFor
variable {p : Program} {l : Launch} {e : Env} {s : State} {m : MethodId} {args : Array Value} {below : List Frame} {meth : Method} {c : Code} {dC : Nat -> ClassId} {dI : Nat -> Nat -> Nat} {cI cC cZ cB cJ : ClassId} {A : Nat -> Prop} {xY aAB yQ : Nat} {vR : Int32} {vW : Nat -> Int32} {post : Int32 -> Prop}
def ws_X1_firstFor_29 (post : Int32 -> Prop) (K2 : Int32 -> Int32 -> Int32 -> Prop) (vW : Nat -> Int32) (x1 x2 x3 : Int32) : Prop := ∀ v_1 : Int32, v_1 = x3 + 1 -> K2 x1 x2 v_1
set_option maxHeartbeats 4000000 in
set_option maxRecDepth 100000 in
theorem ks_X1_firstFor_29 (C0 : gc aIo (some .int) 4 RX1 (dC, dI) (tyl cI cC cZ cB cJ) A p s m args meth c) {K2 : Int32 -> Int32 -> Int32 -> Prop} (hK2 : ∀ (x1 : Int32) (x2 : Int32) (x3 : Int32) (H : Heap) (locs : List Loc) (ls : Array Slot), K2 x1 x2 x3 -> va_P (dC, dI) classes (aQ8 cI cC cZ cB cJ xY aAB yQ vR vW) H -> va_D A (aQ8 cI cC cZ cB cJ xY aAB yQ vR vW) -> va_S A s.heap H locs -> lv_has ls 4 [(0, .ref xY), (1, .int x1), (2, .int x2), (3, .int x3)] -> W p l e rm_X1_firstFor s m args below meth c H locs 0 0 (MQ below (q_X1_firstFor dC dI cI cC cZ cB cJ A xY aAB yQ vR vW post) args s 0 0 A) (F0 m 2 ls [])) : ∀ (x1 x2 x3 : Int32) (H : Heap) (locs : List Loc) (ls : Array Slot), (ws_X1_firstFor_29 post K2 vW) x1 x2 x3 -> va_P (dC, dI) classes (aQ8 cI cC cZ cB cJ xY aAB yQ vR vW) H -> va_D A (aQ8 cI cC cZ cB cJ xY aAB yQ vR vW) -> va_S A s.heap H locs -> lv_has ls 4 [(0, .ref xY), (1, .int x1), (2, .int x2), (3, .int x3)] -> W p l e rm_X1_firstFor s m args below meth c H locs 0 0 (MQ below (q_X1_firstFor dC dI cI cC cZ cB cJ A xY aAB yQ vR vW post) args s 0 0 A) (F0 m 29 ls []) := by
  obtain ⟨hx, hb, hr, hml, hown, hts, hlocks, hA, hK, hN, tL, tM, hZL, hTL, hZM, hTM, hZX⟩ := id C0
  intro x1 x2 x3 H locs ls hp hP hD hS hl
  unfold ws_X1_firstFor_29 at hp
  obtain ⟨v_1, aFJ⟩ : ∃ y : Int32, y = x3 + 1 := ⟨_, rfl⟩
  refine lv_iinc (v := v_1) (lv' := [(3, .int v_1), (0, .ref xY), (1, .int x1), (2, .int x2)]) hx hb eX1_firstFor_24.2.2.2.1 hl (k := 3) rfl (by rw [aFJ]; rfl) (by decide) rfl (fun ls hl => ?_)
  have hp := hp v_1 aFJ
  refine lv_goto (tgt := 2) hx hb eX1_firstFor_24.2.2.2.2.1 (by decide) ?_
  exact hK2 x1 x2 v_1 H locs ls hp hP hD hS (lv_sub hl [1, 2, 3, 0] rfl)
def ws_X1_firstFor_2 (post : Int32 -> Prop) (next : Int32 -> Int32 -> Int32 -> Prop) (vW : Nat -> Int32) (x1 x2 x3 : Int32) : Prop := (8 <= x3 -> post (-1)) /\ (¬ 8 <= x3 -> (x3 = x2 -> ws_X1_firstFor_29 post next vW x1 x2 x3) /\ (¬ x3 = x2 -> ∀ v_2 : Int32, v_2 = x1 * 8 -> ∀ v_3 : Int32, v_3 = v_2 + x3 -> vp_in v_3 48 /\ (((vW v_3.toNatClampNeg) <= 0 -> ws_X1_firstFor_29 post next vW x1 x2 x3) /\ (¬ (vW v_3.toNatClampNeg) <= 0 -> post x3))))
noncomputable def wb_X1_firstFor_2 (post : Int32 -> Prop) (vW : Nat -> Int32) : Nat -> Int32 -> Int32 -> Int32 -> Prop := fun n => Nat.rec (motive := fun _ => Int32 -> Int32 -> Int32 -> Prop) (fun _ _ _ => False) (fun _ ih => ws_X1_firstFor_2 post ih vW) n
set_option maxHeartbeats 4000000 in
set_option maxRecDepth 100000 in
theorem ks_X1_firstFor_2 (C0 : gc aIo (some .int) 4 RX1 (dC, dI) (tyl cI cC cZ cB cJ) A p s m args meth c) {next : Int32 -> Int32 -> Int32 -> Prop} (hKn : ∀ (x1 : Int32) (x2 : Int32) (x3 : Int32) (H : Heap) (locs : List Loc) (ls : Array Slot), next x1 x2 x3 -> va_P (dC, dI) classes (aQ8 cI cC cZ cB cJ xY aAB yQ vR vW) H -> va_D A (aQ8 cI cC cZ cB cJ xY aAB yQ vR vW) -> va_S A s.heap H locs -> lv_has ls 4 [(0, .ref xY), (1, .int x1), (2, .int x2), (3, .int x3)] -> W p l e rm_X1_firstFor s m args below meth c H locs 0 0 (MQ below (q_X1_firstFor dC dI cI cC cZ cB cJ A xY aAB yQ vR vW post) args s 0 0 A) (F0 m 2 ls [])) : ∀ (x1 x2 x3 : Int32) (H : Heap) (locs : List Loc) (ls : Array Slot), (ws_X1_firstFor_2 post next vW) x1 x2 x3 -> va_P (dC, dI) classes (aQ8 cI cC cZ cB cJ xY aAB yQ vR vW) H -> va_D A (aQ8 cI cC cZ cB cJ xY aAB yQ vR vW) -> va_S A s.heap H locs -> lv_has ls 4 [(0, .ref xY), (1, .int x1), (2, .int x2), (3, .int x3)] -> W p l e rm_X1_firstFor s m args below meth c H locs 0 0 (MQ below (q_X1_firstFor dC dI cI cC cZ cB cJ A xY aAB yQ vR vW post) args s 0 0 A) (F0 m 2 ls []) := by
  obtain ⟨hx, hb, hr, hml, hown, hts, hlocks, hA, hK, hN, tL, tM, hZL, hTL, hZM, hTM, hZX⟩ := id C0
  intro x1 x2 x3 H locs ls hp hP hD hS hl
  unfold ws_X1_firstFor_2 at hp
  refine lv_iload_n hx hb aQh.2.2.1 rfl (lv_at hl 3 rfl) ?_
  refine lv_bipush (v := 8) hx hb aQh.2.2.2.1 bp_8 ?_
  refine lv_icmp_ge (tgt := 35) hx hb aQh.2.2.2.2.1 (by decide) (fun hc => ?_) (fun hc => ?_)
  · have hp := hp.1 hc
    refine lv_iconst (v := (-1)) hx hb eX1_firstFor_24.2.2.2.2.2.1 aEJ ?_
    exact W.iret (v := (-1)) hx hb hr (fun t ht hW => ⟨⟨(-1), (), rfl, hp, by rw [ht]; exact hP, va_K.moved hW.alike hK, hD⟩, hS.F ht⟩) hS.2.2 eX1_firstFor_24.2.2.2.2.2.2
  · have hp := hp.2 hc
    refine lv_iload_n hx hb aQh.2.2.2.2.2.1 rfl (lv_at hl 3 rfl) ?_
    refine lv_iload_n hx hb aQh.2.2.2.2.2.2.1 rfl (lv_at hl 2 rfl) ?_
    refine lv_icmp_eq (tgt := 29) hx hb aQh.2.2.2.2.2.2.2.1 (by decide) (fun hc => ?_) (fun hc => ?_)
    · have hp := hp.1 hc
      exact ks_X1_firstFor_29 C0 hKn x1 x2 x3 H locs ls hp hP hD hS (lv_sub hl [0, 1, 2, 3] rfl)
    · have hp := hp.2 hc
      refine lv_aload_n hx hb aQh.2.2.2.2.2.2.2.2.1 rfl (lv_at hl 0 rfl) ?_
      refine va_get (D := (dC, dI)) (ci := 1) (v := .ref yQ) (C := RX1) (T := TX1) (N := 3) hx hb hts i_X1 hown hK hP 0 rfl rfl 1 (lbz rfl) (hts _ q_598) (fun _ h9 => h9) rfl aQh.2.2.2.2.2.2.2.2.2.1 ?_
      refine lv_iload_n hx hb aQh.2.2.2.2.2.2.2.2.2.2.1 rfl (lv_at hl 1 rfl) ?_
      refine lv_bipush (v := 8) hx hb aQh.2.2.2.2.2.2.2.2.2.2.2.1 bp_8 ?_
      refine lv_imul hx hb aQh.2.2.2.2.2.2.2.2.2.2.2.2.1 ?_
      refine lv_topi (fun v_2 aGO => ?_)
      have hp := hp v_2 aGO
      refine lv_iload_n hx hb aQh.2.2.2.2.2.2.2.2.2.2.2.2.2.1 rfl (lv_at hl 3 rfl) ?_
      refine lv_iadd hx hb aQh.2.2.2.2.2.2.2.2.2.2.2.2.2.2.1 ?_
      refine lv_topi (fun v_3 aGW => ?_)
      have hp := hp v_3 aGW
      have hin := hp.1
      have hp := hp.2
      refine va_iald hx hb hK hP 1 0 rfl rfl hin aQh.2.2.2.2.2.2.2.2.2.2.2.2.2.2.2 ?_
      refine lv_if_le (tgt := 29) hx hb eX1_firstFor_24.1 (by decide) (fun hc => ?_) (fun hc => ?_)
      · have hp := hp.1 hc
        exact ks_X1_firstFor_29 C0 hKn x1 x2 x3 H locs ls hp hP hD hS (lv_sub hl [0, 1, 2, 3] rfl)
      · have hp := hp.2 hc
        refine lv_iload_n hx hb eX1_firstFor_24.2.1 rfl (lv_at hl 3 rfl) ?_
        exact W.iret (v := x3) hx hb hr (fun t ht hW => ⟨⟨x3, (), rfl, hp, by rw [ht]; exact hP, va_K.moved hW.alike hK, hD⟩, hS.F ht⟩) hS.2.2 eX1_firstFor_24.2.2.1
set_option maxHeartbeats 4000000 in
set_option maxRecDepth 100000 in
theorem kb_X1_firstFor_2 (C0 : gc aIo (some .int) 4 RX1 (dC, dI) (tyl cI cC cZ cB cJ) A p s m args meth c) : ∀ (n : Nat), ∀ (x1 x2 x3 : Int32) (H : Heap) (locs : List Loc) (ls : Array Slot), (wb_X1_firstFor_2 post vW n) x1 x2 x3 -> va_P (dC, dI) classes (aQ8 cI cC cZ cB cJ xY aAB yQ vR vW) H -> va_D A (aQ8 cI cC cZ cB cJ xY aAB yQ vR vW) -> va_S A s.heap H locs -> lv_has ls 4 [(0, .ref xY), (1, .int x1), (2, .int x2), (3, .int x3)] -> W p l e rm_X1_firstFor s m args below meth c H locs 0 0 (MQ below (q_X1_firstFor dC dI cI cC cZ cB cJ A xY aAB yQ vR vW post) args s 0 0 A) (F0 m 2 ls []) := by
  intro n
  induction n with
  | zero =>
    intro x1 x2 x3 H locs ls hp
    exact False.elim hp
  | succ n ih =>
    intro x1 x2 x3 H locs ls hp
    exact ks_X1_firstFor_2 C0 ih x1 x2 x3 H locs ls hp
end S_X1_firstFor
def wp_X1_firstFor (post : Int32 -> Prop) (p0 p1 : Int32) (vW : Nat -> Int32) : Prop := ∃ n : Nat, wb_X1_firstFor_2 post vW n p0 p1 0
set_option maxHeartbeats 4000000 in
set_option maxRecDepth 100000 in
theorem c_X1_firstFor (l : Launch) (dC : Nat -> ClassId) (dI : Nat -> Nat -> Nat) (cI cC cZ cB cJ : ClassId) (xY aAB yQ sz : Nat) (p0 p1 vR : Int32) (vW : Nat -> Int32) (post : Int32 -> Prop) (hw : wp_X1_firstFor post p0 p1 vW) : Met l yX1_firstFor (gw yX1_firstFor aIo 4 (some .int)) rm_X1_firstFor (va_Pc [.ref xY, .int p0, .int p1] (gPre (dC, dI) (tyl cI cC cZ cB cJ) (aQ8 cI cC cZ cB cJ xY aAB yQ vR vW) sz)) (q_X1_firstFor dC dI cI cC cZ cB cJ (va_A (aQ8 cI cC cZ cB cJ xY aAB yQ vR vW) sz) xY aAB yQ vR vW post) 0 0 (va_A (aQ8 cI cC cZ cB cJ xY aAB yQ vR vW) sz) := by
  refine aBJ (own := RX1) (dC, dI) (tyl cI cC cZ cB cJ) (aQ8 cI cC cZ cB cJ xY aAB yQ vR vW) sz [.ref xY, .int p0, .int p1] (fun A => q_X1_firstFor dC dI cI cC cZ cB cJ A xY aAB yQ vR vW post) pn_RX1 rfl (lbz rfl) ?_
  intro p e s m args below meth c A H locs ls C0 hP hD hS hl
  have hl : lv_has ls 4 [(0, .ref xY), (1, .int p0), (2, .int p1)] := hl
  obtain ⟨hx, hb, hr, hml, hown, hts, hlocks, hA, hK, hN, tL, tM, hZL, hTL, hZM, hTM, hZX⟩ := id C0
  have hp := hw
  unfold wp_X1_firstFor at hp
  refine lv_iconst (v := 0) hx hb aQh.1 aCi ?_
  refine lv_istore_n (lv' := [(3, .int 0), (0, .ref xY), (1, .int p0), (2, .int p1)]) hx hb aQh.2.1 rfl hl (by decide) rfl (fun ls hl => ?_)
  obtain ⟨n9, hp⟩ := hp
  exact kb_X1_firstFor_2 C0 n9 p0 p1 0 H locs ls hp hP hD hS (lv_sub hl [1, 2, 3, 0] rfl)
abbrev aI9 (cI cC cZ cB cJ : ClassId) (a_x xI xH xB vI wY xX yA xY uD rG aAB yQ : Nat) (qB : Int32) (jK : Nat -> Int32) (vR : Int32) (vW : Nat -> Int32) : va_W := [(a_x, .inr (9, [.ref xI, .ref xH, .ref xB, .ref vI, .ref wY, .ref xX, .ref yA, .ref xY, .ref uD])), (yA, .inr (6, [.ref rG, .int qB])), (rG, .inl (cI, 16, .inl jK)), (xY, .inr (1, [.ref aAB, .ref yQ, .int vR])), (yQ, .inl (cI, 48, .inl vW))]
abbrev q_X9_tellLeastMarks (dC : Nat -> ClassId) (dI : Nat -> Nat -> Nat) (cI cC cZ cB cJ : ClassId) (A : Nat -> Prop) (a_x xI xH xB vI wY xX yA xY uD rG aAB yQ : Nat) (vR : Int32) (vW : Nat -> Int32) (post : Int32 -> (Nat -> Int32) -> Prop) : Array Value -> State -> Outcome -> State -> Prop := va_Qv (fun (u : Int32 × (Nat -> Int32)) => post u.1 u.2) (fun u t => gB (dC, dI) (tyl cI cC cZ cB cJ) A (aI9 cI cC cZ cB cJ a_x xI xH xB vI wY xX yA xY uD rG aAB yQ u.1 u.2 vR vW) t) A
abbrev rm_X9_tellLeastMarks : Room := { frames := 1, cells := 0, slots := 0, locals := 23 }
section S_X9_tellLeastMarks
variable {p : Program} {l : Launch} {e : Env} {s : State} {m : MethodId} {args : Array Value} {below : List Frame} {meth : Method} {c : Code} {dC : Nat -> ClassId} {dI : Nat -> Nat -> Nat} {cI cC cZ cB cJ : ClassId} {A : Nat -> Prop} {a_x xI xH xB vI wY xX yA xY uD rG aAB yQ : Nat} {vR : Int32} {vW : Nat -> Int32} {post : Int32 -> (Nat -> Int32) -> Prop}
def ws_X9_tellLeastMarks_16 (post : Int32 -> (Nat -> Int32) -> Prop) (next : Int32 -> Int32 -> Int32 -> (Nat -> Int32) -> Prop) (vR : Int32) (vW : Nat -> Int32) (x2 x3 qB : Int32) (jK : Nat -> Int32) : Prop := (vR <= x3 -> post qB jK) /\ (¬ vR <= x3 -> wp_X1_firstFor (fun r_2 => wp_X6_add (fun aNH aHk => ∀ v_5 : Int32, v_5 = x3 + 1 -> next r_2 v_5 aNH aHk) r_2 qB jK) x3 x2 vW)
noncomputable def wb_X9_tellLeastMarks_16 (post : Int32 -> (Nat -> Int32) -> Prop) (vR : Int32) (vW : Nat -> Int32) : Nat -> Int32 -> Int32 -> Int32 -> (Nat -> Int32) -> Prop := fun n => Nat.rec (motive := fun _ => Int32 -> Int32 -> Int32 -> (Nat -> Int32) -> Prop) (fun _ _ _ _ => False) (fun _ ih => ws_X9_tellLeastMarks_16 post ih vR vW) n
set_option maxHeartbeats 4000000 in
set_option maxRecDepth 100000 in
theorem ks_X9_tellLeastMarks_16 (C0 : gc aDm none 4 RX9 (dC, dI) (tyl cI cC cZ cB cJ) A p s m args meth c) {next : Int32 -> Int32 -> Int32 -> (Nat -> Int32) -> Prop} (hKn : ∀ (x2 : Int32) (x3 : Int32) (qB : Int32) (jK : Nat -> Int32) (H : Heap) (locs : List Loc) (ls : Array Slot), next x2 x3 qB jK -> va_P (dC, dI) classes (aI9 cI cC cZ cB cJ a_x xI xH xB vI wY xX yA xY uD rG aAB yQ qB jK vR vW) H -> va_D A (aI9 cI cC cZ cB cJ a_x xI xH xB vI wY xX yA xY uD rG aAB yQ qB jK vR vW) -> va_S A s.heap H locs -> lv_has ls 4 [(0, .ref a_x), (2, .int x2), (3, .int x3)] -> W p l e rm_X9_tellLeastMarks s m args below meth c H locs 0 0 (MQ below (q_X9_tellLeastMarks dC dI cI cC cZ cB cJ A a_x xI xH xB vI wY xX yA xY uD rG aAB yQ vR vW post) args s 0 0 A) (F0 m 16 ls [])) : ∀ (x2 x3 qB : Int32) (jK : Nat -> Int32) (H : Heap) (locs : List Loc) (ls : Array Slot), (ws_X9_tellLeastMarks_16 post next vR vW) x2 x3 qB jK -> va_P (dC, dI) classes (aI9 cI cC cZ cB cJ a_x xI xH xB vI wY xX yA xY uD rG aAB yQ qB jK vR vW) H -> va_D A (aI9 cI cC cZ cB cJ a_x xI xH xB vI wY xX yA xY uD rG aAB yQ qB jK vR vW) -> va_S A s.heap H locs -> lv_has ls 4 [(0, .ref a_x), (2, .int x2), (3, .int x3)] -> W p l e rm_X9_tellLeastMarks s m args below meth c H locs 0 0 (MQ below (q_X9_tellLeastMarks dC dI cI cC cZ cB cJ A a_x xI xH xB vI wY xX yA xY uD rG aAB yQ vR vW post) args s 0 0 A) (F0 m 16 ls []) := by
  obtain ⟨hx, hb, hr, hml, hown, hts, hlocks, hA, hK, hN, tL, tM, hZL, hTL, hZM, hTM, hZX⟩ := id C0
  intro x2 x3 qB jK H locs ls hp hP hD hS hl
  unfold ws_X9_tellLeastMarks_16 at hp
  refine lv_iload_n hx hb aIH.2.2.2.2.2.2.2.2.2.2.1 rfl (lv_at hl 2 rfl) ?_
  refine lv_aload_n hx hb aIH.2.2.2.2.2.2.2.2.2.2.2.1 rfl (lv_at hl 0 rfl) ?_
  refine va_get (D := (dC, dI)) (ci := 9) (v := .ref xY) (C := RX9) (T := TX9) (N := 9) hx hb hts aC3 hown hK hP 0 rfl rfl 7 (lbz rfl) (hts _ q_599) (fun _ h9 => h9) rfl aIH.2.2.2.2.2.2.2.2.2.2.2.2.1 ?_
  refine va_get (D := (dC, dI)) (ci := 1) (v := .int vR) (C := RX1) (T := TX1) (N := 3) hx hb hts i_X1 hown hK hP 3 rfl rfl 2 (lbz rfl) (hts _ q_600) (fun _ h9 => h9) rfl aIH.2.2.2.2.2.2.2.2.2.2.2.2.2.1 ?_
  refine lv_icmp_ge (tgt := 51) hx hb aIH.2.2.2.2.2.2.2.2.2.2.2.2.2.2.1 (by decide) (fun hc => ?_) (fun hc => ?_)
  · have hp := hp.1 hc
    exact W.vret hx hb hr (fun t ht hW => ⟨⟨(qB, jK), rfl, hp, by rw [ht]; exact hP, va_K.moved hW.alike hK, hD⟩, hS.F ht⟩) hS.2.2 aLZ.2.2.2.2.2.2.2.2.2.2.2
  · have hp := hp.2 hc
    refine lv_aload_n hx hb aIH.2.2.2.2.2.2.2.2.2.2.2.2.2.2.2 rfl (lv_at hl 0 rfl) ?_
    refine va_get (D := (dC, dI)) (ci := 9) (v := .ref xY) (C := RX9) (T := TX9) (N := 9) hx hb hts aC3 hown hK hP 0 rfl rfl 7 (lbz rfl) (hts _ q_599) (fun _ h9 => h9) rfl aLZ.1 ?_
    refine lv_iload_n hx hb aLZ.2.1 rfl (lv_at hl 2 rfl) ?_
    refine lv_iload_n hx hb aLZ.2.2.1 rfl (lv_at hl 1 rfl) ?_
    have hm := mgk (wc := (aQ8 cI cC cZ cB cJ xY aAB yQ vR vW)) hP mk_186 5 rfl rfl rfl
    refine yW hP hD hS hA (yS mk_186) (aAi mk_186) hm.1 hm.2 (aAk _) (zW _) (zF (As := [.int x3, .int x2]) (rest := []) C0 hP hD hS (yS mk_186) hm.1 (aAl _) 3 1 rfl rfl (c_X1_firstFor l dC dI cI cC cZ cB cJ xY aAB yQ H.size x3 x2 vR vW _ hp) q_601 q_605 q_603 q_604 q_602 h_X1_firstFor rfl rfl ⟨lbz rfl, lbz rfl⟩ rfl rfl hl.1 rfl (lv_room (lbz rfl)) aLZ.2.2.2.1 ⟨Nat.zero_le _, Nat.zero_le _⟩) (fun r_2 u H locs hp hP hD hS => ?_)
    have hPD := PDm (ws' := (aI9 cI cC cZ cB cJ a_x xI xH xB vI wY xX yA xY uD rG aAB yQ qB jK vR vW)) hP hD 5 rfl rfl rfl
    have hP := hPD.1
    have hD := hPD.2
    refine lv_istore_n (lv' := [(2, .int r_2), (0, .ref a_x), (3, .int x3)]) hx hb aLZ.2.2.2.2.1 rfl hl (by decide) rfl (fun ls hl => ?_)
    refine lv_aload_n hx hb aLZ.2.2.2.2.2.1 rfl (lv_at hl 1 rfl) ?_
    refine va_get (D := (dC, dI)) (ci := 9) (v := .ref yA) (C := RX9) (T := TX9) (N := 9) hx hb hts aC3 hown hK hP 0 rfl rfl 6 (lbz rfl) (hts _ q_363) (fun _ h9 => h9) rfl aLZ.2.2.2.2.2.2.1 ?_
    refine lv_iload_n hx hb aLZ.2.2.2.2.2.2.2.1 rfl (lv_at hl 0 rfl) ?_
    have hm := mgk (wc := (wd_X6_add cI cC cZ cB cJ yA rG qB jK)) hP mk_45 5 rfl rfl rfl
    refine aBn hP hD hS hA (yS mk_45) (aAi mk_45) hm.1 hm.2 (aAk _) (zW _) (zF (As := [.int r_2]) (rest := []) C0 hP hD hS (yS mk_45) hm.1 (aAl _) 1 6 rfl rfl (c_X6_add l dC dI cI cC cZ cB cJ yA rG H.size r_2 qB jK _ hp) q_369 q_372 q_370 q_371 q_365 h_X6_add rfl rfl ⟨lbz rfl, lbz rfl⟩ rfl rfl hl.1 rfl (lv_room (lbz rfl)) aLZ.2.2.2.2.2.2.2.2.1 ⟨Nat.zero_le _, Nat.zero_le _⟩) (fun u H locs hp hP hD hS => ?_)
    obtain ⟨aNH, aHk⟩ := u
    have hPD := PDm (ws' := (aI9 cI cC cZ cB cJ a_x xI xH xB vI wY xX yA xY uD rG aAB yQ aNH aHk vR vW)) hP hD 5 rfl rfl rfl
    have hP := hPD.1
    have hD := hPD.2
    obtain ⟨v_5, aJD⟩ : ∃ y : Int32, y = x3 + 1 := ⟨_, rfl⟩
    refine lv_iinc (v := v_5) (lv' := [(3, .int v_5), (2, .int r_2), (0, .ref a_x)]) hx hb aLZ.2.2.2.2.2.2.2.2.2.1 hl (k := 2) rfl (by rw [aJD]; rfl) (by decide) rfl (fun ls hl => ?_)
    have hp := hp v_5 aJD
    refine lv_goto (tgt := 16) hx hb aLZ.2.2.2.2.2.2.2.2.2.2.1 (by decide) ?_
    exact hKn r_2 v_5 aNH aHk H locs ls hp hP hD hS (lv_sub hl [2, 1, 0] rfl)
set_option maxHeartbeats 4000000 in
set_option maxRecDepth 100000 in
theorem kb_X9_tellLeastMarks_16 (C0 : gc aDm none 4 RX9 (dC, dI) (tyl cI cC cZ cB cJ) A p s m args meth c) : ∀ (n : Nat), ∀ (x2 x3 qB : Int32) (jK : Nat -> Int32) (H : Heap) (locs : List Loc) (ls : Array Slot), (wb_X9_tellLeastMarks_16 post vR vW n) x2 x3 qB jK -> va_P (dC, dI) classes (aI9 cI cC cZ cB cJ a_x xI xH xB vI wY xX yA xY uD rG aAB yQ qB jK vR vW) H -> va_D A (aI9 cI cC cZ cB cJ a_x xI xH xB vI wY xX yA xY uD rG aAB yQ qB jK vR vW) -> va_S A s.heap H locs -> lv_has ls 4 [(0, .ref a_x), (2, .int x2), (3, .int x3)] -> W p l e rm_X9_tellLeastMarks s m args below meth c H locs 0 0 (MQ below (q_X9_tellLeastMarks dC dI cI cC cZ cB cJ A a_x xI xH xB vI wY xX yA xY uD rG aAB yQ vR vW post) args s 0 0 A) (F0 m 16 ls []) := by
  intro n
  induction n with
  | zero =>
    intro x2 x3 qB jK H locs ls hp
    exact False.elim hp
  | succ n ih =>
    intro x2 x3 qB jK H locs ls hp
    exact ks_X9_tellLeastMarks_16 C0 ih x2 x3 qB jK H locs ls hp
end S_X9_tellLeastMarks
def wp_X9_tellLeastMarks (post : Int32 -> (Nat -> Int32) -> Prop) (p0 qB : Int32) (jK : Nat -> Int32) (vR : Int32) (vW : Nat -> Int32) : Prop := wp_X6_clear (fun aKV => (¬ p0 = 0 -> ∃ n : Nat, wb_X9_tellLeastMarks_16 post vR vW n (-1) 0 aKV jK) /\ (p0 = 0 -> post aKV jK)) qB
set_option maxHeartbeats 4000000 in
set_option maxRecDepth 100000 in
theorem c_X9_tellLeastMarks (l : Launch) (dC : Nat -> ClassId) (dI : Nat -> Nat -> Nat) (cI cC cZ cB cJ : ClassId) (a_x xI xH xB vI wY xX yA xY uD rG aAB yQ sz : Nat) (p0 qB : Int32) (jK : Nat -> Int32) (vR : Int32) (vW : Nat -> Int32) (post : Int32 -> (Nat -> Int32) -> Prop) (hw : wp_X9_tellLeastMarks post p0 qB jK vR vW) : Met l aR7 (gw aR7 aDm 4 none) rm_X9_tellLeastMarks (va_Pc [.ref a_x, .int p0] (gPre (dC, dI) (tyl cI cC cZ cB cJ) (aI9 cI cC cZ cB cJ a_x xI xH xB vI wY xX yA xY uD rG aAB yQ qB jK vR vW) sz)) (q_X9_tellLeastMarks dC dI cI cC cZ cB cJ (va_A (aI9 cI cC cZ cB cJ a_x xI xH xB vI wY xX yA xY uD rG aAB yQ qB jK vR vW) sz) a_x xI xH xB vI wY xX yA xY uD rG aAB yQ vR vW post) 0 0 (va_A (aI9 cI cC cZ cB cJ a_x xI xH xB vI wY xX yA xY uD rG aAB yQ qB jK vR vW) sz) := by
  refine aBJ (own := RX9) (dC, dI) (tyl cI cC cZ cB cJ) (aI9 cI cC cZ cB cJ a_x xI xH xB vI wY xX yA xY uD rG aAB yQ qB jK vR vW) sz [.ref a_x, .int p0] (fun A => q_X9_tellLeastMarks dC dI cI cC cZ cB cJ A a_x xI xH xB vI wY xX yA xY uD rG aAB yQ vR vW post) pn_RX9 rfl (lbz rfl) ?_
  intro p e s m args below meth c A H locs ls C0 hP hD hS hl
  have hl : lv_has ls 4 [(0, .ref a_x), (1, .int p0)] := hl
  obtain ⟨hx, hb, hr, hml, hown, hts, hlocks, hA, hK, hN, tL, tM, hZL, hTL, hZM, hTM, hZX⟩ := id C0
  have hp := hw
  unfold wp_X9_tellLeastMarks at hp
  refine lv_aload_n hx hb aIH.1 rfl (lv_at hl 0 rfl) ?_
  refine va_get (D := (dC, dI)) (ci := 9) (v := .ref yA) (C := RX9) (T := TX9) (N := 9) hx hb hts aC3 hown hK hP 0 rfl rfl 6 (lbz rfl) (hts _ q_363) (fun _ h9 => h9) rfl aIH.2.1 ?_
  have hm := mgk (wc := (wd_X6_clear cI cC cZ cB cJ yA rG qB)) hP mk_187 5 rfl rfl rfl
  refine aBn hP hD hS hA (yS mk_187) (aAi mk_187) hm.1 hm.2 (aAk _) (zW _) (zF (As := []) (rest := []) C0 hP hD hS (yS mk_187) hm.1 (aAl _) 1 6 rfl rfl (c_X6_clear l dC dI cI cC cZ cB cJ yA rG H.size qB _ hp) q_364 q_368 q_366 q_367 q_365 h_X6_clear rfl rfl ⟨lbz rfl, lbz rfl⟩ rfl rfl hl.1 rfl (lv_room (lbz rfl)) aIH.2.2.1 ⟨Nat.zero_le _, Nat.zero_le _⟩) (fun u H locs hp hP hD hS => ?_)
  obtain ⟨aKV, rfl⟩ : ∃ z, z = u := ⟨_, rfl⟩
  have hPD := PDm (ws' := (aI9 cI cC cZ cB cJ a_x xI xH xB vI wY xX yA xY uD rG aAB yQ aKV jK vR vW)) hP hD 5 rfl rfl rfl
  have hP := hPD.1
  have hD := hPD.2
  refine lv_iload_n hx hb aIH.2.2.2.1 rfl (lv_at hl 1 rfl) ?_
  refine lv_if_ne (tgt := 12) hx hb aIH.2.2.2.2.1 (by decide) (fun hc => ?_) (fun hc => ?_)
  · have hp := hp.1 hc
    refine lv_iconst (v := (-1)) hx hb aIH.2.2.2.2.2.2.1 aEJ ?_
    refine lv_istore_n (lv' := [(2, .int (-1)), (0, .ref a_x), (1, .int p0)]) hx hb aIH.2.2.2.2.2.2.2.1 rfl hl (by decide) rfl (fun ls hl => ?_)
    refine lv_iconst (v := 0) hx hb aIH.2.2.2.2.2.2.2.2.1 aCi ?_
    refine lv_istore_n (lv' := [(3, .int 0), (2, .int (-1)), (0, .ref a_x), (1, .int p0)]) hx hb aIH.2.2.2.2.2.2.2.2.2.1 rfl hl (by decide) rfl (fun ls hl => ?_)
    obtain ⟨n9, hp⟩ := hp
    exact kb_X9_tellLeastMarks_16 C0 n9 (-1) 0 aKV jK H locs ls hp hP hD hS (lv_sub hl [2, 1, 0] rfl)
  · have hp := hp.2 hc
    exact W.vret hx hb hr (fun t ht hW => ⟨⟨(aKV, jK), rfl, hp, by rw [ht]; exact hP, va_K.moved hW.alike hK, hD⟩, hS.F ht⟩) hS.2.2 aIH.2.2.2.2.2.1
abbrev wd_X9_grass (cI cC cZ cB cJ : ClassId) (a_x xI xH xB vI wY xX yA xY uD uY tJ jJ mY pG pD pE eO rG aAB yQ : Nat) (qL qJ rX : Int32) (qM : Nat -> Int32) (dN bD bJ aI : Int32) (mX : Nat -> Int32) (qB : Int32) (jK : Nat -> Int32) (vR : Int32) (xW vW : Nat -> Int32) : va_W := [(a_x, .inr (9, [.ref xI, .ref xH, .ref xB, .ref vI, .ref wY, .ref xX, .ref yA, .ref xY, .ref uD])), (xI, .inr (8, [.ref uY, .int qL, .int qJ, .int rX])), (uY, .inl (cC, 80, .inl qM)), (vI, .inr (3, [.ref tJ, .ref jJ, .ref mY, .ref pG, .ref pD, .ref pE, .ref eO, .int dN, .int bD, .int bJ, .int aI])), (pD, .inl (cI, 8, .inl mX)), (yA, .inr (6, [.ref rG, .int qB])), (rG, .inl (cI, 16, .inl jK)), (xY, .inr (1, [.ref aAB, .ref yQ, .int vR])), (aAB, .inl (cI, 6, .inl xW)), (yQ, .inl (cI, 48, .inl vW))]
abbrev q_X9_grass (dC : Nat -> ClassId) (dI : Nat -> Nat -> Nat) (cI cC cZ cB cJ : ClassId) (A : Nat -> Prop) (a_x xI xH xB vI wY xX yA xY uD uY tJ jJ mY pG pD pE eO rG aAB yQ : Nat) (qM : Nat -> Int32) (dN bD bJ aI : Int32) (mX : Nat -> Int32) (post : Int32 -> Int32 -> Int32 -> Int32 -> Int32 -> (Nat -> Int32) -> Int32 -> (Nat -> Int32) -> (Nat -> Int32) -> Prop) : Array Value -> State -> Outcome -> State -> Prop := va_Qi (fun (r : Int32) (u : Int32 × Int32 × Int32 × Int32 × (Nat -> Int32) × Int32 × (Nat -> Int32) × (Nat -> Int32)) => post r u.1 u.2.1 u.2.2.1 u.2.2.2.1 u.2.2.2.2.1 u.2.2.2.2.2.1 u.2.2.2.2.2.2.1 u.2.2.2.2.2.2.2) (fun u t => gB (dC, dI) (tyl cI cC cZ cB cJ) A (wd_X9_grass cI cC cZ cB cJ a_x xI xH xB vI wY xX yA xY uD uY tJ jJ mY pG pD pE eO rG aAB yQ u.1 u.2.1 u.2.2.1 qM dN bD bJ aI mX u.2.2.2.1 u.2.2.2.2.1 u.2.2.2.2.2.1 u.2.2.2.2.2.2.1 u.2.2.2.2.2.2.2) t) A
abbrev rm_X9_grass : Room := { frames := 3, cells := 0, slots := 0, locals := 73 }
section S_X9_grass
variable {p : Program} {l : Launch} {e : Env} {s : State} {m : MethodId} {args : Array Value} {below : List Frame} {meth : Method} {c : Code} {dC : Nat -> ClassId} {dI : Nat -> Nat -> Nat} {cI cC cZ cB cJ : ClassId} {A : Nat -> Prop} {a_x xI xH xB vI wY xX yA xY uD uY tJ jJ mY pG pD pE eO rG aAB yQ : Nat} {qM : Nat -> Int32} {dN bD bJ aI : Int32} {mX : Nat -> Int32} {post : Int32 -> Int32 -> Int32 -> Int32 -> Int32 -> (Nat -> Int32) -> Int32 -> (Nat -> Int32) -> (Nat -> Int32) -> Prop}
def ws_X9_grass_65 (post : Int32 -> Int32 -> Int32 -> Int32 -> Int32 -> (Nat -> Int32) -> Int32 -> (Nat -> Int32) -> (Nat -> Int32) -> Prop) (qM : Nat -> Int32) (bD : Int32) (mX : Nat -> Int32) (x2 qL qJ rX qB : Int32) (jK : Nat -> Int32) (vR : Int32) (xW vW : Nat -> Int32) : Prop := wp_X8_clear (fun tx_length_1 => post x2 tx_length_1 qJ rX qB jK vR xW vW) qL
set_option maxHeartbeats 4000000 in
set_option maxRecDepth 100000 in
theorem ks_X9_grass_65 (C0 : gc aJC (some .int) 3 RX9 (dC, dI) (tyl cI cC cZ cB cJ) A p s m args meth c) : ∀ (x2 qL qJ rX qB : Int32) (jK : Nat -> Int32) (vR : Int32) (xW vW : Nat -> Int32) (H : Heap) (locs : List Loc) (ls : Array Slot), (ws_X9_grass_65 post qM bD mX) x2 qL qJ rX qB jK vR xW vW -> va_P (dC, dI) classes (wd_X9_grass cI cC cZ cB cJ a_x xI xH xB vI wY xX yA xY uD uY tJ jJ mY pG pD pE eO rG aAB yQ qL qJ rX qM dN bD bJ aI mX qB jK vR xW vW) H -> va_D A (wd_X9_grass cI cC cZ cB cJ a_x xI xH xB vI wY xX yA xY uD uY tJ jJ mY pG pD pE eO rG aAB yQ qL qJ rX qM dN bD bJ aI mX qB jK vR xW vW) -> va_S A s.heap H locs -> lv_has ls 3 [(0, .ref a_x), (2, .int x2)] -> W p l e rm_X9_grass s m args below meth c H locs 0 0 (MQ below (q_X9_grass dC dI cI cC cZ cB cJ A a_x xI xH xB vI wY xX yA xY uD uY tJ jJ mY pG pD pE eO rG aAB yQ qM dN bD bJ aI mX post) args s 0 0 A) (F0 m 65 ls []) := by
  obtain ⟨hx, hb, hr, hml, hown, hts, hlocks, hA, hK, hN, tL, tM, hZL, hTL, hZM, hTM, hZX⟩ := id C0
  intro x2 qL qJ rX qB jK vR xW vW H locs ls hp hP hD hS hl
  unfold ws_X9_grass_65 at hp
  refine lv_aload_n hx hb eX9_grass_65.1 rfl (lv_at hl 0 rfl) ?_
  refine va_get (D := (dC, dI)) (ci := 9) (v := .ref xI) (C := RX9) (T := TX9) (N := 9) hx hb hts aC3 hown hK hP 0 rfl rfl 0 (lbz rfl) (hts _ q_3) (fun _ h9 => h9) rfl eX9_grass_65.2.1 ?_
  have hm := mgk (wc := (wd_X8_clear cI cC cZ cB cJ xI uY qL qJ rX)) hP mk_188 10 rfl rfl rfl
  refine aBn hP hD hS hA (yS mk_188) (aAi mk_188) hm.1 hm.2 (aAk _) (zW _) (zF (As := []) (rest := []) C0 hP hD hS (yS mk_188) hm.1 (aAl _) 1 8 rfl rfl (c_X8_clear l dC dI cI cC cZ cB cJ xI uY H.size qL qJ rX _ hp) q_83 q_86 q_84 q_85 q_5 h_X8_clear rfl rfl ⟨lbz rfl, lbz rfl⟩ rfl rfl hl.1 rfl (lv_room (lbz rfl)) eX9_grass_65.2.2.1 ⟨Nat.zero_le _, Nat.zero_le _⟩) (fun u H locs hp hP hD hS => ?_)
  obtain ⟨tx_length_1, rfl⟩ : ∃ z, z = u := ⟨_, rfl⟩
  have hPD := PDm (ws' := (wd_X9_grass cI cC cZ cB cJ a_x xI xH xB vI wY xX yA xY uD uY tJ jJ mY pG pD pE eO rG aAB yQ tx_length_1 qJ rX qM dN bD bJ aI mX qB jK vR xW vW)) hP hD 10 rfl rfl rfl
  have hP := hPD.1
  have hD := hPD.2
  refine lv_iload_n hx hb eX9_grass_65.2.2.2.1 rfl (lv_at hl 1 rfl) ?_
  exact W.iret (v := x2) hx hb hr (fun t ht hW => ⟨⟨x2, (tx_length_1, qJ, rX, qB, jK, vR, xW, vW), rfl, hp, by rw [ht]; exact hP, va_K.moved hW.alike hK, hD⟩, hS.F ht⟩) hS.2.2 eX9_grass_65.2.2.2.2
end S_X9_grass
def wp_X9_grass (post : Int32 -> Int32 -> Int32 -> Int32 -> Int32 -> (Nat -> Int32) -> Int32 -> (Nat -> Int32) -> (Nat -> Int32) -> Prop) (p0 qL qJ rX : Int32) (qM : Nat -> Int32) (bD : Int32) (mX : Nat -> Int32) (qB : Int32) (jK : Nat -> Int32) (vR : Int32) (xW vW : Nat -> Int32) : Prop := (p0 < 0 -> ws_X9_grass_65 post qM bD mX (-100) qL qJ rX qB jK vR xW vW) /\ (¬ p0 < 0 -> (99 < p0 -> ws_X9_grass_65 post qM bD mX (-100) qL qJ rX qB jK vR xW vW) /\ (¬ 99 < p0 -> wp_X8_open (fun aCK tx_stop_3 => wp_X1_readAll (fun r_4 aR5 mk_many_6 mk_at_7 => (r_4 = 0 -> wp_X8_wrong (fun r_8 => ws_X9_grass_65 post qM bD mX r_8 qL aR5 tx_stop_3 qB jK mk_many_6 mk_at_7 vW) aR5) /\ (¬ r_4 = 0 -> wp_X1_countRows (fun r_9 mk_rows_10 => wp_X9_tellLeastMarks (fun ro_size_11 ro_numbers_12 => ws_X9_grass_65 post qM bD mX r_9 qL aR5 tx_stop_3 ro_size_11 ro_numbers_12 mk_many_6 mk_at_7 mk_rows_10) r_9 qB jK mk_many_6 mk_rows_10) p0 bD mX mk_many_6 mk_at_7 vW)) qL aCK tx_stop_3 qM vR xW) 80 qL qJ rX))
set_option maxHeartbeats 4000000 in
set_option maxRecDepth 100000 in
theorem c_X9_grass (l : Launch) (dC : Nat -> ClassId) (dI : Nat -> Nat -> Nat) (cI cC cZ cB cJ : ClassId) (a_x xI xH xB vI wY xX yA xY uD uY tJ jJ mY pG pD pE eO rG aAB yQ sz : Nat) (p0 qL qJ rX : Int32) (qM : Nat -> Int32) (dN bD bJ aI : Int32) (mX : Nat -> Int32) (qB : Int32) (jK : Nat -> Int32) (vR : Int32) (xW vW : Nat -> Int32) (post : Int32 -> Int32 -> Int32 -> Int32 -> Int32 -> (Nat -> Int32) -> Int32 -> (Nat -> Int32) -> (Nat -> Int32) -> Prop) (hw : wp_X9_grass post p0 qL qJ rX qM bD mX qB jK vR xW vW) : Met l yX9_grass (gw yX9_grass aJC 3 (some .int)) rm_X9_grass (va_Pc [.ref a_x, .int p0] (gPre (dC, dI) (tyl cI cC cZ cB cJ) (wd_X9_grass cI cC cZ cB cJ a_x xI xH xB vI wY xX yA xY uD uY tJ jJ mY pG pD pE eO rG aAB yQ qL qJ rX qM dN bD bJ aI mX qB jK vR xW vW) sz)) (q_X9_grass dC dI cI cC cZ cB cJ (va_A (wd_X9_grass cI cC cZ cB cJ a_x xI xH xB vI wY xX yA xY uD uY tJ jJ mY pG pD pE eO rG aAB yQ qL qJ rX qM dN bD bJ aI mX qB jK vR xW vW) sz) a_x xI xH xB vI wY xX yA xY uD uY tJ jJ mY pG pD pE eO rG aAB yQ qM dN bD bJ aI mX post) 0 0 (va_A (wd_X9_grass cI cC cZ cB cJ a_x xI xH xB vI wY xX yA xY uD uY tJ jJ mY pG pD pE eO rG aAB yQ qL qJ rX qM dN bD bJ aI mX qB jK vR xW vW) sz) := by
  refine aBJ (own := RX9) (dC, dI) (tyl cI cC cZ cB cJ) (wd_X9_grass cI cC cZ cB cJ a_x xI xH xB vI wY xX yA xY uD uY tJ jJ mY pG pD pE eO rG aAB yQ qL qJ rX qM dN bD bJ aI mX qB jK vR xW vW) sz [.ref a_x, .int p0] (fun A => q_X9_grass dC dI cI cC cZ cB cJ A a_x xI xH xB vI wY xX yA xY uD uY tJ jJ mY pG pD pE eO rG aAB yQ qM dN bD bJ aI mX post) pn_RX9 rfl (lbz rfl) ?_
  intro p e s m args below meth c A H locs ls C0 hP hD hS hl
  have hl : lv_has ls 3 [(0, .ref a_x), (1, .int p0)] := hl
  obtain ⟨hx, hb, hr, hml, hown, hts, hlocks, hA, hK, hN, tL, tM, hZL, hTL, hZM, hTM, hZX⟩ := id C0
  have hp := hw
  unfold wp_X9_grass at hp
  refine lv_bipush (v := (-100)) hx hb bAf.1 bp_m100 ?_
  refine lv_istore_n (lv' := [(2, .int (-100)), (0, .ref a_x), (1, .int p0)]) hx hb bAf.2.1 rfl hl (by decide) rfl (fun ls hl => ?_)
  refine lv_iload_n hx hb bAf.2.2.1 rfl (lv_at hl 2 rfl) ?_
  refine lv_if_lt (tgt := 65) hx hb bAf.2.2.2.1 (by decide) (fun hc => ?_) (fun hc => ?_)
  · have hp := hp.1 hc
    exact ks_X9_grass_65 C0 (-100) qL qJ rX qB jK vR xW vW H locs ls hp hP hD hS (lv_sub hl [1, 0] rfl)
  · have hp := hp.2 hc
    refine lv_iload_n hx hb bAf.2.2.2.2.1 rfl (lv_at hl 2 rfl) ?_
    refine lv_bipush (v := 99) hx hb bAf.2.2.2.2.2.1 bp_99 ?_
    refine lv_icmp_gt (tgt := 65) hx hb bAf.2.2.2.2.2.2.1 (by decide) (fun hc => ?_) (fun hc => ?_)
    · have hp := hp.1 hc
      exact ks_X9_grass_65 C0 (-100) qL qJ rX qB jK vR xW vW H locs ls hp hP hD hS (lv_sub hl [1, 0] rfl)
    · have hp := hp.2 hc
      refine lv_aload_n hx hb bAf.2.2.2.2.2.2.2.1 rfl (lv_at hl 1 rfl) ?_
      refine va_get (D := (dC, dI)) (ci := 9) (v := .ref xI) (C := RX9) (T := TX9) (N := 9) hx hb hts aC3 hown hK hP 0 rfl rfl 0 (lbz rfl) (hts _ q_3) (fun _ h9 => h9) rfl bAf.2.2.2.2.2.2.2.2.1 ?_
      refine lv_bipush (v := 80) hx hb bAf.2.2.2.2.2.2.2.2.2.1 bp_80 ?_
      have hm := mgk (wc := (wd_X8_open cI cC cZ cB cJ xI uY qL qJ rX)) hP mk_188 10 rfl rfl rfl
      refine aBn hP hD hS hA (yS mk_188) (aAi mk_188) hm.1 hm.2 (aAk _) (zW _) (zF (As := [.int 80]) (rest := []) C0 hP hD hS (yS mk_188) hm.1 (aAl _) 1 8 rfl rfl (c_X8_open l dC dI cI cC cZ cB cJ xI uY H.size 80 qL qJ rX _ hp) q_69 q_72 q_70 q_71 q_5 h_X8_open rfl rfl ⟨lbz rfl, lbz rfl⟩ rfl rfl hl.1 rfl (lv_room (lbz rfl)) bAf.2.2.2.2.2.2.2.2.2.2.1 ⟨Nat.zero_le _, Nat.zero_le _⟩) (fun u H locs hp hP hD hS => ?_)
      obtain ⟨aCK, tx_stop_3⟩ := u
      have hPD := PDm (ws' := (wd_X9_grass cI cC cZ cB cJ a_x xI xH xB vI wY xX yA xY uD uY tJ jJ mY pG pD pE eO rG aAB yQ qL aCK tx_stop_3 qM dN bD bJ aI mX qB jK vR xW vW)) hP hD 10 rfl rfl rfl
      have hP := hPD.1
      have hD := hPD.2
      refine lv_aload_n hx hb bAf.2.2.2.2.2.2.2.2.2.2.2.1 rfl (lv_at hl 1 rfl) ?_
      refine va_get (D := (dC, dI)) (ci := 9) (v := .ref xY) (C := RX9) (T := TX9) (N := 9) hx hb hts aC3 hown hK hP 0 rfl rfl 7 (lbz rfl) (hts _ q_599) (fun _ h9 => h9) rfl bAf.2.2.2.2.2.2.2.2.2.2.2.2.1 ?_
      refine lv_aload_n hx hb bAf.2.2.2.2.2.2.2.2.2.2.2.2.2.1 rfl (lv_at hl 1 rfl) ?_
      refine va_get (D := (dC, dI)) (ci := 9) (v := .ref xI) (C := RX9) (T := TX9) (N := 9) hx hb hts aC3 hown hK hP 0 rfl rfl 0 (lbz rfl) (hts _ q_3) (fun _ h9 => h9) rfl bAf.2.2.2.2.2.2.2.2.2.2.2.2.2.2.1 ?_
      have hm := mgk (wc := (aKK cI cC cZ cB cJ xI uY xY aAB yQ qL aCK tx_stop_3 qM vR xW)) hP mk_189 10 rfl rfl rfl
      refine yW hP hD hS hA (yS mk_189) (aAi mk_189) hm.1 hm.2 (aAk _) (zW _) (zF (As := [.ref xI]) (rest := []) C0 hP hD hS (yS mk_189) hm.1 (aAl _) 7 1 rfl rfl (c_X1_readAll l dC dI cI cC cZ cB cJ xI uY xY aAB yQ H.size qL aCK tx_stop_3 qM vR xW _ hp) q_606 q_609 q_607 q_608 q_602 h_X1_readAll rfl rfl ⟨lbz rfl, lbz rfl⟩ rfl rfl hl.1 rfl (lv_room (lbz rfl)) bAf.2.2.2.2.2.2.2.2.2.2.2.2.2.2.2 ⟨Nat.zero_le _, Nat.zero_le _⟩) (fun r_4 u H locs hp hP hD hS => ?_)
      obtain ⟨aR5, mk_many_6, mk_at_7⟩ := u
      have hPD := PDm (ws' := (wd_X9_grass cI cC cZ cB cJ a_x xI xH xB vI wY xX yA xY uD uY tJ jJ mY pG pD pE eO rG aAB yQ qL aR5 tx_stop_3 qM dN bD bJ aI mX qB jK mk_many_6 mk_at_7 vW)) hP hD 10 rfl rfl rfl
      have hP := hPD.1
      have hD := hPD.2
      refine lv_if_eq (tgt := 57) hx hb aWo.1 (by decide) (fun hc => ?_) (fun hc => ?_)
      · have hp := hp.1 hc
        refine lv_aload_n hx hb aWo.2.2.2.2.2.2.2.2.2.2.2.2.1 rfl (lv_at hl 1 rfl) ?_
        refine va_get (D := (dC, dI)) (ci := 9) (v := .ref xI) (C := RX9) (T := TX9) (N := 9) hx hb hts aC3 hown hK hP 0 rfl rfl 0 (lbz rfl) (hts _ q_3) (fun _ h9 => h9) rfl aWo.2.2.2.2.2.2.2.2.2.2.2.2.2.1 ?_
        have hm := mgk (wc := (wd_X8_wrong cI cC cZ cB cJ xI uY qL aR5 tx_stop_3)) hP mk_188 10 rfl rfl rfl
        refine yW hP hD hS hA (yS mk_188) (aAi mk_188) hm.1 hm.2 (aAk _) (zW _) (zF (As := []) (rest := []) C0 hP hD hS (yS mk_188) hm.1 (aAl _) 1 8 rfl rfl (c_X8_wrong l dC dI cI cC cZ cB cJ xI uY H.size qL aR5 tx_stop_3 _ hp) q_79 q_82 q_80 q_81 q_5 h_X8_wrong rfl rfl ⟨lbz rfl, lbz rfl⟩ rfl rfl hl.1 rfl (lv_room (lbz rfl)) aWo.2.2.2.2.2.2.2.2.2.2.2.2.2.2.1 ⟨Nat.zero_le _, Nat.zero_le _⟩) (fun r_8 u H locs hp hP hD hS => ?_)
        have hPD := PDm (ws' := (wd_X9_grass cI cC cZ cB cJ a_x xI xH xB vI wY xX yA xY uD uY tJ jJ mY pG pD pE eO rG aAB yQ qL aR5 tx_stop_3 qM dN bD bJ aI mX qB jK mk_many_6 mk_at_7 vW)) hP hD 10 rfl rfl rfl
        have hP := hPD.1
        have hD := hPD.2
        refine lv_istore_n (lv' := [(2, .int r_8), (0, .ref a_x), (1, .int p0)]) hx hb aWo.2.2.2.2.2.2.2.2.2.2.2.2.2.2.2 rfl hl (by decide) rfl (fun ls hl => ?_)
        exact ks_X9_grass_65 C0 r_8 qL aR5 tx_stop_3 qB jK mk_many_6 mk_at_7 vW H locs ls hp hP hD hS (lv_sub hl [1, 0] rfl)
      · have hp := hp.2 hc
        refine lv_aload_n hx hb aWo.2.1 rfl (lv_at hl 1 rfl) ?_
        refine va_get (D := (dC, dI)) (ci := 9) (v := .ref xY) (C := RX9) (T := TX9) (N := 9) hx hb hts aC3 hown hK hP 0 rfl rfl 7 (lbz rfl) (hts _ q_599) (fun _ h9 => h9) rfl aWo.2.2.1 ?_
        refine lv_aload_n hx hb aWo.2.2.2.1 rfl (lv_at hl 1 rfl) ?_
        refine va_get (D := (dC, dI)) (ci := 9) (v := .ref vI) (C := RX9) (T := TX9) (N := 9) hx hb hts aC3 hown hK hP 0 rfl rfl 3 (lbz rfl) (hts _ q_74) (fun _ h9 => h9) rfl aWo.2.2.2.2.1 ?_
        refine lv_iload_n hx hb aWo.2.2.2.2.2.1 rfl (lv_at hl 2 rfl) ?_
        have hm := mgk (wc := (aD8 cI cC cZ cB cJ vI tJ jJ mY pG pD pE eO xY aAB yQ dN bD bJ aI mX mk_many_6 mk_at_7 vW)) hP mk_190 10 rfl rfl rfl
        refine yW hP hD hS hA (yS mk_190) (aAi mk_190) hm.1 hm.2 (aAk _) (zW _) (zF (As := [.ref vI, .int p0]) (rest := []) C0 hP hD hS (yS mk_190) hm.1 (aAl _) 7 1 rfl rfl (c_X1_countRows l dC dI cI cC cZ cB cJ vI tJ jJ mY pG pD pE eO xY aAB yQ H.size p0 dN bD bJ aI mX mk_many_6 mk_at_7 vW _ hp) q_610 q_613 q_611 q_612 q_602 h_X1_countRows rfl rfl ⟨lbz rfl, lbz rfl⟩ rfl rfl hl.1 rfl (lv_room (lbz rfl)) aWo.2.2.2.2.2.2.1 ⟨Nat.zero_le _, Nat.zero_le _⟩) (fun r_9 u H locs hp hP hD hS => ?_)
        obtain ⟨mk_rows_10, rfl⟩ : ∃ z, z = u := ⟨_, rfl⟩
        have hPD := PDm (ws' := (wd_X9_grass cI cC cZ cB cJ a_x xI xH xB vI wY xX yA xY uD uY tJ jJ mY pG pD pE eO rG aAB yQ qL aR5 tx_stop_3 qM dN bD bJ aI mX qB jK mk_many_6 mk_at_7 mk_rows_10)) hP hD 10 rfl rfl rfl
        have hP := hPD.1
        have hD := hPD.2
        refine lv_istore_n (lv' := [(2, .int r_9), (0, .ref a_x), (1, .int p0)]) hx hb aWo.2.2.2.2.2.2.2.1 rfl hl (by decide) rfl (fun ls hl => ?_)
        refine lv_aload_n hx hb aWo.2.2.2.2.2.2.2.2.1 rfl (lv_at hl 1 rfl) ?_
        refine lv_iload_n hx hb aWo.2.2.2.2.2.2.2.2.2.1 rfl (lv_at hl 0 rfl) ?_
        have hm := mgk (wc := (aI9 cI cC cZ cB cJ a_x xI xH xB vI wY xX yA xY uD rG aAB yQ qB jK mk_many_6 mk_rows_10)) hP mk_191 10 rfl rfl rfl
        refine aBn hP hD hS hA (yS mk_191) (aAi mk_191) hm.1 hm.2 (aAk _) (zW _) (zF (As := [.int r_9]) (rest := []) C0 hP hD hS (yS mk_191) hm.1 (aAl _) 0 9 rfl rfl (c_X9_tellLeastMarks l dC dI cI cC cZ cB cJ a_x xI xH xB vI wY xX yA xY uD rG aAB yQ H.size r_9 qB jK mk_many_6 mk_rows_10 _ hp) q_614 q_617 q_615 q_616 aIl h_X9_tellLeastMarks rfl rfl ⟨lbz rfl, lbz rfl⟩ rfl rfl hl.1 rfl (lv_room (lbz rfl)) aWo.2.2.2.2.2.2.2.2.2.2.1 ⟨Nat.zero_le _, Nat.zero_le _⟩) (fun u H locs hp hP hD hS => ?_)
        obtain ⟨ro_size_11, ro_numbers_12⟩ := u
        have hPD := PDm (ws' := (wd_X9_grass cI cC cZ cB cJ a_x xI xH xB vI wY xX yA xY uD uY tJ jJ mY pG pD pE eO rG aAB yQ qL aR5 tx_stop_3 qM dN bD bJ aI mX ro_size_11 ro_numbers_12 mk_many_6 mk_at_7 mk_rows_10)) hP hD 10 rfl rfl rfl
        have hP := hPD.1
        have hD := hPD.2
        refine lv_goto (tgt := 65) hx hb aWo.2.2.2.2.2.2.2.2.2.2.2.1 (by decide) ?_
        exact ks_X9_grass_65 C0 r_9 qL aR5 tx_stop_3 ro_size_11 ro_numbers_12 mk_many_6 mk_at_7 mk_rows_10 H locs ls hp hP hD hS (lv_sub hl [1, 0] rfl)
abbrev aMt (cI cC cZ cB cJ : ClassId) (xH xB vI uJ rW uQ uP uO tJ jJ mY pG pD pE eO : Nat) (oY rJ pX rO : Int32) (rD : Nat -> Int32) (dN bD bJ aI : Int32) : va_W := [(xH, .inr (5, [.ref xB, .ref vI, .ref uJ, .ref rW, .ref uQ, .ref uP, .ref uO, .int oY, .int rJ, .int pX, .int rO])), (uJ, .inl (cI, 8, .inl rD)), (vI, .inr (3, [.ref tJ, .ref jJ, .ref mY, .ref pG, .ref pD, .ref pE, .ref eO, .int dN, .int bD, .int bJ, .int aI]))]
abbrev q_X5_isFitting (dC : Nat -> ClassId) (dI : Nat -> Nat -> Nat) (cI cC cZ cB cJ : ClassId) (A : Nat -> Prop) (xH xB vI uJ rW uQ uP uO tJ jJ mY pG pD pE eO : Nat) (oY rJ pX rO : Int32) (rD : Nat -> Int32) (dN bD bJ aI : Int32) (post : Int32 -> Prop) : Array Value -> State -> Outcome -> State -> Prop := va_Qi (fun (r : Int32) (u : Unit) => post r) (fun u t => gB (dC, dI) (tyl cI cC cZ cB cJ) A (aMt cI cC cZ cB cJ xH xB vI uJ rW uQ uP uO tJ jJ mY pG pD pE eO oY rJ pX rO rD dN bD bJ aI) t) A
abbrev rm_X5_isFitting : Room := { frames := 1, cells := 0, slots := 0, locals := 23 }
section S_X5_isFitting
variable {p : Program} {l : Launch} {e : Env} {s : State} {m : MethodId} {args : Array Value} {below : List Frame} {meth : Method} {c : Code} {dC : Nat -> ClassId} {dI : Nat -> Nat -> Nat} {cI cC cZ cB cJ : ClassId} {A : Nat -> Prop} {xH xB vI uJ rW uQ uP uO tJ jJ mY pG pD pE eO : Nat} {oY rJ pX rO : Int32} {rD : Nat -> Int32} {dN bD bJ aI : Int32} {post : Int32 -> Prop}
def ws_X5_isFitting_34 (post : Int32 -> Prop) (K2 : Int32 -> Int32 -> Int32 -> Prop) (rD : Nat -> Int32) (bD x1 x2 x3 : Int32) : Prop := ∀ v_3 : Int32, v_3 = x3 + 1 -> K2 x1 x2 v_3
set_option maxHeartbeats 4000000 in
set_option maxRecDepth 100000 in
theorem ks_X5_isFitting_34 (C0 : gc aEg (some .boolean) 4 RX5 (dC, dI) (tyl cI cC cZ cB cJ) A p s m args meth c) {K2 : Int32 -> Int32 -> Int32 -> Prop} (hK2 : ∀ (x1 : Int32) (x2 : Int32) (x3 : Int32) (H : Heap) (locs : List Loc) (ls : Array Slot), K2 x1 x2 x3 -> va_P (dC, dI) classes (aMt cI cC cZ cB cJ xH xB vI uJ rW uQ uP uO tJ jJ mY pG pD pE eO oY rJ pX rO rD dN bD bJ aI) H -> va_D A (aMt cI cC cZ cB cJ xH xB vI uJ rW uQ uP uO tJ jJ mY pG pD pE eO oY rJ pX rO rD dN bD bJ aI) -> va_S A s.heap H locs -> lv_has ls 4 [(0, .ref xH), (1, .int x1), (2, .int x2), (3, .int x3)] -> W p l e rm_X5_isFitting s m args below meth c H locs 0 0 (MQ below (q_X5_isFitting dC dI cI cC cZ cB cJ A xH xB vI uJ rW uQ uP uO tJ jJ mY pG pD pE eO oY rJ pX rO rD dN bD bJ aI post) args s 0 0 A) (F0 m 2 ls [])) : ∀ (x1 x2 x3 : Int32) (H : Heap) (locs : List Loc) (ls : Array Slot), (ws_X5_isFitting_34 post K2 rD bD) x1 x2 x3 -> va_P (dC, dI) classes (aMt cI cC cZ cB cJ xH xB vI uJ rW uQ uP uO tJ jJ mY pG pD pE eO oY rJ pX rO rD dN bD bJ aI) H -> va_D A (aMt cI cC cZ cB cJ xH xB vI uJ rW uQ uP uO tJ jJ mY pG pD pE eO oY rJ pX rO rD dN bD bJ aI) -> va_S A s.heap H locs -> lv_has ls 4 [(0, .ref xH), (1, .int x1), (2, .int x2), (3, .int x3)] -> W p l e rm_X5_isFitting s m args below meth c H locs 0 0 (MQ below (q_X5_isFitting dC dI cI cC cZ cB cJ A xH xB vI uJ rW uQ uP uO tJ jJ mY pG pD pE eO oY rJ pX rO rD dN bD bJ aI post) args s 0 0 A) (F0 m 34 ls []) := by
  obtain ⟨hx, hb, hr, hml, hown, hts, hlocks, hA, hK, hN, tL, tM, hZL, hTL, hZM, hTM, hZX⟩ := id C0
  intro x1 x2 x3 H locs ls hp hP hD hS hl
  unfold ws_X5_isFitting_34 at hp
  obtain ⟨v_3, aGW⟩ : ∃ y : Int32, y = x3 + 1 := ⟨_, rfl⟩
  refine lv_iinc (v := v_3) (lv' := [(3, .int v_3), (0, .ref xH), (1, .int x1), (2, .int x2)]) hx hb aMe.2.2.2.2.2.2.1 hl (k := 3) rfl (by rw [aGW]; rfl) (by decide) rfl (fun ls hl => ?_)
  have hp := hp v_3 aGW
  refine lv_goto (tgt := 2) hx hb aMe.2.2.2.2.2.2.2.1 (by decide) ?_
  exact hK2 x1 x2 v_3 H locs ls hp hP hD hS (lv_sub hl [1, 2, 3, 0] rfl)
def ws_X5_isFitting_2 (post : Int32 -> Prop) (next : Int32 -> Int32 -> Int32 -> Prop) (rD : Nat -> Int32) (bD x1 x2 x3 : Int32) : Prop := (bD <= x3 -> aPV (fun r_1 => (¬ (x2 &&& (r_1 ^^^ (-1))) = 0 -> post 0) /\ ((x2 &&& (r_1 ^^^ (-1))) = 0 -> post 1)) x1 rD bD) /\ (¬ bD <= x3 -> ∀ v_2 : Int32, v_2 = x1 >>> (x3 &&& 31) -> ((v_2 &&& 1) = 0 -> ws_X5_isFitting_34 post next rD bD x1 x2 x3) /\ (¬ (v_2 &&& 1) = 0 -> vp_in x3 8 /\ (∀ v_4 : Int32, v_4 = rD x3.toNatClampNeg -> (¬ (v_4 &&& x2) = 0 -> ws_X5_isFitting_34 post next rD bD x1 x2 x3) /\ ((v_4 &&& x2) = 0 -> post 0))))
noncomputable def wb_X5_isFitting_2 (post : Int32 -> Prop) (rD : Nat -> Int32) (bD : Int32) : Nat -> Int32 -> Int32 -> Int32 -> Prop := fun n => Nat.rec (motive := fun _ => Int32 -> Int32 -> Int32 -> Prop) (fun _ _ _ => False) (fun _ ih => ws_X5_isFitting_2 post ih rD bD) n
set_option maxHeartbeats 4000000 in
set_option maxRecDepth 100000 in
theorem ks_X5_isFitting_2 (C0 : gc aEg (some .boolean) 4 RX5 (dC, dI) (tyl cI cC cZ cB cJ) A p s m args meth c) {next : Int32 -> Int32 -> Int32 -> Prop} (hKn : ∀ (x1 : Int32) (x2 : Int32) (x3 : Int32) (H : Heap) (locs : List Loc) (ls : Array Slot), next x1 x2 x3 -> va_P (dC, dI) classes (aMt cI cC cZ cB cJ xH xB vI uJ rW uQ uP uO tJ jJ mY pG pD pE eO oY rJ pX rO rD dN bD bJ aI) H -> va_D A (aMt cI cC cZ cB cJ xH xB vI uJ rW uQ uP uO tJ jJ mY pG pD pE eO oY rJ pX rO rD dN bD bJ aI) -> va_S A s.heap H locs -> lv_has ls 4 [(0, .ref xH), (1, .int x1), (2, .int x2), (3, .int x3)] -> W p l e rm_X5_isFitting s m args below meth c H locs 0 0 (MQ below (q_X5_isFitting dC dI cI cC cZ cB cJ A xH xB vI uJ rW uQ uP uO tJ jJ mY pG pD pE eO oY rJ pX rO rD dN bD bJ aI post) args s 0 0 A) (F0 m 2 ls [])) : ∀ (x1 x2 x3 : Int32) (H : Heap) (locs : List Loc) (ls : Array Slot), (ws_X5_isFitting_2 post next rD bD) x1 x2 x3 -> va_P (dC, dI) classes (aMt cI cC cZ cB cJ xH xB vI uJ rW uQ uP uO tJ jJ mY pG pD pE eO oY rJ pX rO rD dN bD bJ aI) H -> va_D A (aMt cI cC cZ cB cJ xH xB vI uJ rW uQ uP uO tJ jJ mY pG pD pE eO oY rJ pX rO rD dN bD bJ aI) -> va_S A s.heap H locs -> lv_has ls 4 [(0, .ref xH), (1, .int x1), (2, .int x2), (3, .int x3)] -> W p l e rm_X5_isFitting s m args below meth c H locs 0 0 (MQ below (q_X5_isFitting dC dI cI cC cZ cB cJ A xH xB vI uJ rW uQ uP uO tJ jJ mY pG pD pE eO oY rJ pX rO rD dN bD bJ aI post) args s 0 0 A) (F0 m 2 ls []) := by
  obtain ⟨hx, hb, hr, hml, hown, hts, hlocks, hA, hK, hN, tL, tM, hZL, hTL, hZM, hTM, hZX⟩ := id C0
  intro x1 x2 x3 H locs ls hp hP hD hS hl
  unfold ws_X5_isFitting_2 at hp
  refine lv_iload_n hx hb aOP.2.2.1 rfl (lv_at hl 3 rfl) ?_
  refine lv_aload_n hx hb aOP.2.2.2.1 rfl (lv_at hl 0 rfl) ?_
  refine va_get (D := (dC, dI)) (ci := 5) (v := .ref vI) (C := RX5) (T := TX5) (N := 11) hx hb hts i_X5 hown hK hP 0 rfl rfl 1 (lbz rfl) (hts _ q_419) (fun _ h9 => h9) rfl aOP.2.2.2.2.1 ?_
  refine va_get (D := (dC, dI)) (ci := 3) (v := .int bD) (C := RX3) (T := TX3) (N := 11) hx hb hts i_X3 hown hK hP 2 rfl rfl 8 (lbz rfl) (hts _ q_420) (fun _ h9 => h9) rfl aOP.2.2.2.2.2.1 ?_
  refine lv_icmp_ge (tgt := 40) hx hb aOP.2.2.2.2.2.2.1 (by decide) (fun hc => ?_) (fun hc => ?_)
  · have hp := hp.1 hc
    refine lv_iload_n hx hb aMe.2.2.2.2.2.2.2.2.1 rfl (lv_at hl 2 rfl) ?_
    refine lv_aload_n hx hb aMe.2.2.2.2.2.2.2.2.2.1 rfl (lv_at hl 0 rfl) ?_
    refine lv_iload_n hx hb aMe.2.2.2.2.2.2.2.2.2.2.1 rfl (lv_at hl 1 rfl) ?_
    have hm := mgk (wc := (aHK cI cC cZ cB cJ xH xB vI uJ rW uQ uP uO tJ jJ mY pG pD pE eO oY rJ pX rO rD dN bD bJ aI)) hP mk_85 3 rfl rfl rfl
    refine yW hP hD hS hA (yS mk_85) (aAi mk_85) hm.1 hm.2 (aAk _) (zW _) (zF (As := [.int x1]) (rest := [.int x2]) C0 hP hD hS (yS mk_85) hm.1 (aAl _) 0 5 rfl rfl (c_X5_reachedBy l dC dI cI cC cZ cB cJ xH xB vI uJ rW uQ uP uO tJ jJ mY pG pD pE eO H.size x1 oY rJ pX rO rD dN bD bJ aI _ hp) q_430 q_434 q_432 q_433 aRn h_X5_reachedBy rfl rfl ⟨lbz rfl, lbz rfl⟩ rfl rfl hl.1 rfl (lv_room (lbz rfl)) aMe.2.2.2.2.2.2.2.2.2.2.2.1 ⟨Nat.zero_le _, Nat.zero_le _⟩) (fun r_1 u H locs hp hP hD hS => ?_)
    have hPD := PDm (ws' := (aMt cI cC cZ cB cJ xH xB vI uJ rW uQ uP uO tJ jJ mY pG pD pE eO oY rJ pX rO rD dN bD bJ aI)) hP hD 3 rfl rfl rfl
    have hP := hPD.1
    have hD := hPD.2
    refine lv_iconst (v := (-1)) hx hb aMe.2.2.2.2.2.2.2.2.2.2.2.2.1 aEJ ?_
    refine lv_ixor hx hb aMe.2.2.2.2.2.2.2.2.2.2.2.2.2.1 ?_
    refine lv_iand hx hb aMe.2.2.2.2.2.2.2.2.2.2.2.2.2.2.1 ?_
    refine lv_if_ne (tgt := 56) hx hb aMe.2.2.2.2.2.2.2.2.2.2.2.2.2.2.2 (by decide) (fun hc => ?_) (fun hc => ?_)
    · have hp := hp.1 hc
      refine lv_iconst (v := 0) hx hb eX5_isFitting_52.2.2.1 aCi ?_
      exact W.zret (v := 0) hx hb hr rfl (fun t ht hW => ⟨⟨0, (), rfl, hp, by rw [ht]; exact hP, va_K.moved hW.alike hK, hD⟩, hS.F ht⟩) hS.2.2 eX5_isFitting_52.2.2.2
    · have hp := hp.2 hc
      refine lv_iconst (v := 1) hx hb eX5_isFitting_52.1 aDx ?_
      refine lv_goto (tgt := 57) hx hb eX5_isFitting_52.2.1 (by decide) ?_
      exact W.zret (v := 1) hx hb hr rfl (fun t ht hW => ⟨⟨1, (), rfl, hp, by rw [ht]; exact hP, va_K.moved hW.alike hK, hD⟩, hS.F ht⟩) hS.2.2 eX5_isFitting_52.2.2.2
  · have hp := hp.2 hc
    refine lv_iload_n hx hb aOP.2.2.2.2.2.2.2.1 rfl (lv_at hl 1 rfl) ?_
    refine lv_iload_n hx hb aOP.2.2.2.2.2.2.2.2.1 rfl (lv_at hl 3 rfl) ?_
    refine lv_ishr hx hb aOP.2.2.2.2.2.2.2.2.2.1 ?_
    refine lv_topi (fun v_2 aGO => ?_)
    have hp := hp v_2 aGO
    refine lv_iconst (v := 1) hx hb aOP.2.2.2.2.2.2.2.2.2.2.1 aDx ?_
    refine lv_iand hx hb aOP.2.2.2.2.2.2.2.2.2.2.2.1 ?_
    refine lv_if_eq (tgt := 34) hx hb aOP.2.2.2.2.2.2.2.2.2.2.2.2.1 (by decide) (fun hc => ?_) (fun hc => ?_)
    · have hp := hp.1 hc
      exact ks_X5_isFitting_34 C0 hKn x1 x2 x3 H locs ls hp hP hD hS (lv_sub hl [0, 1, 2, 3] rfl)
    · have hp := hp.2 hc
      refine lv_aload_n hx hb aOP.2.2.2.2.2.2.2.2.2.2.2.2.2.1 rfl (lv_at hl 0 rfl) ?_
      refine va_get (D := (dC, dI)) (ci := 5) (v := .ref uJ) (C := RX5) (T := TX5) (N := 11) hx hb hts i_X5 hown hK hP 0 rfl rfl 2 (lbz rfl) (hts _ q_421) (fun _ h9 => h9) rfl aOP.2.2.2.2.2.2.2.2.2.2.2.2.2.2.1 ?_
      refine lv_iload_n hx hb aOP.2.2.2.2.2.2.2.2.2.2.2.2.2.2.2 rfl (lv_at hl 3 rfl) ?_
      have hin := hp.1
      have hp := hp.2
      refine va_iald hx hb hK hP 1 0 rfl rfl hin aMe.1 ?_
      refine lv_topi (fun v_4 aHM => ?_)
      have hp := hp v_4 aHM
      refine lv_iload_n hx hb aMe.2.1 rfl (lv_at hl 2 rfl) ?_
      refine lv_iand hx hb aMe.2.2.1 ?_
      refine lv_if_ne (tgt := 34) hx hb aMe.2.2.2.1 (by decide) (fun hc => ?_) (fun hc => ?_)
      · have hp := hp.1 hc
        exact ks_X5_isFitting_34 C0 hKn x1 x2 x3 H locs ls hp hP hD hS (lv_sub hl [0, 1, 2, 3] rfl)
      · have hp := hp.2 hc
        refine lv_iconst (v := 0) hx hb aMe.2.2.2.2.1 aCi ?_
        exact W.zret (v := 0) hx hb hr rfl (fun t ht hW => ⟨⟨0, (), rfl, hp, by rw [ht]; exact hP, va_K.moved hW.alike hK, hD⟩, hS.F ht⟩) hS.2.2 aMe.2.2.2.2.2.1
set_option maxHeartbeats 4000000 in
set_option maxRecDepth 100000 in
theorem kb_X5_isFitting_2 (C0 : gc aEg (some .boolean) 4 RX5 (dC, dI) (tyl cI cC cZ cB cJ) A p s m args meth c) : ∀ (n : Nat), ∀ (x1 x2 x3 : Int32) (H : Heap) (locs : List Loc) (ls : Array Slot), (wb_X5_isFitting_2 post rD bD n) x1 x2 x3 -> va_P (dC, dI) classes (aMt cI cC cZ cB cJ xH xB vI uJ rW uQ uP uO tJ jJ mY pG pD pE eO oY rJ pX rO rD dN bD bJ aI) H -> va_D A (aMt cI cC cZ cB cJ xH xB vI uJ rW uQ uP uO tJ jJ mY pG pD pE eO oY rJ pX rO rD dN bD bJ aI) -> va_S A s.heap H locs -> lv_has ls 4 [(0, .ref xH), (1, .int x1), (2, .int x2), (3, .int x3)] -> W p l e rm_X5_isFitting s m args below meth c H locs 0 0 (MQ below (q_X5_isFitting dC dI cI cC cZ cB cJ A xH xB vI uJ rW uQ uP uO tJ jJ mY pG pD pE eO oY rJ pX rO rD dN bD bJ aI post) args s 0 0 A) (F0 m 2 ls []) := by
  intro n
  induction n with
  | zero =>
    intro x1 x2 x3 H locs ls hp
    exact False.elim hp
  | succ n ih =>
    intro x1 x2 x3 H locs ls hp
    exact ks_X5_isFitting_2 C0 ih x1 x2 x3 H locs ls hp
end S_X5_isFitting
def wp_X5_isFitting (post : Int32 -> Prop) (p0 p1 : Int32) (rD : Nat -> Int32) (bD : Int32) : Prop := ∃ n : Nat, wb_X5_isFitting_2 post rD bD n p0 p1 0
set_option maxHeartbeats 4000000 in
set_option maxRecDepth 100000 in
theorem c_X5_isFitting (l : Launch) (dC : Nat -> ClassId) (dI : Nat -> Nat -> Nat) (cI cC cZ cB cJ : ClassId) (xH xB vI uJ rW uQ uP uO tJ jJ mY pG pD pE eO sz : Nat) (p0 p1 oY rJ pX rO : Int32) (rD : Nat -> Int32) (dN bD bJ aI : Int32) (post : Int32 -> Prop) (hw : wp_X5_isFitting post p0 p1 rD bD) : Met l yX5_isFitting (gw yX5_isFitting aEg 4 (some .boolean)) rm_X5_isFitting (va_Pc [.ref xH, .int p0, .int p1] (gPre (dC, dI) (tyl cI cC cZ cB cJ) (aMt cI cC cZ cB cJ xH xB vI uJ rW uQ uP uO tJ jJ mY pG pD pE eO oY rJ pX rO rD dN bD bJ aI) sz)) (q_X5_isFitting dC dI cI cC cZ cB cJ (va_A (aMt cI cC cZ cB cJ xH xB vI uJ rW uQ uP uO tJ jJ mY pG pD pE eO oY rJ pX rO rD dN bD bJ aI) sz) xH xB vI uJ rW uQ uP uO tJ jJ mY pG pD pE eO oY rJ pX rO rD dN bD bJ aI post) 0 0 (va_A (aMt cI cC cZ cB cJ xH xB vI uJ rW uQ uP uO tJ jJ mY pG pD pE eO oY rJ pX rO rD dN bD bJ aI) sz) := by
  refine aBJ (own := RX5) (dC, dI) (tyl cI cC cZ cB cJ) (aMt cI cC cZ cB cJ xH xB vI uJ rW uQ uP uO tJ jJ mY pG pD pE eO oY rJ pX rO rD dN bD bJ aI) sz [.ref xH, .int p0, .int p1] (fun A => q_X5_isFitting dC dI cI cC cZ cB cJ A xH xB vI uJ rW uQ uP uO tJ jJ mY pG pD pE eO oY rJ pX rO rD dN bD bJ aI post) pn_RX5 rfl (lbz rfl) ?_
  intro p e s m args below meth c A H locs ls C0 hP hD hS hl
  have hl : lv_has ls 4 [(0, .ref xH), (1, .int p0), (2, .int p1)] := hl
  obtain ⟨hx, hb, hr, hml, hown, hts, hlocks, hA, hK, hN, tL, tM, hZL, hTL, hZM, hTM, hZX⟩ := id C0
  have hp := hw
  unfold wp_X5_isFitting at hp
  refine lv_iconst (v := 0) hx hb aOP.1 aCi ?_
  refine lv_istore_n (lv' := [(3, .int 0), (0, .ref xH), (1, .int p0), (2, .int p1)]) hx hb aOP.2.1 rfl hl (by decide) rfl (fun ls hl => ?_)
  obtain ⟨n9, hp⟩ := hp
  exact kb_X5_isFitting_2 C0 n9 p0 p1 0 H locs ls hp hP hD hS (lv_sub hl [1, 2, 3, 0] rfl)
