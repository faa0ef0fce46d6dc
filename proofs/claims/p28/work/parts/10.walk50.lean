abbrev aZd (cI cC cZ cB cJ : ClassId) (a_m nY sJ eG iY lY jR jW jZ jO oQ bR aY jQ gY iJ mQ lJ jA bG mK jB mW mJ eJ dG : Nat) (bT aG jC bL bY : Int32) (jD : Nat) (mLn oF rP dQ aJ aB bW bZ aR aE bI aW bU fJ dO bM bQ bO jY oX : Int32) (qG qR : Nat -> Int32) : va_W := [(a_m, .inr (10, [.ref nY, .int bT, .ref sJ, .ref eG, .ref iY, .ref lY, .int aG, .ref jR, .ref jW, .ref jZ, .ref jO, .int jC, .ref oQ, .int bL, .int bY, rdv jO jQ jD, .int mLn, .int oF, .int rP, .int dQ, .ref bR, .ref aY, .int aJ, .int aB, .ref jQ, .int bW, .int bZ, .int aR, .int aE, .int bI, .int aW, .ref gY, .int bU, .ref iJ, .ref mQ, .int fJ, .ref lJ, .int dO, .ref jA, .ref bG, .int bM, .int bQ, .int bO, .ref mK, .ref jB, .ref mW, .int jY, .int oX, .ref mJ, .ref eJ, .ref dG])), (nY, .inl (cI, 21, .inl qG)), (lY, .inl (cI, 16, .inl qR))]
abbrev q_X10_firstRipe (dC : Nat -> ClassId) (dI : Nat -> Nat -> Nat) (cI cC cZ cB cJ : ClassId) (A : Nat -> Prop) (a_m nY sJ eG iY lY jR jW jZ jO oQ bR aY jQ gY iJ mQ lJ jA bG mK jB mW mJ eJ dG : Nat) (bT aG jC bL bY : Int32) (jD : Nat) (mLn oF rP dQ aJ aB bW bZ aR aE bI aW bU fJ dO bM bQ bO jY oX : Int32) (qG qR : Nat -> Int32) (post : Int32 -> Prop) : Array Value -> State -> Outcome -> State -> Prop := va_Qi (fun (r : Int32) (u : Unit) => post r) (fun u t => gB (dC, dI) (tyl cI cC cZ cB cJ) A (aZd cI cC cZ cB cJ a_m nY sJ eG iY lY jR jW jZ jO oQ bR aY jQ gY iJ mQ lJ jA bG mK jB mW mJ eJ dG bT aG jC bL bY jD mLn oF rP dQ aJ aB bW bZ aR aE bI aW bU fJ dO bM bQ bO jY oX qG qR) t) A
abbrev rm_X10_firstRipe : Room := { frames := 1, cells := 0, slots := 0, locals := 24 }
def wp_X10_firstRipe (post : Int32 -> Prop) (p0 bT : Int32) (qG qR : Nat -> Int32) : Prop := aIB (fun r_1 => aLg (fun r_2 => ∀ v_3 : Int32, v_3 = r_1 &&& r_2 -> (¬ p0 = (qG (19 : Int32).toNatClampNeg) -> ∀ v_4 : Int32, v_4 = p0 - 1 -> aLg (fun r_5 => post (v_3 &&& (r_5 ^^^ (-1)))) v_4 bT qR) /\ (p0 = (qG (19 : Int32).toNatClampNeg) -> post v_3)) p0 bT qR) 0 bT qG
set_option maxHeartbeats 4000000 in
set_option maxRecDepth 100000 in
theorem c_X10_firstRipe (l : Launch) (dC : Nat -> ClassId) (dI : Nat -> Nat -> Nat) (cI cC cZ cB cJ : ClassId) (a_m nY sJ eG iY lY jR jW jZ jO oQ bR aY jQ gY iJ mQ lJ jA bG mK jB mW mJ eJ dG sz : Nat) (p0 bT aG jC bL bY : Int32) (jD : Nat) (mLn oF rP dQ aJ aB bW bZ aR aE bI aW bU fJ dO bM bQ bO jY oX : Int32) (qG qR : Nat -> Int32) (post : Int32 -> Prop) (hw : wp_X10_firstRipe post p0 bT qG qR) : Met l bBz (gw bBz aGM 3 (some .int)) rm_X10_firstRipe (va_Pc [.ref a_m, .int p0] (gPre (dC, dI) (tyl cI cC cZ cB cJ) (aZd cI cC cZ cB cJ a_m nY sJ eG iY lY jR jW jZ jO oQ bR aY jQ gY iJ mQ lJ jA bG mK jB mW mJ eJ dG bT aG jC bL bY jD mLn oF rP dQ aJ aB bW bZ aR aE bI aW bU fJ dO bM bQ bO jY oX qG qR) sz)) (q_X10_firstRipe dC dI cI cC cZ cB cJ (va_A (aZd cI cC cZ cB cJ a_m nY sJ eG iY lY jR jW jZ jO oQ bR aY jQ gY iJ mQ lJ jA bG mK jB mW mJ eJ dG bT aG jC bL bY jD mLn oF rP dQ aJ aB bW bZ aR aE bI aW bU fJ dO bM bQ bO jY oX qG qR) sz) a_m nY sJ eG iY lY jR jW jZ jO oQ bR aY jQ gY iJ mQ lJ jA bG mK jB mW mJ eJ dG bT aG jC bL bY jD mLn oF rP dQ aJ aB bW bZ aR aE bI aW bU fJ dO bM bQ bO jY oX qG qR post) 0 0 (va_A (aZd cI cC cZ cB cJ a_m nY sJ eG iY lY jR jW jZ jO oQ bR aY jQ gY iJ mQ lJ jA bG mK jB mW mJ eJ dG bT aG jC bL bY jD mLn oF rP dQ aJ aB bW bZ aR aE bI aW bU fJ dO bM bQ bO jY oX qG qR) sz) := by
  refine aBJ (own := zX) (dC, dI) (tyl cI cC cZ cB cJ) (aZd cI cC cZ cB cJ a_m nY sJ eG iY lY jR jW jZ jO oQ bR aY jQ gY iJ mQ lJ jA bG mK jB mW mJ eJ dG bT aG jC bL bY jD mLn oF rP dQ aJ aB bW bZ aR aE bI aW bU fJ dO bM bQ bO jY oX qG qR) sz [.ref a_m, .int p0] (fun A => q_X10_firstRipe dC dI cI cC cZ cB cJ A a_m nY sJ eG iY lY jR jW jZ jO oQ bR aY jQ gY iJ mQ lJ jA bG mK jB mW mJ eJ dG bT aG jC bL bY jD mLn oF rP dQ aJ aB bW bZ aR aE bI aW bU fJ dO bM bQ bO jY oX qG qR post) aFY rfl (lbz rfl) ?_
  intro p e s m args below meth c A H locs ls C0 hP hD hS hl
  have hl : lv_has ls 3 [(0, .ref a_m), (1, .int p0)] := hl
  obtain ⟨hx, hb, hr, hml, hown, hts, hlocks, hA, hK, hN, tL, tM, hZL, hTL, hZM, hTM, hZX⟩ := id C0
  have hp := hw
  unfold wp_X10_firstRipe at hp
  refine lv_aload_n hx hb aL9.1 rfl (lv_at hl 0 rfl) ?_
  refine lv_aload_n hx hb aL9.2.1 rfl (lv_at hl 0 rfl) ?_
  refine va_get (D := (dC, dI)) (ci := 10) (v := .ref nY) (C := zX) (T := aBe) (N := 51) hx hb hts aAt hown hK hP 0 rfl rfl 0 (lbz rfl) (hts _ aHO) (fun _ h9 => h9) rfl aL9.2.2.1 ?_
  refine lv_iconst (v := 0) hx hb aL9.2.2.2.1 aCi ?_
  have hm := mgk (wc := (aGS cI cC cZ cB cJ a_m nY sJ eG iY lY jR jW jZ jO oQ bR aY jQ gY iJ mQ lJ jA bG mK jB mW mJ eJ dG bT aG jC bL bY jD mLn oF rP dQ aJ aB bW bZ aR aE bI aW bU fJ dO bM bQ bO jY oX qG)) hP mk_137 3 rfl rfl rfl
  refine yW hP hD hS hA (yS mk_137) (aAi mk_137) hm.1 hm.2 (aAk _) (zW _) (zF (As := [.ref nY, .int 0]) (rest := []) C0 hP hD hS (yS mk_137) hm.1 (aAl _) 0 10 rfl rfl (aRP l dC dI cI cC cZ cB cJ a_m nY sJ eG iY lY jR jW jZ jO oQ bR aY jQ gY iJ mQ lJ jA bG mK jB mW mJ eJ dG H.size 0 bT aG jC bL bY jD mLn oF rP dQ aJ aB bW bZ aR aE bI aW bU fJ dO bM bQ bO jY oX qG _ hp) q_749 q_752 q_750 q_751 aBL aRR rfl rfl ⟨lbz rfl, lbz rfl⟩ rfl rfl hl.1 rfl (lv_room (lbz rfl)) aL9.2.2.2.2.1 ⟨Nat.zero_le _, Nat.zero_le _⟩) (fun r_1 u H locs hp hP hD hS => ?_)
  have hPD := PDm (ws' := (aZd cI cC cZ cB cJ a_m nY sJ eG iY lY jR jW jZ jO oQ bR aY jQ gY iJ mQ lJ jA bG mK jB mW mJ eJ dG bT aG jC bL bY jD mLn oF rP dQ aJ aB bW bZ aR aE bI aW bU fJ dO bM bQ bO jY oX qG qR)) hP hD 3 rfl rfl rfl
  have hP := hPD.1
  have hD := hPD.2
  refine lv_aload_n hx hb aL9.2.2.2.2.2.1 rfl (lv_at hl 0 rfl) ?_
  refine lv_iload_n hx hb aL9.2.2.2.2.2.2.1 rfl (lv_at hl 1 rfl) ?_
  have hm := mgk (wc := (aHf cI cC cZ cB cJ a_m nY sJ eG iY lY jR jW jZ jO oQ bR aY jQ gY iJ mQ lJ jA bG mK jB mW mJ eJ dG bT aG jC bL bY jD mLn oF rP dQ aJ aB bW bZ aR aE bI aW bU fJ dO bM bQ bO jY oX qR)) hP mk_21 3 rfl rfl rfl
  refine yW hP hD hS hA (yS mk_21) (aAi mk_21) hm.1 hm.2 (aAk _) (zW _) (zF (As := [.int p0]) (rest := [.int r_1]) C0 hP hD hS (yS mk_21) hm.1 (aAl _) 0 10 rfl rfl (c_X10_ripeOnes l dC dI cI cC cZ cB cJ a_m nY sJ eG iY lY jR jW jZ jO oQ bR aY jQ gY iJ mQ lJ jA bG mK jB mW mJ eJ dG H.size p0 bT aG jC bL bY jD mLn oF rP dQ aJ aB bW bZ aR aE bI aW bU fJ dO bM bQ bO jY oX qR _ hp) q_828 q_831 q_829 q_830 aBL h_X10_ripeOnes rfl rfl ⟨lbz rfl, lbz rfl⟩ rfl rfl hl.1 rfl (lv_room (lbz rfl)) aL9.2.2.2.2.2.2.2.1 ⟨Nat.zero_le _, Nat.zero_le _⟩) (fun r_2 u H locs hp hP hD hS => ?_)
  have hPD := PDm (ws' := (aZd cI cC cZ cB cJ a_m nY sJ eG iY lY jR jW jZ jO oQ bR aY jQ gY iJ mQ lJ jA bG mK jB mW mJ eJ dG bT aG jC bL bY jD mLn oF rP dQ aJ aB bW bZ aR aE bI aW bU fJ dO bM bQ bO jY oX qG qR)) hP hD 3 rfl rfl rfl
  have hP := hPD.1
  have hD := hPD.2
  refine lv_iand hx hb aL9.2.2.2.2.2.2.2.2.1 ?_
  refine lv_topi (fun v_3 aGW => ?_)
  have hp := hp v_3 aGW
  refine lv_istore_n (lv' := [(2, .int v_3), (0, .ref a_m), (1, .int p0)]) hx hb aL9.2.2.2.2.2.2.2.2.2.1 rfl hl (by decide) rfl (fun ls hl => ?_)
  refine lv_iload_n hx hb aL9.2.2.2.2.2.2.2.2.2.2.1 rfl (lv_at hl 2 rfl) ?_
  refine lv_aload_n hx hb aL9.2.2.2.2.2.2.2.2.2.2.2.1 rfl (lv_at hl 1 rfl) ?_
  refine va_get (D := (dC, dI)) (ci := 10) (v := .ref nY) (C := zX) (T := aBe) (N := 51) hx hb hts aAt hown hK hP 0 rfl rfl 0 (lbz rfl) (hts _ aHO) (fun _ h9 => h9) rfl aL9.2.2.2.2.2.2.2.2.2.2.2.2.1 ?_
  refine lv_bipush (v := 19) hx hb aL9.2.2.2.2.2.2.2.2.2.2.2.2.2.1 bp_19 ?_
  refine va_iald hx hb hK hP 1 0 rfl rfl (g_in rfl) aL9.2.2.2.2.2.2.2.2.2.2.2.2.2.2.1 ?_
  refine lv_icmp_ne (tgt := 31) hx hb aL9.2.2.2.2.2.2.2.2.2.2.2.2.2.2.2 (by decide) (fun hc => ?_) (fun hc => ?_)
  · have hp := hp.1 hc
    refine lv_iload_n hx hb aOz.2.2.1 rfl (lv_at hl 0 rfl) ?_
    refine lv_aload_n hx hb aOz.2.2.2.1 rfl (lv_at hl 1 rfl) ?_
    refine lv_iload_n hx hb aOz.2.2.2.2.1 rfl (lv_at hl 2 rfl) ?_
    refine lv_iconst (v := 1) hx hb aOz.2.2.2.2.2.1 aDx ?_
    refine lv_isub hx hb aOz.2.2.2.2.2.2.1 ?_
    refine lv_topi (fun v_4 aHM => ?_)
    have hp := hp v_4 aHM
    have hm := mgk (wc := (aHf cI cC cZ cB cJ a_m nY sJ eG iY lY jR jW jZ jO oQ bR aY jQ gY iJ mQ lJ jA bG mK jB mW mJ eJ dG bT aG jC bL bY jD mLn oF rP dQ aJ aB bW bZ aR aE bI aW bU fJ dO bM bQ bO jY oX qR)) hP mk_21 3 rfl rfl rfl
    refine yW hP hD hS hA (yS mk_21) (aAi mk_21) hm.1 hm.2 (aAk _) (zW _) (zF (As := [.int v_4]) (rest := [.int v_3]) C0 hP hD hS (yS mk_21) hm.1 (aAl _) 0 10 rfl rfl (c_X10_ripeOnes l dC dI cI cC cZ cB cJ a_m nY sJ eG iY lY jR jW jZ jO oQ bR aY jQ gY iJ mQ lJ jA bG mK jB mW mJ eJ dG H.size v_4 bT aG jC bL bY jD mLn oF rP dQ aJ aB bW bZ aR aE bI aW bU fJ dO bM bQ bO jY oX qR _ hp) q_828 q_831 q_829 q_830 aBL h_X10_ripeOnes rfl rfl ⟨lbz rfl, lbz rfl⟩ rfl rfl hl.1 rfl (lv_room (lbz rfl)) aOz.2.2.2.2.2.2.2.1 ⟨Nat.zero_le _, Nat.zero_le _⟩) (fun r_5 u H locs hp hP hD hS => ?_)
    have hPD := PDm (ws' := (aZd cI cC cZ cB cJ a_m nY sJ eG iY lY jR jW jZ jO oQ bR aY jQ gY iJ mQ lJ jA bG mK jB mW mJ eJ dG bT aG jC bL bY jD mLn oF rP dQ aJ aB bW bZ aR aE bI aW bU fJ dO bM bQ bO jY oX qG qR)) hP hD 3 rfl rfl rfl
    have hP := hPD.1
    have hD := hPD.2
    refine lv_iconst (v := (-1)) hx hb aOz.2.2.2.2.2.2.2.2.1 aEJ ?_
    refine lv_ixor hx hb aOz.2.2.2.2.2.2.2.2.2.1 ?_
    refine lv_iand hx hb aOz.2.2.2.2.2.2.2.2.2.2.1 ?_
    exact W.iret (v := v_3 &&& (r_5 ^^^ (-1))) hx hb hr (fun t ht hW => ⟨⟨v_3 &&& (r_5 ^^^ (-1)), (), rfl, hp, by rw [ht]; exact hP, va_K.moved hW.alike hK, hD⟩, hS.F ht⟩) hS.2.2 aOz.2.2.2.2.2.2.2.2.2.2.2
  · have hp := hp.2 hc
    refine lv_iload_n hx hb aOz.1 rfl (lv_at hl 0 rfl) ?_
    refine lv_goto (tgt := 42) hx hb aOz.2.1 (by decide) ?_
    exact W.iret (v := v_3) hx hb hr (fun t ht hW => ⟨⟨v_3, (), rfl, hp, by rw [ht]; exact hP, va_K.moved hW.alike hK, hD⟩, hS.F ht⟩) hS.2.2 aOz.2.2.2.2.2.2.2.2.2.2.2
abbrev aHA (cI cC cZ cB cJ : ClassId) (a_m nY sJ eG iY lY jR jW jZ jO oQ bR aY jQ gY iJ mQ lJ jA bG mK jB mW mJ eJ dG : Nat) (bT aG jC bL bY : Int32) (jD : Nat) (mLn oF rP dQ aJ aB bW bZ aR aE bI aW bU fJ dO bM bQ bO jY oX : Int32) (qG m_x gR qR nG oO pJ sW sH : Nat -> Int32) : va_W := [(a_m, .inr (10, [.ref nY, .int bT, .ref sJ, .ref eG, .ref iY, .ref lY, .int aG, .ref jR, .ref jW, .ref jZ, .ref jO, .int jC, .ref oQ, .int bL, .int bY, rdv jO jQ jD, .int mLn, .int oF, .int rP, .int dQ, .ref bR, .ref aY, .int aJ, .int aB, .ref jQ, .int bW, .int bZ, .int aR, .int aE, .int bI, .int aW, .ref gY, .int bU, .ref iJ, .ref mQ, .int fJ, .ref lJ, .int dO, .ref jA, .ref bG, .int bM, .int bQ, .int bO, .ref mK, .ref jB, .ref mW, .int jY, .int oX, .ref mJ, .ref eJ, .ref dG])), (nY, .inl (cI, 21, .inl qG)), (sJ, .inl (cI, 16, .inl m_x)), (eG, .inl (cI, 16, .inl gR)), (lY, .inl (cI, 16, .inl qR)), (jR, .inl (cI, 8, .inl nG)), (jW, .inl (cI, 8, .inl oO)), (jZ, .inl (cI, 5, .inl pJ)), (oQ, .inl (cI, 32, .inl sW)), (lJ, .inl (cI, 8, .inl sH))]
abbrev q_X10_ripens (dC : Nat -> ClassId) (dI : Nat -> Nat -> Nat) (cI cC cZ cB cJ : ClassId) (A : Nat -> Prop) (a_m nY sJ eG iY lY jR jW jZ jO oQ bR aY jQ gY iJ mQ lJ jA bG mK jB mW mJ eJ dG : Nat) (bT aG jC : Int32) (jD : Nat) (mLn oF rP dQ aJ aB bW bZ aR aE bI aW bU fJ bM bQ bO jY oX : Int32) (qG m_x gR qR nG oO pJ : Nat -> Int32) (post : Int32 -> Int32 -> Int32 -> Int32 -> (Nat -> Int32) -> (Nat -> Int32) -> Prop) : Array Value -> State -> Outcome -> State -> Prop := va_Qi (fun (r : Int32) (u : Int32 × Int32 × Int32 × (Nat -> Int32) × (Nat -> Int32)) => post r u.1 u.2.1 u.2.2.1 u.2.2.2.1 u.2.2.2.2) (fun u t => gB (dC, dI) (tyl cI cC cZ cB cJ) A (aHA cI cC cZ cB cJ a_m nY sJ eG iY lY jR jW jZ jO oQ bR aY jQ gY iJ mQ lJ jA bG mK jB mW mJ eJ dG bT aG jC u.1 u.2.1 jD mLn oF rP dQ aJ aB bW bZ aR aE bI aW bU fJ u.2.2.1 bM bQ bO jY oX qG m_x gR qR nG oO pJ u.2.2.2.1 u.2.2.2.2) t) A
abbrev rm_X10_ripens : Room := { frames := 6, cells := 0, slots := 0, locals := 133 }
section S_X10_ripens
variable {p : Program} {l : Launch} {e : Env} {s : State} {m : MethodId} {args : Array Value} {below : List Frame} {meth : Method} {c : Code} {dC : Nat -> ClassId} {dI : Nat -> Nat -> Nat} {cI cC cZ cB cJ : ClassId} {A : Nat -> Prop} {a_m nY sJ eG iY lY jR jW jZ jO oQ bR aY jQ gY iJ mQ lJ jA bG mK jB mW mJ eJ dG : Nat} {bT aG jC : Int32} {jD : Nat} {mLn oF rP dQ aJ aB bW bZ aR aE bI aW bU fJ bM bQ bO jY oX : Int32} {qG m_x gR qR nG oO pJ : Nat -> Int32} {post : Int32 -> Int32 -> Int32 -> Int32 -> (Nat -> Int32) -> (Nat -> Int32) -> Prop}
def ws_X10_ripens_57 (post : Int32 -> Int32 -> Int32 -> Int32 -> (Nat -> Int32) -> (Nat -> Int32) -> Prop) (K27 : Int32 -> Int32 -> Int32 -> Int32 -> Int32 -> Int32 -> (Nat -> Int32) -> (Nat -> Int32) -> Prop) (bT aG : Int32) (qG m_x gR qR nG oO pJ : Nat -> Int32) (x1 x2 x3 bL bY dO : Int32) (sW sH : Nat -> Int32) : Prop := ∀ v_17 : Int32, v_17 = x3 + 1 -> K27 x1 x2 v_17 bL bY dO sW sH
set_option maxHeartbeats 4000000 in
set_option maxRecDepth 100000 in
theorem ks_X10_ripens_57 (C0 : gc aDE (some .int) 5 zX (dC, dI) (tyl cI cC cZ cB cJ) A p s m args meth c) {K27 : Int32 -> Int32 -> Int32 -> Int32 -> Int32 -> Int32 -> (Nat -> Int32) -> (Nat -> Int32) -> Prop} (hK27 : ∀ (x1 : Int32) (x2 : Int32) (x3 : Int32) (bL : Int32) (bY : Int32) (dO : Int32) (sW : Nat -> Int32) (sH : Nat -> Int32) (H : Heap) (locs : List Loc) (ls : Array Slot), K27 x1 x2 x3 bL bY dO sW sH -> va_P (dC, dI) classes (aHA cI cC cZ cB cJ a_m nY sJ eG iY lY jR jW jZ jO oQ bR aY jQ gY iJ mQ lJ jA bG mK jB mW mJ eJ dG bT aG jC bL bY jD mLn oF rP dQ aJ aB bW bZ aR aE bI aW bU fJ dO bM bQ bO jY oX qG m_x gR qR nG oO pJ sW sH) H -> va_D A (aHA cI cC cZ cB cJ a_m nY sJ eG iY lY jR jW jZ jO oQ bR aY jQ gY iJ mQ lJ jA bG mK jB mW mJ eJ dG bT aG jC bL bY jD mLn oF rP dQ aJ aB bW bZ aR aE bI aW bU fJ dO bM bQ bO jY oX qG m_x gR qR nG oO pJ sW sH) -> va_S A s.heap H locs -> lv_has ls 5 [(0, .ref a_m), (1, .int x1), (2, .int x2), (3, .int x3)] -> W p l e rm_X10_ripens s m args below meth c H locs 0 0 (MQ below (q_X10_ripens dC dI cI cC cZ cB cJ A a_m nY sJ eG iY lY jR jW jZ jO oQ bR aY jQ gY iJ mQ lJ jA bG mK jB mW mJ eJ dG bT aG jC jD mLn oF rP dQ aJ aB bW bZ aR aE bI aW bU fJ bM bQ bO jY oX qG m_x gR qR nG oO pJ post) args s 0 0 A) (F0 m 27 ls [])) : ∀ (x1 x2 x3 bL bY dO : Int32) (sW sH : Nat -> Int32) (H : Heap) (locs : List Loc) (ls : Array Slot), (ws_X10_ripens_57 post K27 bT aG qG m_x gR qR nG oO pJ) x1 x2 x3 bL bY dO sW sH -> va_P (dC, dI) classes (aHA cI cC cZ cB cJ a_m nY sJ eG iY lY jR jW jZ jO oQ bR aY jQ gY iJ mQ lJ jA bG mK jB mW mJ eJ dG bT aG jC bL bY jD mLn oF rP dQ aJ aB bW bZ aR aE bI aW bU fJ dO bM bQ bO jY oX qG m_x gR qR nG oO pJ sW sH) H -> va_D A (aHA cI cC cZ cB cJ a_m nY sJ eG iY lY jR jW jZ jO oQ bR aY jQ gY iJ mQ lJ jA bG mK jB mW mJ eJ dG bT aG jC bL bY jD mLn oF rP dQ aJ aB bW bZ aR aE bI aW bU fJ dO bM bQ bO jY oX qG m_x gR qR nG oO pJ sW sH) -> va_S A s.heap H locs -> lv_has ls 5 [(0, .ref a_m), (1, .int x1), (2, .int x2), (3, .int x3)] -> W p l e rm_X10_ripens s m args below meth c H locs 0 0 (MQ below (q_X10_ripens dC dI cI cC cZ cB cJ A a_m nY sJ eG iY lY jR jW jZ jO oQ bR aY jQ gY iJ mQ lJ jA bG mK jB mW mJ eJ dG bT aG jC jD mLn oF rP dQ aJ aB bW bZ aR aE bI aW bU fJ bM bQ bO jY oX qG m_x gR qR nG oO pJ post) args s 0 0 A) (F0 m 57 ls []) := by
  obtain ⟨hx, hb, hr, hml, hown, hts, hlocks, hA, hK, hN, tL, tM, hZL, hTL, hZM, hTM, hZX⟩ := id C0
  intro x1 x2 x3 bL bY dO sW sH H locs ls hp hP hD hS hl
  unfold ws_X10_ripens_57 at hp
  obtain ⟨v_17, ev_17⟩ : ∃ y : Int32, y = x3 + 1 := ⟨_, rfl⟩
  refine lv_iinc (v := v_17) (lv' := [(3, .int v_17), (0, .ref a_m), (1, .int x1), (2, .int x2)]) hx hb aQV.2.1 hl (k := 3) rfl (by rw [ev_17]; rfl) (by decide) rfl (fun ls hl => ?_)
  have hp := hp v_17 ev_17
  refine lv_goto (tgt := 27) hx hb aQV.2.2.1 (by decide) ?_
  exact hK27 x1 x2 v_17 bL bY dO sW sH H locs ls hp hP hD hS (lv_sub hl [1, 2, 3, 0] rfl)
def ws_X10_ripens_27 (post : Int32 -> Int32 -> Int32 -> Int32 -> (Nat -> Int32) -> (Nat -> Int32) -> Prop) (next : Int32 -> Int32 -> Int32 -> Int32 -> Int32 -> Int32 -> (Nat -> Int32) -> (Nat -> Int32) -> Prop) (bT aG : Int32) (qG m_x gR qR nG oO pJ : Nat -> Int32) (x1 x2 x3 bL bY dO : Int32) (sW sH : Nat -> Int32) : Prop := (9 < x3 -> aIB (fun r_5 => aGu (fun r_6 => aRt (fun r_7 => ∀ v_8 : Int32, v_8 = r_5 &&& r_7 -> wp_X10_cover (fun r_9 => aDs (fun aDZ aHj => aBb (fun r_12 => aDs (fun bBI m_row_14 => post x1 bBI bY dO m_row_14 sH) r_12 aDZ aHj) r_9) x2 0 sW) v_8 aG sH) r_6 aG sH) aG) 0 bT qG) /\ (¬ 9 < x3 -> wp_X10_firstRipe (fun r_15 => aBb (fun r_16 => (x1 < r_16 -> ws_X10_ripens_57 post next bT aG qG m_x gR qR nG oO pJ r_16 x3 x3 bL bY dO sW sH) /\ (¬ x1 < r_16 -> ws_X10_ripens_57 post next bT aG qG m_x gR qR nG oO pJ x1 x2 x3 bL bY dO sW sH)) r_15) x3 bT qG qR)
noncomputable def wb_X10_ripens_27 (post : Int32 -> Int32 -> Int32 -> Int32 -> (Nat -> Int32) -> (Nat -> Int32) -> Prop) (bT aG : Int32) (qG m_x gR qR nG oO pJ : Nat -> Int32) : Nat -> Int32 -> Int32 -> Int32 -> Int32 -> Int32 -> Int32 -> (Nat -> Int32) -> (Nat -> Int32) -> Prop := fun n => Nat.rec (motive := fun _ => Int32 -> Int32 -> Int32 -> Int32 -> Int32 -> Int32 -> (Nat -> Int32) -> (Nat -> Int32) -> Prop) (fun _ _ _ _ _ _ _ _ => False) (fun _ ih => ws_X10_ripens_27 post ih bT aG qG m_x gR qR nG oO pJ) n
set_option maxHeartbeats 4000000 in
set_option maxRecDepth 100000 in
theorem ks_X10_ripens_27 (C0 : gc aDE (some .int) 5 zX (dC, dI) (tyl cI cC cZ cB cJ) A p s m args meth c) {next : Int32 -> Int32 -> Int32 -> Int32 -> Int32 -> Int32 -> (Nat -> Int32) -> (Nat -> Int32) -> Prop} (hKn : ∀ (x1 : Int32) (x2 : Int32) (x3 : Int32) (bL : Int32) (bY : Int32) (dO : Int32) (sW : Nat -> Int32) (sH : Nat -> Int32) (H : Heap) (locs : List Loc) (ls : Array Slot), next x1 x2 x3 bL bY dO sW sH -> va_P (dC, dI) classes (aHA cI cC cZ cB cJ a_m nY sJ eG iY lY jR jW jZ jO oQ bR aY jQ gY iJ mQ lJ jA bG mK jB mW mJ eJ dG bT aG jC bL bY jD mLn oF rP dQ aJ aB bW bZ aR aE bI aW bU fJ dO bM bQ bO jY oX qG m_x gR qR nG oO pJ sW sH) H -> va_D A (aHA cI cC cZ cB cJ a_m nY sJ eG iY lY jR jW jZ jO oQ bR aY jQ gY iJ mQ lJ jA bG mK jB mW mJ eJ dG bT aG jC bL bY jD mLn oF rP dQ aJ aB bW bZ aR aE bI aW bU fJ dO bM bQ bO jY oX qG m_x gR qR nG oO pJ sW sH) -> va_S A s.heap H locs -> lv_has ls 5 [(0, .ref a_m), (1, .int x1), (2, .int x2), (3, .int x3)] -> W p l e rm_X10_ripens s m args below meth c H locs 0 0 (MQ below (q_X10_ripens dC dI cI cC cZ cB cJ A a_m nY sJ eG iY lY jR jW jZ jO oQ bR aY jQ gY iJ mQ lJ jA bG mK jB mW mJ eJ dG bT aG jC jD mLn oF rP dQ aJ aB bW bZ aR aE bI aW bU fJ bM bQ bO jY oX qG m_x gR qR nG oO pJ post) args s 0 0 A) (F0 m 27 ls [])) : ∀ (x1 x2 x3 bL bY dO : Int32) (sW sH : Nat -> Int32) (H : Heap) (locs : List Loc) (ls : Array Slot), (ws_X10_ripens_27 post next bT aG qG m_x gR qR nG oO pJ) x1 x2 x3 bL bY dO sW sH -> va_P (dC, dI) classes (aHA cI cC cZ cB cJ a_m nY sJ eG iY lY jR jW jZ jO oQ bR aY jQ gY iJ mQ lJ jA bG mK jB mW mJ eJ dG bT aG jC bL bY jD mLn oF rP dQ aJ aB bW bZ aR aE bI aW bU fJ dO bM bQ bO jY oX qG m_x gR qR nG oO pJ sW sH) H -> va_D A (aHA cI cC cZ cB cJ a_m nY sJ eG iY lY jR jW jZ jO oQ bR aY jQ gY iJ mQ lJ jA bG mK jB mW mJ eJ dG bT aG jC bL bY jD mLn oF rP dQ aJ aB bW bZ aR aE bI aW bU fJ dO bM bQ bO jY oX qG m_x gR qR nG oO pJ sW sH) -> va_S A s.heap H locs -> lv_has ls 5 [(0, .ref a_m), (1, .int x1), (2, .int x2), (3, .int x3)] -> W p l e rm_X10_ripens s m args below meth c H locs 0 0 (MQ below (q_X10_ripens dC dI cI cC cZ cB cJ A a_m nY sJ eG iY lY jR jW jZ jO oQ bR aY jQ gY iJ mQ lJ jA bG mK jB mW mJ eJ dG bT aG jC jD mLn oF rP dQ aJ aB bW bZ aR aE bI aW bU fJ bM bQ bO jY oX qG m_x gR qR nG oO pJ post) args s 0 0 A) (F0 m 27 ls []) := by
  obtain ⟨hx, hb, hr, hml, hown, hts, hlocks, hA, hK, hN, tL, tM, hZL, hTL, hZM, hTM, hZX⟩ := id C0
  intro x1 x2 x3 bL bY dO sW sH H locs ls hp hP hD hS hl
  unfold ws_X10_ripens_27 at hp
  refine lv_iload_n hx hb aQU.2.1 rfl (lv_at hl 3 rfl) ?_
  refine lv_bipush (v := 9) hx hb aQU.2.2.1 bp_9 ?_
  refine lv_icmp_gt (tgt := 63) hx hb aQU.2.2.2.1 (by decide) (fun hc => ?_) (fun hc => ?_)
  · have hp := hp.1 hc
    refine lv_aload_n hx hb aQV.2.2.2.1 rfl (lv_at hl 0 rfl) ?_
    refine lv_aload_n hx hb aQV.2.2.2.2.1 rfl (lv_at hl 0 rfl) ?_
    refine lv_aload_n hx hb aQV.2.2.2.2.2.1 rfl (lv_at hl 0 rfl) ?_
    refine va_get (D := (dC, dI)) (ci := 10) (v := .ref nY) (C := zX) (T := aBe) (N := 51) hx hb hts aAt hown hK hP 0 rfl rfl 0 (lbz rfl) (hts _ aHO) (fun _ h9 => h9) rfl aQV.2.2.2.2.2.2.1 ?_
    refine lv_iconst (v := 0) hx hb aQV.2.2.2.2.2.2.2.1 aCi ?_
    have hm := mgk (wc := (aGS cI cC cZ cB cJ a_m nY sJ eG iY lY jR jW jZ jO oQ bR aY jQ gY iJ mQ lJ jA bG mK jB mW mJ eJ dG bT aG jC bL bY jD mLn oF rP dQ aJ aB bW bZ aR aE bI aW bU fJ dO bM bQ bO jY oX qG)) hP mk_283 10 rfl rfl rfl
    refine yW hP hD hS hA (yS mk_283) (aAi mk_283) hm.1 hm.2 (aAk _) (zW _) (zF (As := [.ref nY, .int 0]) (rest := [.ref a_m]) C0 hP hD hS (yS mk_283) hm.1 (aAl _) 0 10 rfl rfl (aRP l dC dI cI cC cZ cB cJ a_m nY sJ eG iY lY jR jW jZ jO oQ bR aY jQ gY iJ mQ lJ jA bG mK jB mW mJ eJ dG H.size 0 bT aG jC bL bY jD mLn oF rP dQ aJ aB bW bZ aR aE bI aW bU fJ dO bM bQ bO jY oX qG _ hp) q_749 q_752 q_750 q_751 aBL aRR rfl rfl ⟨lbz rfl, lbz rfl⟩ rfl rfl hl.1 rfl (lv_room (lbz rfl)) aQV.2.2.2.2.2.2.2.2.1 ⟨Nat.zero_le _, Nat.zero_le _⟩) (fun r_5 u H locs hp hP hD hS => ?_)
    have hPD := PDm (ws' := (aHA cI cC cZ cB cJ a_m nY sJ eG iY lY jR jW jZ jO oQ bR aY jQ gY iJ mQ lJ jA bG mK jB mW mJ eJ dG bT aG jC bL bY jD mLn oF rP dQ aJ aB bW bZ aR aE bI aW bU fJ dO bM bQ bO jY oX qG m_x gR qR nG oO pJ sW sH)) hP hD 10 rfl rfl rfl
    have hP := hPD.1
    have hD := hPD.2
    refine lv_aload_n hx hb aQV.2.2.2.2.2.2.2.2.2.1 rfl (lv_at hl 0 rfl) ?_
    refine lv_aload_n hx hb aQV.2.2.2.2.2.2.2.2.2.2.1 rfl (lv_at hl 0 rfl) ?_
    have hm := mgk (wc := (aGj cI cC cZ cB cJ a_m nY sJ eG iY lY jR jW jZ jO oQ bR aY jQ gY iJ mQ lJ jA bG mK jB mW mJ eJ dG bT aG jC bL bY jD mLn oF rP dQ aJ aB bW bZ aR aE bI aW bU fJ dO bM bQ bO jY oX)) hP aRf 10 rfl rfl rfl
    refine yW hP hD hS hA (yS aRf) (aAi aRf) hm.1 hm.2 (aAk _) (zW _) (zF (As := []) (rest := [.ref a_m, .int r_5, .ref a_m]) C0 hP hD hS (yS aRf) hm.1 (aAl _) 0 10 rfl rfl (aKY l dC dI cI cC cZ cB cJ a_m nY sJ eG iY lY jR jW jZ jO oQ bR aY jQ gY iJ mQ lJ jA bG mK jB mW mJ eJ dG H.size bT aG jC bL bY jD mLn oF rP dQ aJ aB bW bZ aR aE bI aW bU fJ dO bM bQ bO jY oX _ hp) q_870 q_873 q_871 q_872 aBL aKa rfl rfl ⟨lbz rfl, lbz rfl⟩ rfl rfl hl.1 rfl (lv_room (lbz rfl)) aQV.2.2.2.2.2.2.2.2.2.2.2.1 ⟨Nat.zero_le _, Nat.zero_le _⟩) (fun r_6 u H locs hp hP hD hS => ?_)
    have hPD := PDm (ws' := (aHA cI cC cZ cB cJ a_m nY sJ eG iY lY jR jW jZ jO oQ bR aY jQ gY iJ mQ lJ jA bG mK jB mW mJ eJ dG bT aG jC bL bY jD mLn oF rP dQ aJ aB bW bZ aR aE bI aW bU fJ dO bM bQ bO jY oX qG m_x gR qR nG oO pJ sW sH)) hP hD 10 rfl rfl rfl
    have hP := hPD.1
    have hD := hPD.2
    have hm := mgk (wc := (aH9 cI cC cZ cB cJ a_m nY sJ eG iY lY jR jW jZ jO oQ bR aY jQ gY iJ mQ lJ jA bG mK jB mW mJ eJ dG bT aG jC bL bY jD mLn oF rP dQ aJ aB bW bZ aR aE bI aW bU fJ dO bM bQ bO jY oX sH)) hP mk_284 10 rfl rfl rfl
    refine yW hP hD hS hA (yS mk_284) (aAi mk_284) hm.1 hm.2 (aAk _) (zW _) (zF (As := [.int r_6]) (rest := [.int r_5, .ref a_m]) C0 hP hD hS (yS mk_284) hm.1 (aAl _) 0 10 rfl rfl (c_X10_handOf l dC dI cI cC cZ cB cJ a_m nY sJ eG iY lY jR jW jZ jO oQ bR aY jQ gY iJ mQ lJ jA bG mK jB mW mJ eJ dG H.size r_6 bT aG jC bL bY jD mLn oF rP dQ aJ aB bW bZ aR aE bI aW bU fJ dO bM bQ bO jY oX sH _ hp) q_874 q_877 q_875 q_876 aBL h_X10_handOf rfl rfl ⟨lbz rfl, lbz rfl⟩ rfl rfl hl.1 rfl (lv_room (lbz rfl)) aQV.2.2.2.2.2.2.2.2.2.2.2.2.1 ⟨Nat.zero_le _, Nat.zero_le _⟩) (fun r_7 u H locs hp hP hD hS => ?_)
    have hPD := PDm (ws' := (aHA cI cC cZ cB cJ a_m nY sJ eG iY lY jR jW jZ jO oQ bR aY jQ gY iJ mQ lJ jA bG mK jB mW mJ eJ dG bT aG jC bL bY jD mLn oF rP dQ aJ aB bW bZ aR aE bI aW bU fJ dO bM bQ bO jY oX qG m_x gR qR nG oO pJ sW sH)) hP hD 10 rfl rfl rfl
    have hP := hPD.1
    have hD := hPD.2
    refine lv_iand hx hb aQV.2.2.2.2.2.2.2.2.2.2.2.2.2.1 ?_
    refine lv_topi (fun v_8 ev_8 => ?_)
    have hp := hp v_8 ev_8
    have hm := mgk (wc := (aHF cI cC cZ cB cJ a_m nY sJ eG iY lY jR jW jZ jO oQ bR aY jQ gY iJ mQ lJ jA bG mK jB mW mJ eJ dG bT aG jC bL bY jD mLn oF rP dQ aJ aB bW bZ aR aE bI aW bU fJ dO bM bQ bO jY oX sH)) hP mk_284 10 rfl rfl rfl
    refine yW hP hD hS hA (yS mk_284) (aAi mk_284) hm.1 hm.2 (aAk _) (zW _) (zF (As := [.int v_8]) (rest := []) C0 hP hD hS (yS mk_284) hm.1 (aAl _) 0 10 rfl rfl (c_X10_cover l dC dI cI cC cZ cB cJ a_m nY sJ eG iY lY jR jW jZ jO oQ bR aY jQ gY iJ mQ lJ jA bG mK jB mW mJ eJ dG H.size v_8 bT aG jC bL bY jD mLn oF rP dQ aJ aB bW bZ aR aE bI aW bU fJ dO bM bQ bO jY oX sH _ hp) q_898 q_901 q_899 q_900 aBL h_X10_cover rfl rfl ⟨lbz rfl, lbz rfl⟩ rfl rfl hl.1 rfl (lv_room (lbz rfl)) aQV.2.2.2.2.2.2.2.2.2.2.2.2.2.2.1 ⟨Nat.zero_le _, Nat.zero_le _⟩) (fun r_9 u H locs hp hP hD hS => ?_)
    have hPD := PDm (ws' := (aHA cI cC cZ cB cJ a_m nY sJ eG iY lY jR jW jZ jO oQ bR aY jQ gY iJ mQ lJ jA bG mK jB mW mJ eJ dG bT aG jC bL bY jD mLn oF rP dQ aJ aB bW bZ aR aE bI aW bU fJ dO bM bQ bO jY oX qG m_x gR qR nG oO pJ sW sH)) hP hD 10 rfl rfl rfl
    have hP := hPD.1
    have hD := hPD.2
    refine lv_istore_n (lv' := [(3, .int r_9), (0, .ref a_m), (1, .int x1), (2, .int x2)]) hx hb aQV.2.2.2.2.2.2.2.2.2.2.2.2.2.2.2 rfl hl (by decide) rfl (fun ls hl => ?_)
    refine lv_aload_n hx hb aYr.1 rfl (lv_at hl 1 rfl) ?_
    refine lv_iconst (v := 0) hx hb aYr.2.1 aCi ?_
    refine va_put (D := (dC, dI)) (ci := 10) (v := .int 0) (ty := .int) (C := zX) (T := aBe) (N := 51) hx hb hts aAt aD2 aAa aEC hown hK hP hD hS 0 rfl rfl 13 (lbz rfl) (hts _ q_847) (fun _ h9 => h9) rfl (aAa 13 (lbz rfl)) rfl rfl (lbz rfl) aYr.2.2.1 (fun H locs hP hD hS => ?_)
    have hPD := PDw (ws' := (aHA cI cC cZ cB cJ a_m nY sJ eG iY lY jR jW jZ jO oQ bR aY jQ gY iJ mQ lJ jA bG mK jB mW mJ eJ dG bT aG jC 0 bY jD mLn oF rP dQ aJ aB bW bZ aR aE bI aW bU fJ dO bM bQ bO jY oX qG m_x gR qR nG oO pJ sW sH)) hP hD rfl
    have hP := hPD.1
    have hD := hPD.2
    refine lv_aload_n hx hb aYr.2.2.2.1 rfl (lv_at hl 1 rfl) ?_
    refine lv_iload_n hx hb aYr.2.2.2.2.1 rfl (lv_at hl 3 rfl) ?_
    have hm := mgk (wc := (aD0 cI cC cZ cB cJ a_m nY sJ eG iY lY jR jW jZ jO oQ bR aY jQ gY iJ mQ lJ jA bG mK jB mW mJ eJ dG bT aG jC 0 bY jD mLn oF rP dQ aJ aB bW bZ aR aE bI aW bU fJ dO bM bQ bO jY oX sW)) hP aOv 10 rfl rfl rfl
    refine aBn hP hD hS hA (yS aOv) (aAi aOv) hm.1 hm.2 (aAk _) (zW _) (zF (As := [.int x2]) (rest := []) C0 hP hD hS (yS aOv) hm.1 (aAl _) 0 10 rfl rfl (aGE l dC dI cI cC cZ cB cJ a_m nY sJ eG iY lY jR jW jZ jO oQ bR aY jQ gY iJ mQ lJ jA bG mK jB mW mJ eJ dG H.size x2 bT aG jC 0 bY jD mLn oF rP dQ aJ aB bW bZ aR aE bI aW bU fJ dO bM bQ bO jY oX sW _ hp) q_849 q_852 q_850 q_851 aBL aGF rfl rfl ⟨lbz rfl, lbz rfl⟩ rfl rfl hl.1 rfl (lv_room (lbz rfl)) aYr.2.2.2.2.2.1 ⟨Nat.zero_le _, Nat.zero_le _⟩) (fun u H locs hp hP hD hS => ?_)
    obtain ⟨aDZ, aHj⟩ := u
    have hPD := PDm (ws' := (aHA cI cC cZ cB cJ a_m nY sJ eG iY lY jR jW jZ jO oQ bR aY jQ gY iJ mQ lJ jA bG mK jB mW mJ eJ dG bT aG jC aDZ bY jD mLn oF rP dQ aJ aB bW bZ aR aE bI aW bU fJ dO bM bQ bO jY oX qG m_x gR qR nG oO pJ aHj sH)) hP hD 10 rfl rfl rfl
    have hP := hPD.1
    have hD := hPD.2
    refine lv_aload_n hx hb aYr.2.2.2.2.2.2.1 rfl (lv_at hl 1 rfl) ?_
    refine lv_iload_n hx hb aYr.2.2.2.2.2.2.2.1 rfl (lv_at hl 0 rfl) ?_
    have hm := mgk (wc := (aBh cI cC cZ cB cJ)) hP aGk 10 rfl rfl rfl
    refine yW hP hD hS hA (yS aGk) (aAi aGk) hm.1 hm.2 (aAk _) (zW _) (aDn (As := [.int r_9]) (rest := [.ref a_m]) C0 hP hD hS (yS aGk) hm.1 (aAl _) (aBv l dC dI cI cC cZ cB cJ H.size r_9 _ hp) q_320 q_803 q_322 q_321 aBw rfl rfl ⟨lbz rfl, lbz rfl⟩ rfl rfl hl.1 rfl (lv_room (lbz rfl)) aYr.2.2.2.2.2.2.2.2.1 ⟨Nat.zero_le _, Nat.zero_le _⟩) (fun r_12 u H locs hp hP hD hS => ?_)
    have hPD := PDm (ws' := (aHA cI cC cZ cB cJ a_m nY sJ eG iY lY jR jW jZ jO oQ bR aY jQ gY iJ mQ lJ jA bG mK jB mW mJ eJ dG bT aG jC aDZ bY jD mLn oF rP dQ aJ aB bW bZ aR aE bI aW bU fJ dO bM bQ bO jY oX qG m_x gR qR nG oO pJ aHj sH)) hP hD 10 rfl rfl rfl
    have hP := hPD.1
    have hD := hPD.2
    have hm := mgk (wc := (aD0 cI cC cZ cB cJ a_m nY sJ eG iY lY jR jW jZ jO oQ bR aY jQ gY iJ mQ lJ jA bG mK jB mW mJ eJ dG bT aG jC aDZ bY jD mLn oF rP dQ aJ aB bW bZ aR aE bI aW bU fJ dO bM bQ bO jY oX aHj)) hP aOv 10 rfl rfl rfl
    refine aBn hP hD hS hA (yS aOv) (aAi aOv) hm.1 hm.2 (aAk _) (zW _) (zF (As := [.int r_12]) (rest := []) C0 hP hD hS (yS aOv) hm.1 (aAl _) 0 10 rfl rfl (aGE l dC dI cI cC cZ cB cJ a_m nY sJ eG iY lY jR jW jZ jO oQ bR aY jQ gY iJ mQ lJ jA bG mK jB mW mJ eJ dG H.size r_12 bT aG jC aDZ bY jD mLn oF rP dQ aJ aB bW bZ aR aE bI aW bU fJ dO bM bQ bO jY oX aHj _ hp) q_849 q_852 q_850 q_851 aBL aGF rfl rfl ⟨lbz rfl, lbz rfl⟩ rfl rfl hl.1 rfl (lv_room (lbz rfl)) aYr.2.2.2.2.2.2.2.2.2.1 ⟨Nat.zero_le _, Nat.zero_le _⟩) (fun u H locs hp hP hD hS => ?_)
    obtain ⟨bBI, m_row_14⟩ := u
    have hPD := PDm (ws' := (aHA cI cC cZ cB cJ a_m nY sJ eG iY lY jR jW jZ jO oQ bR aY jQ gY iJ mQ lJ jA bG mK jB mW mJ eJ dG bT aG jC bBI bY jD mLn oF rP dQ aJ aB bW bZ aR aE bI aW bU fJ dO bM bQ bO jY oX qG m_x gR qR nG oO pJ m_row_14 sH)) hP hD 10 rfl rfl rfl
    have hP := hPD.1
    have hD := hPD.2
    refine lv_iload_n hx hb aYr.2.2.2.2.2.2.2.2.2.2.1 rfl (lv_at hl 2 rfl) ?_
    exact W.iret (v := x1) hx hb hr (fun t ht hW => ⟨⟨x1, (bBI, bY, dO, m_row_14, sH), rfl, hp, by rw [ht]; exact hP, va_K.moved hW.alike hK, hD⟩, hS.F ht⟩) hS.2.2 aYr.2.2.2.2.2.2.2.2.2.2.2
  · have hp := hp.2 hc
    refine lv_aload_n hx hb aQU.2.2.2.2.1 rfl (lv_at hl 0 rfl) ?_
    refine lv_iload_n hx hb aQU.2.2.2.2.2.1 rfl (lv_at hl 3 rfl) ?_
    have hm := mgk (wc := (aZd cI cC cZ cB cJ a_m nY sJ eG iY lY jR jW jZ jO oQ bR aY jQ gY iJ mQ lJ jA bG mK jB mW mJ eJ dG bT aG jC bL bY jD mLn oF rP dQ aJ aB bW bZ aR aE bI aW bU fJ dO bM bQ bO jY oX qG qR)) hP mk_296 10 rfl rfl rfl
    refine yW hP hD hS hA (yS mk_296) (aAi mk_296) hm.1 hm.2 (aAk _) (zW _) (zF (As := [.int x3]) (rest := []) C0 hP hD hS (yS mk_296) hm.1 (aAl _) 0 10 rfl rfl (c_X10_firstRipe l dC dI cI cC cZ cB cJ a_m nY sJ eG iY lY jR jW jZ jO oQ bR aY jQ gY iJ mQ lJ jA bG mK jB mW mJ eJ dG H.size x3 bT aG jC bL bY jD mLn oF rP dQ aJ aB bW bZ aR aE bI aW bU fJ dO bM bQ bO jY oX qG qR _ hp) q_949 q_952 q_950 q_951 aBL h_X10_firstRipe rfl rfl ⟨lbz rfl, lbz rfl⟩ rfl rfl hl.1 rfl (lv_room (lbz rfl)) aQU.2.2.2.2.2.2.1 ⟨Nat.zero_le _, Nat.zero_le _⟩) (fun r_15 u H locs hp hP hD hS => ?_)
    have hPD := PDm (ws' := (aHA cI cC cZ cB cJ a_m nY sJ eG iY lY jR jW jZ jO oQ bR aY jQ gY iJ mQ lJ jA bG mK jB mW mJ eJ dG bT aG jC bL bY jD mLn oF rP dQ aJ aB bW bZ aR aE bI aW bU fJ dO bM bQ bO jY oX qG m_x gR qR nG oO pJ sW sH)) hP hD 10 rfl rfl rfl
    have hP := hPD.1
    have hD := hPD.2
    have hm := mgk (wc := (aBh cI cC cZ cB cJ)) hP aGk 10 rfl rfl rfl
    refine yW hP hD hS hA (yS aGk) (aAi aGk) hm.1 hm.2 (aAk _) (zW _) (aDn (As := [.int r_15]) (rest := []) C0 hP hD hS (yS aGk) hm.1 (aAl _) (aBv l dC dI cI cC cZ cB cJ H.size r_15 _ hp) q_320 q_803 q_322 q_321 aBw rfl rfl ⟨lbz rfl, lbz rfl⟩ rfl rfl hl.1 rfl (lv_room (lbz rfl)) aQU.2.2.2.2.2.2.2.1 ⟨Nat.zero_le _, Nat.zero_le _⟩) (fun r_16 u H locs hp hP hD hS => ?_)
    have hPD := PDm (ws' := (aHA cI cC cZ cB cJ a_m nY sJ eG iY lY jR jW jZ jO oQ bR aY jQ gY iJ mQ lJ jA bG mK jB mW mJ eJ dG bT aG jC bL bY jD mLn oF rP dQ aJ aB bW bZ aR aE bI aW bU fJ dO bM bQ bO jY oX qG m_x gR qR nG oO pJ sW sH)) hP hD 10 rfl rfl rfl
    have hP := hPD.1
    have hD := hPD.2
    refine lv_istore (lv' := [(4, .int r_16), (0, .ref a_m), (1, .int x1), (2, .int x2), (3, .int x3)]) hx hb aQU.2.2.2.2.2.2.2.2.1 hl (by decide) rfl (fun ls hl => ?_)
    refine lv_iload hx hb aQU.2.2.2.2.2.2.2.2.2.1 (lv_at hl 0 rfl) ?_
    refine lv_iload_n hx hb aQU.2.2.2.2.2.2.2.2.2.2.1 rfl (lv_at hl 2 rfl) ?_
    refine lv_icmp_gt (tgt := 52) hx hb aQU.2.2.2.2.2.2.2.2.2.2.2.1 (by decide) (fun hc => ?_) (fun hc => ?_)
    · have hp := hp.1 hc
      refine lv_iload hx hb aQU.2.2.2.2.2.2.2.2.2.2.2.2.2.1 (lv_at hl 0 rfl) ?_
      refine lv_istore_n (lv' := [(1, .int r_16), (4, .int r_16), (0, .ref a_m), (2, .int x2), (3, .int x3)]) hx hb aQU.2.2.2.2.2.2.2.2.2.2.2.2.2.2.1 rfl hl (by decide) rfl (fun ls hl => ?_)
      refine lv_iload_n hx hb aQU.2.2.2.2.2.2.2.2.2.2.2.2.2.2.2 rfl (lv_at hl 4 rfl) ?_
      refine lv_istore_n (lv' := [(2, .int x3), (1, .int r_16), (4, .int r_16), (0, .ref a_m), (3, .int x3)]) hx hb aQV.1 rfl hl (by decide) rfl (fun ls hl => ?_)
      exact ks_X10_ripens_57 C0 hKn r_16 x3 x3 bL bY dO sW sH H locs ls hp hP hD hS (lv_sub hl [3, 1, 0, 4] rfl)
    · have hp := hp.2 hc
      refine lv_goto (tgt := 57) hx hb aQU.2.2.2.2.2.2.2.2.2.2.2.2.1 (by decide) ?_
      exact ks_X10_ripens_57 C0 hKn x1 x2 x3 bL bY dO sW sH H locs ls hp hP hD hS (lv_sub hl [1, 2, 3, 4] rfl)
set_option maxHeartbeats 4000000 in
set_option maxRecDepth 100000 in
theorem kb_X10_ripens_27 (C0 : gc aDE (some .int) 5 zX (dC, dI) (tyl cI cC cZ cB cJ) A p s m args meth c) : ∀ (n : Nat), ∀ (x1 x2 x3 bL bY dO : Int32) (sW sH : Nat -> Int32) (H : Heap) (locs : List Loc) (ls : Array Slot), (wb_X10_ripens_27 post bT aG qG m_x gR qR nG oO pJ n) x1 x2 x3 bL bY dO sW sH -> va_P (dC, dI) classes (aHA cI cC cZ cB cJ a_m nY sJ eG iY lY jR jW jZ jO oQ bR aY jQ gY iJ mQ lJ jA bG mK jB mW mJ eJ dG bT aG jC bL bY jD mLn oF rP dQ aJ aB bW bZ aR aE bI aW bU fJ dO bM bQ bO jY oX qG m_x gR qR nG oO pJ sW sH) H -> va_D A (aHA cI cC cZ cB cJ a_m nY sJ eG iY lY jR jW jZ jO oQ bR aY jQ gY iJ mQ lJ jA bG mK jB mW mJ eJ dG bT aG jC bL bY jD mLn oF rP dQ aJ aB bW bZ aR aE bI aW bU fJ dO bM bQ bO jY oX qG m_x gR qR nG oO pJ sW sH) -> va_S A s.heap H locs -> lv_has ls 5 [(0, .ref a_m), (1, .int x1), (2, .int x2), (3, .int x3)] -> W p l e rm_X10_ripens s m args below meth c H locs 0 0 (MQ below (q_X10_ripens dC dI cI cC cZ cB cJ A a_m nY sJ eG iY lY jR jW jZ jO oQ bR aY jQ gY iJ mQ lJ jA bG mK jB mW mJ eJ dG bT aG jC jD mLn oF rP dQ aJ aB bW bZ aR aE bI aW bU fJ bM bQ bO jY oX qG m_x gR qR nG oO pJ post) args s 0 0 A) (F0 m 27 ls []) := by
  intro n
  induction n with
  | zero =>
    intro x1 x2 x3 bL bY dO sW sH H locs ls hp
    exact False.elim hp
  | succ n ih =>
    intro x1 x2 x3 bL bY dO sW sH H locs ls hp
    exact ks_X10_ripens_27 C0 ih x1 x2 x3 bL bY dO sW sH H locs ls hp
end S_X10_ripens
def wp_X10_ripens (post : Int32 -> Int32 -> Int32 -> Int32 -> (Nat -> Int32) -> (Nat -> Int32) -> Prop) (bT aG bL bY dO : Int32) (qG m_x gR qR nG oO pJ sW sH : Nat -> Int32) : Prop := aJm (fun aDN aII => ∀ v_3 : Int32, v_3 = qG (19 : Int32).toNatClampNeg -> ∀ v_4 : Int32, v_4 = qG (19 : Int32).toNatClampNeg -> ∃ n : Nat, wb_X10_ripens_27 post bT aG qG m_x gR qR nG oO pJ n (-1) v_3 v_4 bL 0 aDN sW aII) bT aG dO qG m_x gR qR nG oO pJ sH
set_option maxHeartbeats 4000000 in
set_option maxRecDepth 100000 in
theorem c_X10_ripens (l : Launch) (dC : Nat -> ClassId) (dI : Nat -> Nat -> Nat) (cI cC cZ cB cJ : ClassId) (a_m nY sJ eG iY lY jR jW jZ jO oQ bR aY jQ gY iJ mQ lJ jA bG mK jB mW mJ eJ dG sz : Nat) (bT aG jC bL bY : Int32) (jD : Nat) (mLn oF rP dQ aJ aB bW bZ aR aE bI aW bU fJ dO bM bQ bO jY oX : Int32) (qG m_x gR qR nG oO pJ sW sH : Nat -> Int32) (post : Int32 -> Int32 -> Int32 -> Int32 -> (Nat -> Int32) -> (Nat -> Int32) -> Prop) (hw : wp_X10_ripens post bT aG bL bY dO qG m_x gR qR nG oO pJ sW sH) : Met l yX10_ripens (gw yX10_ripens aDE 5 (some .int)) rm_X10_ripens (va_Pc [.ref a_m] (gPre (dC, dI) (tyl cI cC cZ cB cJ) (aHA cI cC cZ cB cJ a_m nY sJ eG iY lY jR jW jZ jO oQ bR aY jQ gY iJ mQ lJ jA bG mK jB mW mJ eJ dG bT aG jC bL bY jD mLn oF rP dQ aJ aB bW bZ aR aE bI aW bU fJ dO bM bQ bO jY oX qG m_x gR qR nG oO pJ sW sH) sz)) (q_X10_ripens dC dI cI cC cZ cB cJ (va_A (aHA cI cC cZ cB cJ a_m nY sJ eG iY lY jR jW jZ jO oQ bR aY jQ gY iJ mQ lJ jA bG mK jB mW mJ eJ dG bT aG jC bL bY jD mLn oF rP dQ aJ aB bW bZ aR aE bI aW bU fJ dO bM bQ bO jY oX qG m_x gR qR nG oO pJ sW sH) sz) a_m nY sJ eG iY lY jR jW jZ jO oQ bR aY jQ gY iJ mQ lJ jA bG mK jB mW mJ eJ dG bT aG jC jD mLn oF rP dQ aJ aB bW bZ aR aE bI aW bU fJ bM bQ bO jY oX qG m_x gR qR nG oO pJ post) 0 0 (va_A (aHA cI cC cZ cB cJ a_m nY sJ eG iY lY jR jW jZ jO oQ bR aY jQ gY iJ mQ lJ jA bG mK jB mW mJ eJ dG bT aG jC bL bY jD mLn oF rP dQ aJ aB bW bZ aR aE bI aW bU fJ dO bM bQ bO jY oX qG m_x gR qR nG oO pJ sW sH) sz) := by
  refine aBJ (own := zX) (dC, dI) (tyl cI cC cZ cB cJ) (aHA cI cC cZ cB cJ a_m nY sJ eG iY lY jR jW jZ jO oQ bR aY jQ gY iJ mQ lJ jA bG mK jB mW mJ eJ dG bT aG jC bL bY jD mLn oF rP dQ aJ aB bW bZ aR aE bI aW bU fJ dO bM bQ bO jY oX qG m_x gR qR nG oO pJ sW sH) sz [.ref a_m] (fun A => q_X10_ripens dC dI cI cC cZ cB cJ A a_m nY sJ eG iY lY jR jW jZ jO oQ bR aY jQ gY iJ mQ lJ jA bG mK jB mW mJ eJ dG bT aG jC jD mLn oF rP dQ aJ aB bW bZ aR aE bI aW bU fJ bM bQ bO jY oX qG m_x gR qR nG oO pJ post) aFY rfl (lbz rfl) ?_
  intro p e s m args below meth c A H locs ls C0 hP hD hS hl
  have hl : lv_has ls 5 [(0, .ref a_m)] := hl
  obtain ⟨hx, hb, hr, hml, hown, hts, hlocks, hA, hK, hN, tL, tM, hZL, hTL, hZM, hTM, hZX⟩ := id C0
  have hp := hw
  unfold wp_X10_ripens at hp
  refine lv_aload_n hx hb aTE.1 rfl (lv_at hl 0 rfl) ?_
  refine lv_iconst (v := 0) hx hb aTE.2.1 aCi ?_
  refine va_put (D := (dC, dI)) (ci := 10) (v := .int 0) (ty := .int) (C := zX) (T := aBe) (N := 51) hx hb hts aAt aD2 aAa aEC hown hK hP hD hS 0 rfl rfl 14 (lbz rfl) (hts _ q_638) (fun _ h9 => h9) rfl (aAa 14 (lbz rfl)) rfl rfl (lbz rfl) aTE.2.2.1 (fun H locs hP hD hS => ?_)
  have hPD := PDw (ws' := (aHA cI cC cZ cB cJ a_m nY sJ eG iY lY jR jW jZ jO oQ bR aY jQ gY iJ mQ lJ jA bG mK jB mW mJ eJ dG bT aG jC bL 0 jD mLn oF rP dQ aJ aB bW bZ aR aE bI aW bU fJ dO bM bQ bO jY oX qG m_x gR qR nG oO pJ sW sH)) hP hD rfl
  have hP := hPD.1
  have hD := hPD.2
  refine lv_aload_n hx hb aTE.2.2.2.1 rfl (lv_at hl 0 rfl) ?_
  have hm := mgk (wc := (aIe cI cC cZ cB cJ a_m nY sJ eG iY lY jR jW jZ jO oQ bR aY jQ gY iJ mQ lJ jA bG mK jB mW mJ eJ dG bT aG jC bL 0 jD mLn oF rP dQ aJ aB bW bZ aR aE bI aW bU fJ dO bM bQ bO jY oX qG m_x gR qR nG oO pJ sH)) hP aUv 10 rfl rfl rfl
  refine aBn hP hD hS hA (yS aUv) (aAi aUv) hm.1 hm.2 (aAk _) (zW _) (zF (As := []) (rest := []) C0 hP hD hS (yS aUv) hm.1 (aAl _) 0 10 rfl rfl (aPr l dC dI cI cC cZ cB cJ a_m nY sJ eG iY lY jR jW jZ jO oQ bR aY jQ gY iJ mQ lJ jA bG mK jB mW mJ eJ dG H.size bT aG jC bL 0 jD mLn oF rP dQ aJ aB bW bZ aR aE bI aW bU fJ dO bM bQ bO jY oX qG m_x gR qR nG oO pJ sH _ hp) q_883 q_886 q_884 q_885 aBL aQ3 rfl rfl ⟨lbz rfl, lbz rfl⟩ rfl rfl hl.1 rfl (lv_room (lbz rfl)) aTE.2.2.2.2.1 ⟨Nat.zero_le _, Nat.zero_le _⟩) (fun u H locs hp hP hD hS => ?_)
  obtain ⟨aDN, aII⟩ := u
  have hPD := PDm (ws' := (aHA cI cC cZ cB cJ a_m nY sJ eG iY lY jR jW jZ jO oQ bR aY jQ gY iJ mQ lJ jA bG mK jB mW mJ eJ dG bT aG jC bL 0 jD mLn oF rP dQ aJ aB bW bZ aR aE bI aW bU fJ aDN bM bQ bO jY oX qG m_x gR qR nG oO pJ sW aII)) hP hD 10 rfl rfl rfl
  have hP := hPD.1
  have hD := hPD.2
  refine lv_iconst (v := (-1)) hx hb aTE.2.2.2.2.2.1 aEJ ?_
  refine lv_istore_n (lv' := [(1, .int (-1)), (0, .ref a_m)]) hx hb aTE.2.2.2.2.2.2.1 rfl hl (by decide) rfl (fun ls hl => ?_)
  refine lv_aload_n hx hb aTE.2.2.2.2.2.2.2.1 rfl (lv_at hl 1 rfl) ?_
  refine va_get (D := (dC, dI)) (ci := 10) (v := .ref nY) (C := zX) (T := aBe) (N := 51) hx hb hts aAt hown hK hP 0 rfl rfl 0 (lbz rfl) (hts _ aHO) (fun _ h9 => h9) rfl aTE.2.2.2.2.2.2.2.2.1 ?_
  refine lv_bipush (v := 19) hx hb aTE.2.2.2.2.2.2.2.2.2.1 bp_19 ?_
  refine va_iald hx hb hK hP 1 0 rfl rfl (g_in rfl) aTE.2.2.2.2.2.2.2.2.2.2.1 ?_
  refine lv_topi (fun v_3 aGW => ?_)
  have hp := hp v_3 aGW
  refine lv_istore_n (lv' := [(2, .int v_3), (1, .int (-1)), (0, .ref a_m)]) hx hb aTE.2.2.2.2.2.2.2.2.2.2.2.1 rfl hl (by decide) rfl (fun ls hl => ?_)
  refine lv_aload_n hx hb aTE.2.2.2.2.2.2.2.2.2.2.2.2.1 rfl (lv_at hl 2 rfl) ?_
  refine va_get (D := (dC, dI)) (ci := 10) (v := .ref nY) (C := zX) (T := aBe) (N := 51) hx hb hts aAt hown hK hP 0 rfl rfl 0 (lbz rfl) (hts _ aHO) (fun _ h9 => h9) rfl aTE.2.2.2.2.2.2.2.2.2.2.2.2.2.1 ?_
  refine lv_bipush (v := 19) hx hb aTE.2.2.2.2.2.2.2.2.2.2.2.2.2.2.1 bp_19 ?_
  refine va_iald hx hb hK hP 1 0 rfl rfl (g_in rfl) aTE.2.2.2.2.2.2.2.2.2.2.2.2.2.2.2 ?_
  refine lv_topi (fun v_4 aHM => ?_)
  have hp := hp v_4 aHM
  refine lv_istore_n (lv' := [(3, .int v_4), (2, .int v_3), (1, .int (-1)), (0, .ref a_m)]) hx hb aQU.1 rfl hl (by decide) rfl (fun ls hl => ?_)
  obtain ⟨n9, hp⟩ := hp
  exact kb_X10_ripens_27 C0 n9 (-1) v_3 v_4 bL 0 aDN sW aII H locs ls hp hP hD hS (lv_sub hl [3, 2, 1, 0] rfl)
abbrev aYE (cI cC cZ cB cJ : ClassId) (a_m nY sJ eG iY lY jR jW jZ jO oQ bR aY jQ gY iJ mQ lJ jA bG mK jB mW mJ eJ dG : Nat) (bT aG jC bL bY : Int32) (jD : Nat) (mLn oF rP dQ aJ aB bW bZ aR aE bI aW bU fJ dO bM bQ bO jY oX : Int32) (qG m_x gR qR nG oO pJ sW sH : Nat -> Int32) : va_W := [(a_m, .inr (10, [.ref nY, .int bT, .ref sJ, .ref eG, .ref iY, .ref lY, .int aG, .ref jR, .ref jW, .ref jZ, .ref jO, .int jC, .ref oQ, .int bL, .int bY, rdv jO jQ jD, .int mLn, .int oF, .int rP, .int dQ, .ref bR, .ref aY, .int aJ, .int aB, .ref jQ, .int bW, .int bZ, .int aR, .int aE, .int bI, .int aW, .ref gY, .int bU, .ref iJ, .ref mQ, .int fJ, .ref lJ, .int dO, .ref jA, .ref bG, .int bM, .int bQ, .int bO, .ref mK, .ref jB, .ref mW, .int jY, .int oX, .ref mJ, .ref eJ, .ref dG])), (nY, .inl (cI, 21, .inl qG)), (sJ, .inl (cI, 16, .inl m_x)), (eG, .inl (cI, 16, .inl gR)), (lY, .inl (cI, 16, .inl qR)), (jR, .inl (cI, 8, .inl nG)), (jW, .inl (cI, 8, .inl oO)), (jZ, .inl (cI, 5, .inl pJ)), (oQ, .inl (cI, 32, .inl sW)), (lJ, .inl (cI, 8, .inl sH))]
abbrev q_X10_ondays (dC : Nat -> ClassId) (dI : Nat -> Nat -> Nat) (cI cC cZ cB cJ : ClassId) (A : Nat -> Prop) (a_m nY sJ eG iY lY jR jW jZ jO oQ bR aY jQ gY iJ mQ lJ jA bG mK jB mW mJ eJ dG : Nat) (bT aG jC : Int32) (jD : Nat) (mLn oF rP dQ aJ aB bW bZ aR aE bI aW bU fJ bM bQ bO jY oX : Int32) (qG m_x gR qR nG oO pJ : Nat -> Int32) (post : Int32 -> Int32 -> Int32 -> Int32 -> (Nat -> Int32) -> (Nat -> Int32) -> Prop) : Array Value -> State -> Outcome -> State -> Prop := va_Qi (fun (r : Int32) (u : Int32 × Int32 × Int32 × (Nat -> Int32) × (Nat -> Int32)) => post r u.1 u.2.1 u.2.2.1 u.2.2.2.1 u.2.2.2.2) (fun u t => gB (dC, dI) (tyl cI cC cZ cB cJ) A (aYE cI cC cZ cB cJ a_m nY sJ eG iY lY jR jW jZ jO oQ bR aY jQ gY iJ mQ lJ jA bG mK jB mW mJ eJ dG bT aG jC u.1 u.2.1 jD mLn oF rP dQ aJ aB bW bZ aR aE bI aW bU fJ u.2.2.1 bM bQ bO jY oX qG m_x gR qR nG oO pJ u.2.2.2.1 u.2.2.2.2) t) A
abbrev rm_X10_ondays : Room := { frames := 6, cells := 0, slots := 0, locals := 133 }
def wp_X10_ondays (post : Int32 -> Int32 -> Int32 -> Int32 -> (Nat -> Int32) -> (Nat -> Int32) -> Prop) (p0 bT aG bL bY dO : Int32) (qG m_x gR qR nG oO pJ sW sH : Nat -> Int32) : Prop := ∀ v_1 : Int32, v_1 = qG (19 : Int32).toNatClampNeg -> aJY (fun r_2 => (¬ r_2 = 0 -> aJm (fun aC5 aF5 => wp_X10_firstRipe (fun r_5 => aGu (fun r_6 => aRt (fun r_7 => ∀ v_8 : Int32, v_8 = r_5 &&& r_7 -> wp_X10_tellCover (fun r_9 aDZ aHj => post r_9 aDZ 0 aC5 aHj aF5) v_8 aG bL sW aF5) r_6 aG aF5) aG) p0 bT qG qR) bT aG dO qG m_x gR qR nG oO pJ sH) /\ (r_2 = 0 -> post (-1) bL 0 dO sW sH)) p0 v_1 9
set_option maxHeartbeats 4000000 in
set_option maxRecDepth 100000 in
theorem c_X10_ondays (l : Launch) (dC : Nat -> ClassId) (dI : Nat -> Nat -> Nat) (cI cC cZ cB cJ : ClassId) (a_m nY sJ eG iY lY jR jW jZ jO oQ bR aY jQ gY iJ mQ lJ jA bG mK jB mW mJ eJ dG sz : Nat) (p0 bT aG jC bL bY : Int32) (jD : Nat) (mLn oF rP dQ aJ aB bW bZ aR aE bI aW bU fJ dO bM bQ bO jY oX : Int32) (qG m_x gR qR nG oO pJ sW sH : Nat -> Int32) (post : Int32 -> Int32 -> Int32 -> Int32 -> (Nat -> Int32) -> (Nat -> Int32) -> Prop) (hw : wp_X10_ondays post p0 bT aG bL bY dO qG m_x gR qR nG oO pJ sW sH) : Met l yX10_ondays (gw yX10_ondays aKN 2 (some .int)) rm_X10_ondays (va_Pc [.ref a_m, .int p0] (gPre (dC, dI) (tyl cI cC cZ cB cJ) (aYE cI cC cZ cB cJ a_m nY sJ eG iY lY jR jW jZ jO oQ bR aY jQ gY iJ mQ lJ jA bG mK jB mW mJ eJ dG bT aG jC bL bY jD mLn oF rP dQ aJ aB bW bZ aR aE bI aW bU fJ dO bM bQ bO jY oX qG m_x gR qR nG oO pJ sW sH) sz)) (q_X10_ondays dC dI cI cC cZ cB cJ (va_A (aYE cI cC cZ cB cJ a_m nY sJ eG iY lY jR jW jZ jO oQ bR aY jQ gY iJ mQ lJ jA bG mK jB mW mJ eJ dG bT aG jC bL bY jD mLn oF rP dQ aJ aB bW bZ aR aE bI aW bU fJ dO bM bQ bO jY oX qG m_x gR qR nG oO pJ sW sH) sz) a_m nY sJ eG iY lY jR jW jZ jO oQ bR aY jQ gY iJ mQ lJ jA bG mK jB mW mJ eJ dG bT aG jC jD mLn oF rP dQ aJ aB bW bZ aR aE bI aW bU fJ bM bQ bO jY oX qG m_x gR qR nG oO pJ post) 0 0 (va_A (aYE cI cC cZ cB cJ a_m nY sJ eG iY lY jR jW jZ jO oQ bR aY jQ gY iJ mQ lJ jA bG mK jB mW mJ eJ dG bT aG jC bL bY jD mLn oF rP dQ aJ aB bW bZ aR aE bI aW bU fJ dO bM bQ bO jY oX qG m_x gR qR nG oO pJ sW sH) sz) := by
  refine aBJ (own := zX) (dC, dI) (tyl cI cC cZ cB cJ) (aYE cI cC cZ cB cJ a_m nY sJ eG iY lY jR jW jZ jO oQ bR aY jQ gY iJ mQ lJ jA bG mK jB mW mJ eJ dG bT aG jC bL bY jD mLn oF rP dQ aJ aB bW bZ aR aE bI aW bU fJ dO bM bQ bO jY oX qG m_x gR qR nG oO pJ sW sH) sz [.ref a_m, .int p0] (fun A => q_X10_ondays dC dI cI cC cZ cB cJ A a_m nY sJ eG iY lY jR jW jZ jO oQ bR aY jQ gY iJ mQ lJ jA bG mK jB mW mJ eJ dG bT aG jC jD mLn oF rP dQ aJ aB bW bZ aR aE bI aW bU fJ bM bQ bO jY oX qG m_x gR qR nG oO pJ post) aFY rfl (lbz rfl) ?_
  intro p e s m args below meth c A H locs ls C0 hP hD hS hl
  have hl : lv_has ls 2 [(0, .ref a_m), (1, .int p0)] := hl
  obtain ⟨hx, hb, hr, hml, hown, hts, hlocks, hA, hK, hN, tL, tM, hZL, hTL, hZM, hTM, hZX⟩ := id C0
  have hp := hw
  unfold wp_X10_ondays at hp
  refine lv_aload_n hx hb aTB.1 rfl (lv_at hl 0 rfl) ?_
  refine lv_iconst (v := 0) hx hb aTB.2.1 aCi ?_
  refine va_put (D := (dC, dI)) (ci := 10) (v := .int 0) (ty := .int) (C := zX) (T := aBe) (N := 51) hx hb hts aAt aD2 aAa aEC hown hK hP hD hS 0 rfl rfl 14 (lbz rfl) (hts _ q_638) (fun _ h9 => h9) rfl (aAa 14 (lbz rfl)) rfl rfl (lbz rfl) aTB.2.2.1 (fun H locs hP hD hS => ?_)
  have hPD := PDw (ws' := (aYE cI cC cZ cB cJ a_m nY sJ eG iY lY jR jW jZ jO oQ bR aY jQ gY iJ mQ lJ jA bG mK jB mW mJ eJ dG bT aG jC bL 0 jD mLn oF rP dQ aJ aB bW bZ aR aE bI aW bU fJ dO bM bQ bO jY oX qG m_x gR qR nG oO pJ sW sH)) hP hD rfl
  have hP := hPD.1
  have hD := hPD.2
  refine lv_iload_n hx hb aTB.2.2.2.1 rfl (lv_at hl 1 rfl) ?_
  refine lv_aload_n hx hb aTB.2.2.2.2.1 rfl (lv_at hl 0 rfl) ?_
  refine va_get (D := (dC, dI)) (ci := 10) (v := .ref nY) (C := zX) (T := aBe) (N := 51) hx hb hts aAt hown hK hP 0 rfl rfl 0 (lbz rfl) (hts _ aHO) (fun _ h9 => h9) rfl aTB.2.2.2.2.2.1 ?_
  refine lv_bipush (v := 19) hx hb aTB.2.2.2.2.2.2.1 bp_19 ?_
  refine va_iald hx hb hK hP 1 0 rfl rfl (g_in rfl) aTB.2.2.2.2.2.2.2.1 ?_
  refine lv_topi (fun v_1 aFJ => ?_)
  have hp := hp v_1 aFJ
  refine lv_bipush (v := 9) hx hb aTB.2.2.2.2.2.2.2.2.1 bp_9 ?_
  have hm := mgk (wc := (aKW cI cC cZ cB cJ)) hP aGk 10 rfl rfl rfl
  refine yW hP hD hS hA (yS aGk) (aAi aGk) hm.1 hm.2 (aAk _) (zW _) (aDn (As := [.int p0, .int v_1, .int 9]) (rest := []) C0 hP hD hS (yS aGk) hm.1 (aAl _) (aRu l dC dI cI cC cZ cB cJ H.size p0 v_1 9 _ hp) q_641 q_644 q_643 aBL aRx rfl rfl ⟨lbz rfl, lbz rfl⟩ rfl rfl hl.1 rfl (lv_room (lbz rfl)) aTB.2.2.2.2.2.2.2.2.2.1 ⟨Nat.zero_le _, Nat.zero_le _⟩) (fun r_2 u H locs hp hP hD hS => ?_)
  have hPD := PDm (ws' := (aYE cI cC cZ cB cJ a_m nY sJ eG iY lY jR jW jZ jO oQ bR aY jQ gY iJ mQ lJ jA bG mK jB mW mJ eJ dG bT aG jC bL 0 jD mLn oF rP dQ aJ aB bW bZ aR aE bI aW bU fJ dO bM bQ bO jY oX qG m_x gR qR nG oO pJ sW sH)) hP hD 10 rfl rfl rfl
  have hP := hPD.1
  have hD := hPD.2
  refine lv_if_ne (tgt := 23) hx hb aTB.2.2.2.2.2.2.2.2.2.2.1 (by decide) (fun hc => ?_) (fun hc => ?_)
  · have hp := hp.1 hc
    refine lv_aload_n hx hb aTB.2.2.2.2.2.2.2.2.2.2.2.2.2.1 rfl (lv_at hl 0 rfl) ?_
    have hm := mgk (wc := (aIe cI cC cZ cB cJ a_m nY sJ eG iY lY jR jW jZ jO oQ bR aY jQ gY iJ mQ lJ jA bG mK jB mW mJ eJ dG bT aG jC bL 0 jD mLn oF rP dQ aJ aB bW bZ aR aE bI aW bU fJ dO bM bQ bO jY oX qG m_x gR qR nG oO pJ sH)) hP aUv 10 rfl rfl rfl
    refine aBn hP hD hS hA (yS aUv) (aAi aUv) hm.1 hm.2 (aAk _) (zW _) (zF (As := []) (rest := []) C0 hP hD hS (yS aUv) hm.1 (aAl _) 0 10 rfl rfl (aPr l dC dI cI cC cZ cB cJ a_m nY sJ eG iY lY jR jW jZ jO oQ bR aY jQ gY iJ mQ lJ jA bG mK jB mW mJ eJ dG H.size bT aG jC bL 0 jD mLn oF rP dQ aJ aB bW bZ aR aE bI aW bU fJ dO bM bQ bO jY oX qG m_x gR qR nG oO pJ sH _ hp) q_883 q_886 q_884 q_885 aBL aQ3 rfl rfl ⟨lbz rfl, lbz rfl⟩ rfl rfl hl.1 rfl (lv_room (lbz rfl)) aTB.2.2.2.2.2.2.2.2.2.2.2.2.2.2.1 ⟨Nat.zero_le _, Nat.zero_le _⟩) (fun u H locs hp hP hD hS => ?_)
    obtain ⟨aC5, aF5⟩ := u
    have hPD := PDm (ws' := (aYE cI cC cZ cB cJ a_m nY sJ eG iY lY jR jW jZ jO oQ bR aY jQ gY iJ mQ lJ jA bG mK jB mW mJ eJ dG bT aG jC bL 0 jD mLn oF rP dQ aJ aB bW bZ aR aE bI aW bU fJ aC5 bM bQ bO jY oX qG m_x gR qR nG oO pJ sW aF5)) hP hD 10 rfl rfl rfl
    have hP := hPD.1
    have hD := hPD.2
    refine lv_aload_n hx hb aTB.2.2.2.2.2.2.2.2.2.2.2.2.2.2.2 rfl (lv_at hl 0 rfl) ?_
    refine lv_aload_n hx hb eX10_ondays_28.1 rfl (lv_at hl 0 rfl) ?_
    refine lv_iload_n hx hb eX10_ondays_28.2.1 rfl (lv_at hl 1 rfl) ?_
    have hm := mgk (wc := (aZd cI cC cZ cB cJ a_m nY sJ eG iY lY jR jW jZ jO oQ bR aY jQ gY iJ mQ lJ jA bG mK jB mW mJ eJ dG bT aG jC bL 0 jD mLn oF rP dQ aJ aB bW bZ aR aE bI aW bU fJ aC5 bM bQ bO jY oX qG qR)) hP mk_296 10 rfl rfl rfl
    refine yW hP hD hS hA (yS mk_296) (aAi mk_296) hm.1 hm.2 (aAk _) (zW _) (zF (As := [.int p0]) (rest := [.ref a_m]) C0 hP hD hS (yS mk_296) hm.1 (aAl _) 0 10 rfl rfl (c_X10_firstRipe l dC dI cI cC cZ cB cJ a_m nY sJ eG iY lY jR jW jZ jO oQ bR aY jQ gY iJ mQ lJ jA bG mK jB mW mJ eJ dG H.size p0 bT aG jC bL 0 jD mLn oF rP dQ aJ aB bW bZ aR aE bI aW bU fJ aC5 bM bQ bO jY oX qG qR _ hp) q_949 q_952 q_950 q_951 aBL h_X10_firstRipe rfl rfl ⟨lbz rfl, lbz rfl⟩ rfl rfl hl.1 rfl (lv_room (lbz rfl)) eX10_ondays_28.2.2.1 ⟨Nat.zero_le _, Nat.zero_le _⟩) (fun r_5 u H locs hp hP hD hS => ?_)
    have hPD := PDm (ws' := (aYE cI cC cZ cB cJ a_m nY sJ eG iY lY jR jW jZ jO oQ bR aY jQ gY iJ mQ lJ jA bG mK jB mW mJ eJ dG bT aG jC bL 0 jD mLn oF rP dQ aJ aB bW bZ aR aE bI aW bU fJ aC5 bM bQ bO jY oX qG m_x gR qR nG oO pJ sW aF5)) hP hD 10 rfl rfl rfl
    have hP := hPD.1
    have hD := hPD.2
    refine lv_aload_n hx hb eX10_ondays_28.2.2.2.1 rfl (lv_at hl 0 rfl) ?_
    refine lv_aload_n hx hb eX10_ondays_28.2.2.2.2.1 rfl (lv_at hl 0 rfl) ?_
    have hm := mgk (wc := (aGj cI cC cZ cB cJ a_m nY sJ eG iY lY jR jW jZ jO oQ bR aY jQ gY iJ mQ lJ jA bG mK jB mW mJ eJ dG bT aG jC bL 0 jD mLn oF rP dQ aJ aB bW bZ aR aE bI aW bU fJ aC5 bM bQ bO jY oX)) hP aRf 10 rfl rfl rfl
    refine yW hP hD hS hA (yS aRf) (aAi aRf) hm.1 hm.2 (aAk _) (zW _) (zF (As := []) (rest := [.ref a_m, .int r_5, .ref a_m]) C0 hP hD hS (yS aRf) hm.1 (aAl _) 0 10 rfl rfl (aKY l dC dI cI cC cZ cB cJ a_m nY sJ eG iY lY jR jW jZ jO oQ bR aY jQ gY iJ mQ lJ jA bG mK jB mW mJ eJ dG H.size bT aG jC bL 0 jD mLn oF rP dQ aJ aB bW bZ aR aE bI aW bU fJ aC5 bM bQ bO jY oX _ hp) q_870 q_873 q_871 q_872 aBL aKa rfl rfl ⟨lbz rfl, lbz rfl⟩ rfl rfl hl.1 rfl (lv_room (lbz rfl)) eX10_ondays_28.2.2.2.2.2.1 ⟨Nat.zero_le _, Nat.zero_le _⟩) (fun r_6 u H locs hp hP hD hS => ?_)
    have hPD := PDm (ws' := (aYE cI cC cZ cB cJ a_m nY sJ eG iY lY jR jW jZ jO oQ bR aY jQ gY iJ mQ lJ jA bG mK jB mW mJ eJ dG bT aG jC bL 0 jD mLn oF rP dQ aJ aB bW bZ aR aE bI aW bU fJ aC5 bM bQ bO jY oX qG m_x gR qR nG oO pJ sW aF5)) hP hD 10 rfl rfl rfl
    have hP := hPD.1
    have hD := hPD.2
    have hm := mgk (wc := (aH9 cI cC cZ cB cJ a_m nY sJ eG iY lY jR jW jZ jO oQ bR aY jQ gY iJ mQ lJ jA bG mK jB mW mJ eJ dG bT aG jC bL 0 jD mLn oF rP dQ aJ aB bW bZ aR aE bI aW bU fJ aC5 bM bQ bO jY oX aF5)) hP mk_284 10 rfl rfl rfl
    refine yW hP hD hS hA (yS mk_284) (aAi mk_284) hm.1 hm.2 (aAk _) (zW _) (zF (As := [.int r_6]) (rest := [.int r_5, .ref a_m]) C0 hP hD hS (yS mk_284) hm.1 (aAl _) 0 10 rfl rfl (c_X10_handOf l dC dI cI cC cZ cB cJ a_m nY sJ eG iY lY jR jW jZ jO oQ bR aY jQ gY iJ mQ lJ jA bG mK jB mW mJ eJ dG H.size r_6 bT aG jC bL 0 jD mLn oF rP dQ aJ aB bW bZ aR aE bI aW bU fJ aC5 bM bQ bO jY oX aF5 _ hp) q_874 q_877 q_875 q_876 aBL h_X10_handOf rfl rfl ⟨lbz rfl, lbz rfl⟩ rfl rfl hl.1 rfl (lv_room (lbz rfl)) eX10_ondays_28.2.2.2.2.2.2.1 ⟨Nat.zero_le _, Nat.zero_le _⟩) (fun r_7 u H locs hp hP hD hS => ?_)
    have hPD := PDm (ws' := (aYE cI cC cZ cB cJ a_m nY sJ eG iY lY jR jW jZ jO oQ bR aY jQ gY iJ mQ lJ jA bG mK jB mW mJ eJ dG bT aG jC bL 0 jD mLn oF rP dQ aJ aB bW bZ aR aE bI aW bU fJ aC5 bM bQ bO jY oX qG m_x gR qR nG oO pJ sW aF5)) hP hD 10 rfl rfl rfl
    have hP := hPD.1
    have hD := hPD.2
    refine lv_iand hx hb eX10_ondays_28.2.2.2.2.2.2.2.1 ?_
    refine lv_topi (fun v_8 ev_8 => ?_)
    have hp := hp v_8 ev_8
    have hm := mgk (wc := (aHQ cI cC cZ cB cJ a_m nY sJ eG iY lY jR jW jZ jO oQ bR aY jQ gY iJ mQ lJ jA bG mK jB mW mJ eJ dG bT aG jC bL 0 jD mLn oF rP dQ aJ aB bW bZ aR aE bI aW bU fJ aC5 bM bQ bO jY oX sW aF5)) hP mk_255 10 rfl rfl rfl
    refine yW hP hD hS hA (yS mk_255) (aAi mk_255) hm.1 hm.2 (aAk _) (zW _) (zF (As := [.int v_8]) (rest := []) C0 hP hD hS (yS mk_255) hm.1 (aAl _) 0 10 rfl rfl (c_X10_tellCover l dC dI cI cC cZ cB cJ a_m nY sJ eG iY lY jR jW jZ jO oQ bR aY jQ gY iJ mQ lJ jA bG mK jB mW mJ eJ dG H.size v_8 bT aG jC bL 0 jD mLn oF rP dQ aJ aB bW bZ aR aE bI aW bU fJ aC5 bM bQ bO jY oX sW aF5 _ hp) q_902 q_905 q_903 q_904 aBL h_X10_tellCover rfl rfl ⟨lbz rfl, lbz rfl⟩ rfl rfl hl.1 rfl (lv_room (lbz rfl)) eX10_ondays_28.2.2.2.2.2.2.2.2.1 ⟨Nat.zero_le _, Nat.zero_le _⟩) (fun r_9 u H locs hp hP hD hS => ?_)
    obtain ⟨aDZ, aHj⟩ := u
    have hPD := PDm (ws' := (aYE cI cC cZ cB cJ a_m nY sJ eG iY lY jR jW jZ jO oQ bR aY jQ gY iJ mQ lJ jA bG mK jB mW mJ eJ dG bT aG jC aDZ 0 jD mLn oF rP dQ aJ aB bW bZ aR aE bI aW bU fJ aC5 bM bQ bO jY oX qG m_x gR qR nG oO pJ aHj aF5)) hP hD 10 rfl rfl rfl
    have hP := hPD.1
    have hD := hPD.2
    exact W.iret (v := r_9) hx hb hr (fun t ht hW => ⟨⟨r_9, (aDZ, 0, aC5, aHj, aF5), rfl, hp, by rw [ht]; exact hP, va_K.moved hW.alike hK, hD⟩, hS.F ht⟩) hS.2.2 eX10_ondays_28.2.2.2.2.2.2.2.2.2
  · have hp := hp.2 hc
    refine lv_iconst (v := (-1)) hx hb aTB.2.2.2.2.2.2.2.2.2.2.2.1 aEJ ?_
    exact W.iret (v := (-1)) hx hb hr (fun t ht hW => ⟨⟨(-1), (bL, 0, dO, sW, sH), rfl, hp, by rw [ht]; exact hP, va_K.moved hW.alike hK, hD⟩, hS.F ht⟩) hS.2.2 aTB.2.2.2.2.2.2.2.2.2.2.2.2.1
abbrev aI7 (cI cC cZ cB cJ : ClassId) (a_m nY sJ eG iY lY jR jW jZ jO oQ bR aY jQ gY iJ mQ lJ jA bG mK jB mW mJ eJ dG : Nat) (bT aG jC bL bY : Int32) (jD : Nat) (mLn oF rP dQ aJ aB bW bZ aR aE bI aW bU fJ dO bM bQ bO jY oX : Int32) (qG pW qR sW : Nat -> Int32) : va_W := [(a_m, .inr (10, [.ref nY, .int bT, .ref sJ, .ref eG, .ref iY, .ref lY, .int aG, .ref jR, .ref jW, .ref jZ, .ref jO, .int jC, .ref oQ, .int bL, .int bY, rdv jO jQ jD, .int mLn, .int oF, .int rP, .int dQ, .ref bR, .ref aY, .int aJ, .int aB, .ref jQ, .int bW, .int bZ, .int aR, .int aE, .int bI, .int aW, .ref gY, .int bU, .ref iJ, .ref mQ, .int fJ, .ref lJ, .int dO, .ref jA, .ref bG, .int bM, .int bQ, .int bO, .ref mK, .ref jB, .ref mW, .int jY, .int oX, .ref mJ, .ref eJ, .ref dG])), (nY, .inl (cI, 21, .inl qG)), (iY, .inl (cI, 16, .inl pW)), (lY, .inl (cI, 16, .inl qR)), (oQ, .inl (cI, 32, .inl sW))]
abbrev q_X10_allripe (dC : Nat -> ClassId) (dI : Nat -> Nat -> Nat) (cI cC cZ cB cJ : ClassId) (A : Nat -> Prop) (a_m nY sJ eG iY lY jR jW jZ jO oQ bR aY jQ gY iJ mQ lJ jA bG mK jB mW mJ eJ dG : Nat) (bT aG jC : Int32) (jD : Nat) (mLn oF rP dQ aJ aB bW bZ aR aE bI aW bU fJ dO bM bQ bO jY oX : Int32) (qG pW qR : Nat -> Int32) (post : Int32 -> Int32 -> Int32 -> (Nat -> Int32) -> Prop) : Array Value -> State -> Outcome -> State -> Prop := va_Qi (fun (r : Int32) (u : Int32 × Int32 × (Nat -> Int32)) => post r u.1 u.2.1 u.2.2) (fun u t => gB (dC, dI) (tyl cI cC cZ cB cJ) A (aI7 cI cC cZ cB cJ a_m nY sJ eG iY lY jR jW jZ jO oQ bR aY jQ gY iJ mQ lJ jA bG mK jB mW mJ eJ dG bT aG jC u.1 u.2.1 jD mLn oF rP dQ aJ aB bW bZ aR aE bI aW bU fJ dO bM bQ bO jY oX qG pW qR u.2.2) t) A
abbrev rm_X10_allripe : Room := { frames := 3, cells := 0, slots := 0, locals := 67 }
section S_X10_allripe
variable {p : Program} {l : Launch} {e : Env} {s : State} {m : MethodId} {args : Array Value} {below : List Frame} {meth : Method} {c : Code} {dC : Nat -> ClassId} {dI : Nat -> Nat -> Nat} {cI cC cZ cB cJ : ClassId} {A : Nat -> Prop} {a_m nY sJ eG iY lY jR jW jZ jO oQ bR aY jQ gY iJ mQ lJ jA bG mK jB mW mJ eJ dG : Nat} {bT aG jC : Int32} {jD : Nat} {mLn oF rP dQ aJ aB bW bZ aR aE bI aW bU fJ dO bM bQ bO jY oX : Int32} {qG pW qR : Nat -> Int32} {post : Int32 -> Int32 -> Int32 -> (Nat -> Int32) -> Prop}
def ws_X10_allripe_39 (post : Int32 -> Int32 -> Int32 -> (Nat -> Int32) -> Prop) (next : Int32 -> Int32 -> Int32 -> Int32 -> Int32 -> (Nat -> Int32) -> Prop) (bT : Int32) (qG pW qR : Nat -> Int32) (x1 x2 x3 bL bY : Int32) (sW : Nat -> Int32) : Prop := aLg (fun r_6 => ((x1 &&& (r_6 ^^^ (-1))) = 0 -> aBb (fun r_7 => aDs (fun aG6 aUs => ∀ aEr : Int32, aEr = qG (16 : Int32).toNatClampNeg -> aMp (fun r_11 => aDs (fun bBH m_row_13 => post x3 bBH bY m_row_13) r_11 aG6 aUs) x2 aEr bT pW) r_7 0 sW) x2) /\ (¬ (x1 &&& (r_6 ^^^ (-1))) = 0 -> ∀ aGC : Int32, aGC = x3 + 1 -> next x1 x2 aGC bL bY sW)) x3 bT qR
noncomputable def wb_X10_allripe_39 (post : Int32 -> Int32 -> Int32 -> (Nat -> Int32) -> Prop) (bT : Int32) (qG pW qR : Nat -> Int32) : Nat -> Int32 -> Int32 -> Int32 -> Int32 -> Int32 -> (Nat -> Int32) -> Prop := fun n => Nat.rec (motive := fun _ => Int32 -> Int32 -> Int32 -> Int32 -> Int32 -> (Nat -> Int32) -> Prop) (fun _ _ _ _ _ _ => False) (fun _ ih => ws_X10_allripe_39 post ih bT qG pW qR) n
set_option maxHeartbeats 4000000 in
set_option maxRecDepth 100000 in
theorem ks_X10_allripe_39 (C0 : gc aDL (some .int) 4 zX (dC, dI) (tyl cI cC cZ cB cJ) A p s m args meth c) {next : Int32 -> Int32 -> Int32 -> Int32 -> Int32 -> (Nat -> Int32) -> Prop} (hKn : ∀ (x1 : Int32) (x2 : Int32) (x3 : Int32) (bL : Int32) (bY : Int32) (sW : Nat -> Int32) (H : Heap) (locs : List Loc) (ls : Array Slot), next x1 x2 x3 bL bY sW -> va_P (dC, dI) classes (aI7 cI cC cZ cB cJ a_m nY sJ eG iY lY jR jW jZ jO oQ bR aY jQ gY iJ mQ lJ jA bG mK jB mW mJ eJ dG bT aG jC bL bY jD mLn oF rP dQ aJ aB bW bZ aR aE bI aW bU fJ dO bM bQ bO jY oX qG pW qR sW) H -> va_D A (aI7 cI cC cZ cB cJ a_m nY sJ eG iY lY jR jW jZ jO oQ bR aY jQ gY iJ mQ lJ jA bG mK jB mW mJ eJ dG bT aG jC bL bY jD mLn oF rP dQ aJ aB bW bZ aR aE bI aW bU fJ dO bM bQ bO jY oX qG pW qR sW) -> va_S A s.heap H locs -> lv_has ls 4 [(0, .ref a_m), (1, .int x1), (2, .int x2), (3, .int x3)] -> W p l e rm_X10_allripe s m args below meth c H locs 0 0 (MQ below (q_X10_allripe dC dI cI cC cZ cB cJ A a_m nY sJ eG iY lY jR jW jZ jO oQ bR aY jQ gY iJ mQ lJ jA bG mK jB mW mJ eJ dG bT aG jC jD mLn oF rP dQ aJ aB bW bZ aR aE bI aW bU fJ dO bM bQ bO jY oX qG pW qR post) args s 0 0 A) (F0 m 39 ls [])) : ∀ (x1 x2 x3 bL bY : Int32) (sW : Nat -> Int32) (H : Heap) (locs : List Loc) (ls : Array Slot), (ws_X10_allripe_39 post next bT qG pW qR) x1 x2 x3 bL bY sW -> va_P (dC, dI) classes (aI7 cI cC cZ cB cJ a_m nY sJ eG iY lY jR jW jZ jO oQ bR aY jQ gY iJ mQ lJ jA bG mK jB mW mJ eJ dG bT aG jC bL bY jD mLn oF rP dQ aJ aB bW bZ aR aE bI aW bU fJ dO bM bQ bO jY oX qG pW qR sW) H -> va_D A (aI7 cI cC cZ cB cJ a_m nY sJ eG iY lY jR jW jZ jO oQ bR aY jQ gY iJ mQ lJ jA bG mK jB mW mJ eJ dG bT aG jC bL bY jD mLn oF rP dQ aJ aB bW bZ aR aE bI aW bU fJ dO bM bQ bO jY oX qG pW qR sW) -> va_S A s.heap H locs -> lv_has ls 4 [(0, .ref a_m), (1, .int x1), (2, .int x2), (3, .int x3)] -> W p l e rm_X10_allripe s m args below meth c H locs 0 0 (MQ below (q_X10_allripe dC dI cI cC cZ cB cJ A a_m nY sJ eG iY lY jR jW jZ jO oQ bR aY jQ gY iJ mQ lJ jA bG mK jB mW mJ eJ dG bT aG jC jD mLn oF rP dQ aJ aB bW bZ aR aE bI aW bU fJ dO bM bQ bO jY oX qG pW qR post) args s 0 0 A) (F0 m 39 ls []) := by
  obtain ⟨hx, hb, hr, hml, hown, hts, hlocks, hA, hK, hN, tL, tM, hZL, hTL, hZM, hTM, hZX⟩ := id C0
  intro x1 x2 x3 bL bY sW H locs ls hp hP hD hS hl
  unfold ws_X10_allripe_39 at hp
  refine lv_iload_n hx hb aNf.2.2.2.2.2.2.2.2.2.1 rfl (lv_at hl 1 rfl) ?_
  refine lv_aload_n hx hb aNf.2.2.2.2.2.2.2.2.2.2.1 rfl (lv_at hl 0 rfl) ?_
  refine lv_iload_n hx hb aNf.2.2.2.2.2.2.2.2.2.2.2.1 rfl (lv_at hl 3 rfl) ?_
  have hm := mgk (wc := (aHf cI cC cZ cB cJ a_m nY sJ eG iY lY jR jW jZ jO oQ bR aY jQ gY iJ mQ lJ jA bG mK jB mW mJ eJ dG bT aG jC bL bY jD mLn oF rP dQ aJ aB bW bZ aR aE bI aW bU fJ dO bM bQ bO jY oX qR)) hP mk_46 5 rfl rfl rfl
  refine yW hP hD hS hA (yS mk_46) (aAi mk_46) hm.1 hm.2 (aAk _) (zW _) (zF (As := [.int x3]) (rest := [.int x1]) C0 hP hD hS (yS mk_46) hm.1 (aAl _) 0 10 rfl rfl (c_X10_ripeOnes l dC dI cI cC cZ cB cJ a_m nY sJ eG iY lY jR jW jZ jO oQ bR aY jQ gY iJ mQ lJ jA bG mK jB mW mJ eJ dG H.size x3 bT aG jC bL bY jD mLn oF rP dQ aJ aB bW bZ aR aE bI aW bU fJ dO bM bQ bO jY oX qR _ hp) q_828 q_831 q_829 q_830 aBL h_X10_ripeOnes rfl rfl ⟨lbz rfl, lbz rfl⟩ rfl rfl hl.1 rfl (lv_room (lbz rfl)) aNf.2.2.2.2.2.2.2.2.2.2.2.2.1 ⟨Nat.zero_le _, Nat.zero_le _⟩) (fun r_6 u H locs hp hP hD hS => ?_)
  have hPD := PDm (ws' := (aI7 cI cC cZ cB cJ a_m nY sJ eG iY lY jR jW jZ jO oQ bR aY jQ gY iJ mQ lJ jA bG mK jB mW mJ eJ dG bT aG jC bL bY jD mLn oF rP dQ aJ aB bW bZ aR aE bI aW bU fJ dO bM bQ bO jY oX qG pW qR sW)) hP hD 5 rfl rfl rfl
  have hP := hPD.1
  have hD := hPD.2
  refine lv_iconst (v := (-1)) hx hb aNf.2.2.2.2.2.2.2.2.2.2.2.2.2.1 aEJ ?_
  refine lv_ixor hx hb aNf.2.2.2.2.2.2.2.2.2.2.2.2.2.2.1 ?_
  refine lv_iand hx hb aNf.2.2.2.2.2.2.2.2.2.2.2.2.2.2.2 ?_
  refine lv_if_eq (tgt := 57) hx hb aNg.1 (by decide) (fun hc => ?_) (fun hc => ?_)
  · have hp := hp.1 hc
    refine lv_aload_n hx hb aNg.2.2.2.1 rfl (lv_at hl 0 rfl) ?_
    refine lv_iconst (v := 0) hx hb aNg.2.2.2.2.1 aCi ?_
    refine va_put (D := (dC, dI)) (ci := 10) (v := .int 0) (ty := .int) (C := zX) (T := aBe) (N := 51) hx hb hts aAt aD2 aAa aEC hown hK hP hD hS 0 rfl rfl 13 (lbz rfl) (hts _ q_847) (fun _ h9 => h9) rfl (aAa 13 (lbz rfl)) rfl rfl (lbz rfl) aNg.2.2.2.2.2.1 (fun H locs hP hD hS => ?_)
    have hPD := PDw (ws' := (aI7 cI cC cZ cB cJ a_m nY sJ eG iY lY jR jW jZ jO oQ bR aY jQ gY iJ mQ lJ jA bG mK jB mW mJ eJ dG bT aG jC 0 bY jD mLn oF rP dQ aJ aB bW bZ aR aE bI aW bU fJ dO bM bQ bO jY oX qG pW qR sW)) hP hD rfl
    have hP := hPD.1
    have hD := hPD.2
    refine lv_aload_n hx hb aNg.2.2.2.2.2.2.1 rfl (lv_at hl 0 rfl) ?_
    refine lv_iload_n hx hb aNg.2.2.2.2.2.2.2.1 rfl (lv_at hl 2 rfl) ?_
    have hm := mgk (wc := (aBh cI cC cZ cB cJ)) hP mk_23 5 rfl rfl rfl
    refine yW hP hD hS hA (yS mk_23) (aAi mk_23) hm.1 hm.2 (aAk _) (zW _) (aDn (As := [.int x2]) (rest := [.ref a_m]) C0 hP hD hS (yS mk_23) hm.1 (aAl _) (aBv l dC dI cI cC cZ cB cJ H.size x2 _ hp) q_320 q_803 q_322 q_321 aBw rfl rfl ⟨lbz rfl, lbz rfl⟩ rfl rfl hl.1 rfl (lv_room (lbz rfl)) aNg.2.2.2.2.2.2.2.2.1 ⟨Nat.zero_le _, Nat.zero_le _⟩) (fun r_7 u H locs hp hP hD hS => ?_)
    have hPD := PDm (ws' := (aI7 cI cC cZ cB cJ a_m nY sJ eG iY lY jR jW jZ jO oQ bR aY jQ gY iJ mQ lJ jA bG mK jB mW mJ eJ dG bT aG jC 0 bY jD mLn oF rP dQ aJ aB bW bZ aR aE bI aW bU fJ dO bM bQ bO jY oX qG pW qR sW)) hP hD 5 rfl rfl rfl
    have hP := hPD.1
    have hD := hPD.2
    have hm := mgk (wc := (aD0 cI cC cZ cB cJ a_m nY sJ eG iY lY jR jW jZ jO oQ bR aY jQ gY iJ mQ lJ jA bG mK jB mW mJ eJ dG bT aG jC 0 bY jD mLn oF rP dQ aJ aB bW bZ aR aE bI aW bU fJ dO bM bQ bO jY oX sW)) hP mk_297 5 rfl rfl rfl
    refine aBn hP hD hS hA (yS mk_297) (aAi mk_297) hm.1 hm.2 (aAk _) (zW _) (zF (As := [.int r_7]) (rest := []) C0 hP hD hS (yS mk_297) hm.1 (aAl _) 0 10 rfl rfl (aGE l dC dI cI cC cZ cB cJ a_m nY sJ eG iY lY jR jW jZ jO oQ bR aY jQ gY iJ mQ lJ jA bG mK jB mW mJ eJ dG H.size r_7 bT aG jC 0 bY jD mLn oF rP dQ aJ aB bW bZ aR aE bI aW bU fJ dO bM bQ bO jY oX sW _ hp) q_849 q_852 q_850 q_851 aBL aGF rfl rfl ⟨lbz rfl, lbz rfl⟩ rfl rfl hl.1 rfl (lv_room (lbz rfl)) aNg.2.2.2.2.2.2.2.2.2.1 ⟨Nat.zero_le _, Nat.zero_le _⟩) (fun u H locs hp hP hD hS => ?_)
    obtain ⟨aG6, aUs⟩ := u
    have hPD := PDm (ws' := (aI7 cI cC cZ cB cJ a_m nY sJ eG iY lY jR jW jZ jO oQ bR aY jQ gY iJ mQ lJ jA bG mK jB mW mJ eJ dG bT aG jC aG6 bY jD mLn oF rP dQ aJ aB bW bZ aR aE bI aW bU fJ dO bM bQ bO jY oX qG pW qR aUs)) hP hD 5 rfl rfl rfl
    have hP := hPD.1
    have hD := hPD.2
    refine lv_aload_n hx hb aNg.2.2.2.2.2.2.2.2.2.2.1 rfl (lv_at hl 0 rfl) ?_
    refine lv_aload_n hx hb aNg.2.2.2.2.2.2.2.2.2.2.2.1 rfl (lv_at hl 0 rfl) ?_
    refine lv_iload_n hx hb aNg.2.2.2.2.2.2.2.2.2.2.2.2.1 rfl (lv_at hl 2 rfl) ?_
    refine lv_aload_n hx hb aNg.2.2.2.2.2.2.2.2.2.2.2.2.2.1 rfl (lv_at hl 0 rfl) ?_
    refine va_get (D := (dC, dI)) (ci := 10) (v := .ref nY) (C := zX) (T := aBe) (N := 51) hx hb hts aAt hown hK hP 0 rfl rfl 0 (lbz rfl) (hts _ aHO) (fun _ h9 => h9) rfl aNg.2.2.2.2.2.2.2.2.2.2.2.2.2.2.1 ?_
    refine lv_bipush (v := 16) hx hb aNg.2.2.2.2.2.2.2.2.2.2.2.2.2.2.2 bp_16 ?_
    refine va_iald hx hb hK hP 1 0 rfl rfl (g_in rfl) eX10_allripe_79.1 ?_
    refine lv_topi (fun aEr aNB => ?_)
    have hp := hp aEr aNB
    have hm := mgk (wc := (aFo cI cC cZ cB cJ a_m nY sJ eG iY lY jR jW jZ jO oQ bR aY jQ gY iJ mQ lJ jA bG mK jB mW mJ eJ dG bT aG jC aG6 bY jD mLn oF rP dQ aJ aB bW bZ aR aE bI aW bU fJ dO bM bQ bO jY oX pW)) hP mk_298 5 rfl rfl rfl
    refine yW hP hD hS hA (yS mk_298) (aAi mk_298) hm.1 hm.2 (aAk _) (zW _) (zF (As := [.int x2, .int aEr]) (rest := [.ref a_m]) C0 hP hD hS (yS mk_298) hm.1 (aAl _) 0 10 rfl rfl (bCS l dC dI cI cC cZ cB cJ a_m nY sJ eG iY lY jR jW jZ jO oQ bR aY jQ gY iJ mQ lJ jA bG mK jB mW mJ eJ dG H.size x2 aEr bT aG jC aG6 bY jD mLn oF rP dQ aJ aB bW bZ aR aE bI aW bU fJ dO bM bQ bO jY oX pW _ hp) q_865 q_868 q_866 q_867 aBL bCV rfl rfl ⟨lbz rfl, lbz rfl⟩ rfl rfl hl.1 rfl (lv_room (lbz rfl)) eX10_allripe_79.2.1 ⟨Nat.zero_le _, Nat.zero_le _⟩) (fun r_11 u H locs hp hP hD hS => ?_)
    have hPD := PDm (ws' := (aI7 cI cC cZ cB cJ a_m nY sJ eG iY lY jR jW jZ jO oQ bR aY jQ gY iJ mQ lJ jA bG mK jB mW mJ eJ dG bT aG jC aG6 bY jD mLn oF rP dQ aJ aB bW bZ aR aE bI aW bU fJ dO bM bQ bO jY oX qG pW qR aUs)) hP hD 5 rfl rfl rfl
    have hP := hPD.1
    have hD := hPD.2
    have hm := mgk (wc := (aD0 cI cC cZ cB cJ a_m nY sJ eG iY lY jR jW jZ jO oQ bR aY jQ gY iJ mQ lJ jA bG mK jB mW mJ eJ dG bT aG jC aG6 bY jD mLn oF rP dQ aJ aB bW bZ aR aE bI aW bU fJ dO bM bQ bO jY oX aUs)) hP mk_297 5 rfl rfl rfl
    refine aBn hP hD hS hA (yS mk_297) (aAi mk_297) hm.1 hm.2 (aAk _) (zW _) (zF (As := [.int r_11]) (rest := []) C0 hP hD hS (yS mk_297) hm.1 (aAl _) 0 10 rfl rfl (aGE l dC dI cI cC cZ cB cJ a_m nY sJ eG iY lY jR jW jZ jO oQ bR aY jQ gY iJ mQ lJ jA bG mK jB mW mJ eJ dG H.size r_11 bT aG jC aG6 bY jD mLn oF rP dQ aJ aB bW bZ aR aE bI aW bU fJ dO bM bQ bO jY oX aUs _ hp) q_849 q_852 q_850 q_851 aBL aGF rfl rfl ⟨lbz rfl, lbz rfl⟩ rfl rfl hl.1 rfl (lv_room (lbz rfl)) eX10_allripe_79.2.2.1 ⟨Nat.zero_le _, Nat.zero_le _⟩) (fun u H locs hp hP hD hS => ?_)
    obtain ⟨bBH, m_row_13⟩ := u
    have hPD := PDm (ws' := (aI7 cI cC cZ cB cJ a_m nY sJ eG iY lY jR jW jZ jO oQ bR aY jQ gY iJ mQ lJ jA bG mK jB mW mJ eJ dG bT aG jC bBH bY jD mLn oF rP dQ aJ aB bW bZ aR aE bI aW bU fJ dO bM bQ bO jY oX qG pW qR m_row_13)) hP hD 5 rfl rfl rfl
    have hP := hPD.1
    have hD := hPD.2
    refine lv_iload_n hx hb eX10_allripe_79.2.2.2.1 rfl (lv_at hl 3 rfl) ?_
    exact W.iret (v := x3) hx hb hr (fun t ht hW => ⟨⟨x3, (bBH, bY, m_row_13), rfl, hp, by rw [ht]; exact hP, va_K.moved hW.alike hK, hD⟩, hS.F ht⟩) hS.2.2 eX10_allripe_79.2.2.2.2
  · have hp := hp.2 hc
    obtain ⟨aGC, ev_14⟩ : ∃ y : Int32, y = x3 + 1 := ⟨_, rfl⟩
    refine lv_iinc (v := aGC) (lv' := [(3, .int aGC), (0, .ref a_m), (1, .int x1), (2, .int x2)]) hx hb aNg.2.1 hl (k := 3) rfl (by rw [ev_14]; rfl) (by decide) rfl (fun ls hl => ?_)
    have hp := hp aGC ev_14
    refine lv_goto (tgt := 39) hx hb aNg.2.2.1 (by decide) ?_
    exact hKn x1 x2 aGC bL bY sW H locs ls hp hP hD hS (lv_sub hl [1, 2, 3, 0] rfl)
set_option maxHeartbeats 4000000 in
set_option maxRecDepth 100000 in
theorem kb_X10_allripe_39 (C0 : gc aDL (some .int) 4 zX (dC, dI) (tyl cI cC cZ cB cJ) A p s m args meth c) : ∀ (n : Nat), ∀ (x1 x2 x3 bL bY : Int32) (sW : Nat -> Int32) (H : Heap) (locs : List Loc) (ls : Array Slot), (wb_X10_allripe_39 post bT qG pW qR n) x1 x2 x3 bL bY sW -> va_P (dC, dI) classes (aI7 cI cC cZ cB cJ a_m nY sJ eG iY lY jR jW jZ jO oQ bR aY jQ gY iJ mQ lJ jA bG mK jB mW mJ eJ dG bT aG jC bL bY jD mLn oF rP dQ aJ aB bW bZ aR aE bI aW bU fJ dO bM bQ bO jY oX qG pW qR sW) H -> va_D A (aI7 cI cC cZ cB cJ a_m nY sJ eG iY lY jR jW jZ jO oQ bR aY jQ gY iJ mQ lJ jA bG mK jB mW mJ eJ dG bT aG jC bL bY jD mLn oF rP dQ aJ aB bW bZ aR aE bI aW bU fJ dO bM bQ bO jY oX qG pW qR sW) -> va_S A s.heap H locs -> lv_has ls 4 [(0, .ref a_m), (1, .int x1), (2, .int x2), (3, .int x3)] -> W p l e rm_X10_allripe s m args below meth c H locs 0 0 (MQ below (q_X10_allripe dC dI cI cC cZ cB cJ A a_m nY sJ eG iY lY jR jW jZ jO oQ bR aY jQ gY iJ mQ lJ jA bG mK jB mW mJ eJ dG bT aG jC jD mLn oF rP dQ aJ aB bW bZ aR aE bI aW bU fJ dO bM bQ bO jY oX qG pW qR post) args s 0 0 A) (F0 m 39 ls []) := by
  intro n
  induction n with
  | zero =>
    intro x1 x2 x3 bL bY sW H locs ls hp
    exact False.elim hp
  | succ n ih =>
    intro x1 x2 x3 bL bY sW H locs ls hp
    exact ks_X10_allripe_39 C0 ih x1 x2 x3 bL bY sW H locs ls hp
end S_X10_allripe
def wp_X10_allripe (post : Int32 -> Int32 -> Int32 -> (Nat -> Int32) -> Prop) (bT bL bY : Int32) (qG pW qR sW : Nat -> Int32) : Prop := aIB (fun r_1 => ∀ v_2 : Int32, v_2 = qG (19 : Int32).toNatClampNeg -> aLg (fun r_3 => ∀ v_4 : Int32, v_4 = r_1 &&& (r_3 ^^^ (-1)) -> ∀ v_5 : Int32, v_5 = qG (19 : Int32).toNatClampNeg -> ∃ n : Nat, wb_X10_allripe_39 post bT qG pW qR n r_1 v_4 v_5 bL 0 sW) v_2 bT qR) 0 bT qG
set_option maxHeartbeats 4000000 in
set_option maxRecDepth 100000 in
theorem c_X10_allripe (l : Launch) (dC : Nat -> ClassId) (dI : Nat -> Nat -> Nat) (cI cC cZ cB cJ : ClassId) (a_m nY sJ eG iY lY jR jW jZ jO oQ bR aY jQ gY iJ mQ lJ jA bG mK jB mW mJ eJ dG sz : Nat) (bT aG jC bL bY : Int32) (jD : Nat) (mLn oF rP dQ aJ aB bW bZ aR aE bI aW bU fJ dO bM bQ bO jY oX : Int32) (qG pW qR sW : Nat -> Int32) (post : Int32 -> Int32 -> Int32 -> (Nat -> Int32) -> Prop) (hw : wp_X10_allripe post bT bL bY qG pW qR sW) : Met l yX10_allripe (gw yX10_allripe aDL 4 (some .int)) rm_X10_allripe (va_Pc [.ref a_m] (gPre (dC, dI) (tyl cI cC cZ cB cJ) (aI7 cI cC cZ cB cJ a_m nY sJ eG iY lY jR jW jZ jO oQ bR aY jQ gY iJ mQ lJ jA bG mK jB mW mJ eJ dG bT aG jC bL bY jD mLn oF rP dQ aJ aB bW bZ aR aE bI aW bU fJ dO bM bQ bO jY oX qG pW qR sW) sz)) (q_X10_allripe dC dI cI cC cZ cB cJ (va_A (aI7 cI cC cZ cB cJ a_m nY sJ eG iY lY jR jW jZ jO oQ bR aY jQ gY iJ mQ lJ jA bG mK jB mW mJ eJ dG bT aG jC bL bY jD mLn oF rP dQ aJ aB bW bZ aR aE bI aW bU fJ dO bM bQ bO jY oX qG pW qR sW) sz) a_m nY sJ eG iY lY jR jW jZ jO oQ bR aY jQ gY iJ mQ lJ jA bG mK jB mW mJ eJ dG bT aG jC jD mLn oF rP dQ aJ aB bW bZ aR aE bI aW bU fJ dO bM bQ bO jY oX qG pW qR post) 0 0 (va_A (aI7 cI cC cZ cB cJ a_m nY sJ eG iY lY jR jW jZ jO oQ bR aY jQ gY iJ mQ lJ jA bG mK jB mW mJ eJ dG bT aG jC bL bY jD mLn oF rP dQ aJ aB bW bZ aR aE bI aW bU fJ dO bM bQ bO jY oX qG pW qR sW) sz) := by
  refine aBJ (own := zX) (dC, dI) (tyl cI cC cZ cB cJ) (aI7 cI cC cZ cB cJ a_m nY sJ eG iY lY jR jW jZ jO oQ bR aY jQ gY iJ mQ lJ jA bG mK jB mW mJ eJ dG bT aG jC bL bY jD mLn oF rP dQ aJ aB bW bZ aR aE bI aW bU fJ dO bM bQ bO jY oX qG pW qR sW) sz [.ref a_m] (fun A => q_X10_allripe dC dI cI cC cZ cB cJ A a_m nY sJ eG iY lY jR jW jZ jO oQ bR aY jQ gY iJ mQ lJ jA bG mK jB mW mJ eJ dG bT aG jC jD mLn oF rP dQ aJ aB bW bZ aR aE bI aW bU fJ dO bM bQ bO jY oX qG pW qR post) aFY rfl (lbz rfl) ?_
  intro p e s m args below meth c A H locs ls C0 hP hD hS hl
  have hl : lv_has ls 4 [(0, .ref a_m)] := hl
  obtain ⟨hx, hb, hr, hml, hown, hts, hlocks, hA, hK, hN, tL, tM, hZL, hTL, hZM, hTM, hZX⟩ := id C0
  have hp := hw
  unfold wp_X10_allripe at hp
  refine lv_aload_n hx hb aPt.1 rfl (lv_at hl 0 rfl) ?_
  refine lv_iconst (v := 0) hx hb aPt.2.1 aCi ?_
  refine va_put (D := (dC, dI)) (ci := 10) (v := .int 0) (ty := .int) (C := zX) (T := aBe) (N := 51) hx hb hts aAt aD2 aAa aEC hown hK hP hD hS 0 rfl rfl 14 (lbz rfl) (hts _ q_638) (fun _ h9 => h9) rfl (aAa 14 (lbz rfl)) rfl rfl (lbz rfl) aPt.2.2.1 (fun H locs hP hD hS => ?_)
  have hPD := PDw (ws' := (aI7 cI cC cZ cB cJ a_m nY sJ eG iY lY jR jW jZ jO oQ bR aY jQ gY iJ mQ lJ jA bG mK jB mW mJ eJ dG bT aG jC bL 0 jD mLn oF rP dQ aJ aB bW bZ aR aE bI aW bU fJ dO bM bQ bO jY oX qG pW qR sW)) hP hD rfl
  have hP := hPD.1
  have hD := hPD.2
  refine lv_aload_n hx hb aPt.2.2.2.1 rfl (lv_at hl 0 rfl) ?_
  refine lv_aload_n hx hb aPt.2.2.2.2.1 rfl (lv_at hl 0 rfl) ?_
  refine va_get (D := (dC, dI)) (ci := 10) (v := .ref nY) (C := zX) (T := aBe) (N := 51) hx hb hts aAt hown hK hP 0 rfl rfl 0 (lbz rfl) (hts _ aHO) (fun _ h9 => h9) rfl aPt.2.2.2.2.2.1 ?_
  refine lv_iconst (v := 0) hx hb aPt.2.2.2.2.2.2.1 aCi ?_
  have hm := mgk (wc := (aGS cI cC cZ cB cJ a_m nY sJ eG iY lY jR jW jZ jO oQ bR aY jQ gY iJ mQ lJ jA bG mK jB mW mJ eJ dG bT aG jC bL 0 jD mLn oF rP dQ aJ aB bW bZ aR aE bI aW bU fJ dO bM bQ bO jY oX qG)) hP mk_17 5 rfl rfl rfl
  refine yW hP hD hS hA (yS mk_17) (aAi mk_17) hm.1 hm.2 (aAk _) (zW _) (zF (As := [.ref nY, .int 0]) (rest := []) C0 hP hD hS (yS mk_17) hm.1 (aAl _) 0 10 rfl rfl (aRP l dC dI cI cC cZ cB cJ a_m nY sJ eG iY lY jR jW jZ jO oQ bR aY jQ gY iJ mQ lJ jA bG mK jB mW mJ eJ dG H.size 0 bT aG jC bL 0 jD mLn oF rP dQ aJ aB bW bZ aR aE bI aW bU fJ dO bM bQ bO jY oX qG _ hp) q_749 q_752 q_750 q_751 aBL aRR rfl rfl ⟨lbz rfl, lbz rfl⟩ rfl rfl hl.1 rfl (lv_room (lbz rfl)) aPt.2.2.2.2.2.2.2.1 ⟨Nat.zero_le _, Nat.zero_le _⟩) (fun r_1 u H locs hp hP hD hS => ?_)
  have hPD := PDm (ws' := (aI7 cI cC cZ cB cJ a_m nY sJ eG iY lY jR jW jZ jO oQ bR aY jQ gY iJ mQ lJ jA bG mK jB mW mJ eJ dG bT aG jC bL 0 jD mLn oF rP dQ aJ aB bW bZ aR aE bI aW bU fJ dO bM bQ bO jY oX qG pW qR sW)) hP hD 5 rfl rfl rfl
  have hP := hPD.1
  have hD := hPD.2
  refine lv_istore_n (lv' := [(1, .int r_1), (0, .ref a_m)]) hx hb aPt.2.2.2.2.2.2.2.2.1 rfl hl (by decide) rfl (fun ls hl => ?_)
  refine lv_iload_n hx hb aPt.2.2.2.2.2.2.2.2.2.1 rfl (lv_at hl 0 rfl) ?_
  refine lv_aload_n hx hb aPt.2.2.2.2.2.2.2.2.2.2.1 rfl (lv_at hl 1 rfl) ?_
  refine lv_aload_n hx hb aPt.2.2.2.2.2.2.2.2.2.2.2.1 rfl (lv_at hl 1 rfl) ?_
  refine va_get (D := (dC, dI)) (ci := 10) (v := .ref nY) (C := zX) (T := aBe) (N := 51) hx hb hts aAt hown hK hP 0 rfl rfl 0 (lbz rfl) (hts _ aHO) (fun _ h9 => h9) rfl aPt.2.2.2.2.2.2.2.2.2.2.2.2.1 ?_
  refine lv_bipush (v := 19) hx hb aPt.2.2.2.2.2.2.2.2.2.2.2.2.2.1 bp_19 ?_
  refine va_iald hx hb hK hP 1 0 rfl rfl (g_in rfl) aPt.2.2.2.2.2.2.2.2.2.2.2.2.2.2.1 ?_
  refine lv_topi (fun v_2 aGO => ?_)
  have hp := hp v_2 aGO
  have hm := mgk (wc := (aHf cI cC cZ cB cJ a_m nY sJ eG iY lY jR jW jZ jO oQ bR aY jQ gY iJ mQ lJ jA bG mK jB mW mJ eJ dG bT aG jC bL 0 jD mLn oF rP dQ aJ aB bW bZ aR aE bI aW bU fJ dO bM bQ bO jY oX qR)) hP mk_46 5 rfl rfl rfl
  refine yW hP hD hS hA (yS mk_46) (aAi mk_46) hm.1 hm.2 (aAk _) (zW _) (zF (As := [.int v_2]) (rest := [.int r_1]) C0 hP hD hS (yS mk_46) hm.1 (aAl _) 0 10 rfl rfl (c_X10_ripeOnes l dC dI cI cC cZ cB cJ a_m nY sJ eG iY lY jR jW jZ jO oQ bR aY jQ gY iJ mQ lJ jA bG mK jB mW mJ eJ dG H.size v_2 bT aG jC bL 0 jD mLn oF rP dQ aJ aB bW bZ aR aE bI aW bU fJ dO bM bQ bO jY oX qR _ hp) q_828 q_831 q_829 q_830 aBL h_X10_ripeOnes rfl rfl ⟨lbz rfl, lbz rfl⟩ rfl rfl hl.1 rfl (lv_room (lbz rfl)) aPt.2.2.2.2.2.2.2.2.2.2.2.2.2.2.2 ⟨Nat.zero_le _, Nat.zero_le _⟩) (fun r_3 u H locs hp hP hD hS => ?_)
  have hPD := PDm (ws' := (aI7 cI cC cZ cB cJ a_m nY sJ eG iY lY jR jW jZ jO oQ bR aY jQ gY iJ mQ lJ jA bG mK jB mW mJ eJ dG bT aG jC bL 0 jD mLn oF rP dQ aJ aB bW bZ aR aE bI aW bU fJ dO bM bQ bO jY oX qG pW qR sW)) hP hD 5 rfl rfl rfl
  have hP := hPD.1
  have hD := hPD.2
  refine lv_iconst (v := (-1)) hx hb aNf.1 aEJ ?_
  refine lv_ixor hx hb aNf.2.1 ?_
  refine lv_iand hx hb aNf.2.2.1 ?_
  refine lv_topi (fun v_4 aHM => ?_)
  have hp := hp v_4 aHM
  refine lv_istore_n (lv' := [(2, .int v_4), (1, .int r_1), (0, .ref a_m)]) hx hb aNf.2.2.2.1 rfl hl (by decide) rfl (fun ls hl => ?_)
  refine lv_aload_n hx hb aNf.2.2.2.2.1 rfl (lv_at hl 2 rfl) ?_
  refine va_get (D := (dC, dI)) (ci := 10) (v := .ref nY) (C := zX) (T := aBe) (N := 51) hx hb hts aAt hown hK hP 0 rfl rfl 0 (lbz rfl) (hts _ aHO) (fun _ h9 => h9) rfl aNf.2.2.2.2.2.1 ?_
  refine lv_bipush (v := 19) hx hb aNf.2.2.2.2.2.2.1 bp_19 ?_
  refine va_iald hx hb hK hP 1 0 rfl rfl (g_in rfl) aNf.2.2.2.2.2.2.2.1 ?_
  refine lv_topi (fun v_5 aJD => ?_)
  have hp := hp v_5 aJD
  refine lv_istore_n (lv' := [(3, .int v_5), (2, .int v_4), (1, .int r_1), (0, .ref a_m)]) hx hb aNf.2.2.2.2.2.2.2.2.1 rfl hl (by decide) rfl (fun ls hl => ?_)
  obtain ⟨n9, hp⟩ := hp
  exact kb_X10_allripe_39 C0 n9 r_1 v_4 v_5 bL 0 sW H locs ls hp hP hD hS (lv_sub hl [3, 2, 1, 0] rfl)
abbrev aBY (cI cC cZ cB cJ : ClassId) (a_m nY sJ eG iY lY jR jW jZ jO oQ bR aY jQ gY iJ mQ lJ jA bG mK jB mW mJ eJ dG : Nat) (bT aG jC bL bY : Int32) (jD : Nat) (mLn oF rP dQ aJ aB bW bZ aR aE bI aW bU fJ dO bM bQ bO jY oX : Int32) (nG qO sW qQ uZ vY : Nat -> Int32) : va_W := [(a_m, .inr (10, [.ref nY, .int bT, .ref sJ, .ref eG, .ref iY, .ref lY, .int aG, .ref jR, .ref jW, .ref jZ, .ref jO, .int jC, .ref oQ, .int bL, .int bY, rdv jO jQ jD, .int mLn, .int oF, .int rP, .int dQ, .ref bR, .ref aY, .int aJ, .int aB, .ref jQ, .int bW, .int bZ, .int aR, .int aE, .int bI, .int aW, .ref gY, .int bU, .ref iJ, .ref mQ, .int fJ, .ref lJ, .int dO, .ref jA, .ref bG, .int bM, .int bQ, .int bO, .ref mK, .ref jB, .ref mW, .int jY, .int oX, .ref mJ, .ref eJ, .ref dG])), (jR, .inl (cI, 8, .inl nG)), (jO, .inl (cB, 80, .inl qO)), (oQ, .inl (cI, 32, .inl sW)), (jQ, .inl (cB, 40, .inl qQ)), (jB, .inl (cI, 6, .inl uZ)), (mW, .inl (cI, 48, .inl vY))]
abbrev aEa (dC : Nat -> ClassId) (dI : Nat -> Nat -> Nat) (cI cC cZ cB cJ : ClassId) (A : Nat -> Prop) (a_m nY sJ eG iY lY jR jW jZ jO oQ bR aY jQ gY iJ mQ lJ jA bG mK jB mW mJ eJ dG : Nat) (bT aG aJ aB bW bZ aR aE bI aW bU fJ dO bM bQ bO jY oX : Int32) (nG qO qQ : Nat -> Int32) (post : Int32 -> Int32 -> Int32 -> Int32 -> Nat -> Int32 -> Int32 -> Int32 -> Int32 -> (Nat -> Int32) -> (Nat -> Int32) -> (Nat -> Int32) -> Prop) : Array Value -> State -> Outcome -> State -> Prop := va_Qi (fun (r : Int32) (u : Int32 × Int32 × Int32 × Nat × Int32 × Int32 × Int32 × Int32 × (Nat -> Int32) × (Nat -> Int32) × (Nat -> Int32)) => post r u.1 u.2.1 u.2.2.1 u.2.2.2.1 u.2.2.2.2.1 u.2.2.2.2.2.1 u.2.2.2.2.2.2.1 u.2.2.2.2.2.2.2.1 u.2.2.2.2.2.2.2.2.1 u.2.2.2.2.2.2.2.2.2.1 u.2.2.2.2.2.2.2.2.2.2) (fun u t => gB (dC, dI) (tyl cI cC cZ cB cJ) A (aBY cI cC cZ cB cJ a_m nY sJ eG iY lY jR jW jZ jO oQ bR aY jQ gY iJ mQ lJ jA bG mK jB mW mJ eJ dG bT aG u.1 u.2.1 u.2.2.1 u.2.2.2.1 u.2.2.2.2.1 u.2.2.2.2.2.1 u.2.2.2.2.2.2.1 u.2.2.2.2.2.2.2.1 aJ aB bW bZ aR aE bI aW bU fJ dO bM bQ bO jY oX nG qO u.2.2.2.2.2.2.2.2.1 qQ u.2.2.2.2.2.2.2.2.2.1 u.2.2.2.2.2.2.2.2.2.2) t) A
abbrev aDt : Room := { frames := 3, cells := 0, slots := 0, locals := 64 }
section S_X10_grass
variable {p : Program} {l : Launch} {e : Env} {s : State} {m : MethodId} {args : Array Value} {below : List Frame} {meth : Method} {c : Code} {dC : Nat -> ClassId} {dI : Nat -> Nat -> Nat} {cI cC cZ cB cJ : ClassId} {A : Nat -> Prop} {a_m nY sJ eG iY lY jR jW jZ jO oQ bR aY jQ gY iJ mQ lJ jA bG mK jB mW mJ eJ dG : Nat} {bT aG aJ aB bW bZ aR aE bI aW bU fJ dO bM bQ bO jY oX : Int32} {nG qO qQ : Nat -> Int32} {post : Int32 -> Int32 -> Int32 -> Int32 -> Nat -> Int32 -> Int32 -> Int32 -> Int32 -> (Nat -> Int32) -> (Nat -> Int32) -> (Nat -> Int32) -> Prop}
def ws_X10_grass_337 (post : Int32 -> Int32 -> Int32 -> Int32 -> Nat -> Int32 -> Int32 -> Int32 -> Int32 -> (Nat -> Int32) -> (Nat -> Int32) -> (Nat -> Int32) -> Prop) (K300 : Int32 -> Int32 -> Int32 -> Int32 -> Int32 -> Int32 -> Int32 -> Nat -> Int32 -> Int32 -> Int32 -> Int32 -> (Nat -> Int32) -> (Nat -> Int32) -> (Nat -> Int32) -> Prop) (K314 : Int32 -> Int32 -> Int32 -> Int32 -> Int32 -> Int32 -> Int32 -> Int32 -> Nat -> Int32 -> Int32 -> Int32 -> Int32 -> (Nat -> Int32) -> (Nat -> Int32) -> (Nat -> Int32) -> Prop) (aG : Int32) (nG qO qQ : Nat -> Int32) (x2 x4 x5 x6 x7 jC bL bY : Int32) (jD : Nat) (mLn oF rP dQ : Int32) (sW uZ vY : Nat -> Int32) : Prop := ∀ v_9 : Int32, v_9 = x7 + 1 -> K314 x2 x4 x5 x6 v_9 jC bL bY jD mLn oF rP dQ sW uZ vY
set_option maxHeartbeats 4000000 in
set_option maxRecDepth 100000 in
theorem ks_X10_grass_337 (C0 : gc aAu (some .int) 9 zX (dC, dI) (tyl cI cC cZ cB cJ) A p s m args meth c) {K300 : Int32 -> Int32 -> Int32 -> Int32 -> Int32 -> Int32 -> Int32 -> Nat -> Int32 -> Int32 -> Int32 -> Int32 -> (Nat -> Int32) -> (Nat -> Int32) -> (Nat -> Int32) -> Prop} {K314 : Int32 -> Int32 -> Int32 -> Int32 -> Int32 -> Int32 -> Int32 -> Int32 -> Nat -> Int32 -> Int32 -> Int32 -> Int32 -> (Nat -> Int32) -> (Nat -> Int32) -> (Nat -> Int32) -> Prop} (hK300 : ∀ (x2 : Int32) (x4 : Int32) (x5 : Int32) (x6 : Int32) (jC : Int32) (bL : Int32) (bY : Int32) (jD : Nat) (mLn : Int32) (oF : Int32) (rP : Int32) (dQ : Int32) (sW : Nat -> Int32) (uZ : Nat -> Int32) (vY : Nat -> Int32) (H : Heap) (locs : List Loc) (ls : Array Slot), K300 x2 x4 x5 x6 jC bL bY jD mLn oF rP dQ sW uZ vY -> va_P (dC, dI) classes (aBY cI cC cZ cB cJ a_m nY sJ eG iY lY jR jW jZ jO oQ bR aY jQ gY iJ mQ lJ jA bG mK jB mW mJ eJ dG bT aG jC bL bY jD mLn oF rP dQ aJ aB bW bZ aR aE bI aW bU fJ dO bM bQ bO jY oX nG qO sW qQ uZ vY) H -> va_D A (aBY cI cC cZ cB cJ a_m nY sJ eG iY lY jR jW jZ jO oQ bR aY jQ gY iJ mQ lJ jA bG mK jB mW mJ eJ dG bT aG jC bL bY jD mLn oF rP dQ aJ aB bW bZ aR aE bI aW bU fJ dO bM bQ bO jY oX nG qO sW qQ uZ vY) -> va_S A s.heap H locs -> lv_has ls 9 [(0, .ref a_m), (2, .int x2), (4, .int x4), (5, .int x5), (6, .int x6)] -> W p l e aDt s m args below meth c H locs 0 0 (MQ below (aEa dC dI cI cC cZ cB cJ A a_m nY sJ eG iY lY jR jW jZ jO oQ bR aY jQ gY iJ mQ lJ jA bG mK jB mW mJ eJ dG bT aG aJ aB bW bZ aR aE bI aW bU fJ dO bM bQ bO jY oX nG qO qQ post) args s 0 0 A) (F0 m 300 ls [])) (hK314 : ∀ (x2 : Int32) (x4 : Int32) (x5 : Int32) (x6 : Int32) (x7 : Int32) (jC : Int32) (bL : Int32) (bY : Int32) (jD : Nat) (mLn : Int32) (oF : Int32) (rP : Int32) (dQ : Int32) (sW : Nat -> Int32) (uZ : Nat -> Int32) (vY : Nat -> Int32) (H : Heap) (locs : List Loc) (ls : Array Slot), K314 x2 x4 x5 x6 x7 jC bL bY jD mLn oF rP dQ sW uZ vY -> va_P (dC, dI) classes (aBY cI cC cZ cB cJ a_m nY sJ eG iY lY jR jW jZ jO oQ bR aY jQ gY iJ mQ lJ jA bG mK jB mW mJ eJ dG bT aG jC bL bY jD mLn oF rP dQ aJ aB bW bZ aR aE bI aW bU fJ dO bM bQ bO jY oX nG qO sW qQ uZ vY) H -> va_D A (aBY cI cC cZ cB cJ a_m nY sJ eG iY lY jR jW jZ jO oQ bR aY jQ gY iJ mQ lJ jA bG mK jB mW mJ eJ dG bT aG jC bL bY jD mLn oF rP dQ aJ aB bW bZ aR aE bI aW bU fJ dO bM bQ bO jY oX nG qO sW qQ uZ vY) -> va_S A s.heap H locs -> lv_has ls 9 [(0, .ref a_m), (2, .int x2), (4, .int x4), (5, .int x5), (6, .int x6), (7, .int x7)] -> W p l e aDt s m args below meth c H locs 0 0 (MQ below (aEa dC dI cI cC cZ cB cJ A a_m nY sJ eG iY lY jR jW jZ jO oQ bR aY jQ gY iJ mQ lJ jA bG mK jB mW mJ eJ dG bT aG aJ aB bW bZ aR aE bI aW bU fJ dO bM bQ bO jY oX nG qO qQ post) args s 0 0 A) (F0 m 314 ls [])) : ∀ (x2 x4 x5 x6 x7 jC bL bY : Int32) (jD : Nat) (mLn oF rP dQ : Int32) (sW uZ vY : Nat -> Int32) (H : Heap) (locs : List Loc) (ls : Array Slot), (ws_X10_grass_337 post K300 K314 aG nG qO qQ) x2 x4 x5 x6 x7 jC bL bY jD mLn oF rP dQ sW uZ vY -> va_P (dC, dI) classes (aBY cI cC cZ cB cJ a_m nY sJ eG iY lY jR jW jZ jO oQ bR aY jQ gY iJ mQ lJ jA bG mK jB mW mJ eJ dG bT aG jC bL bY jD mLn oF rP dQ aJ aB bW bZ aR aE bI aW bU fJ dO bM bQ bO jY oX nG qO sW qQ uZ vY) H -> va_D A (aBY cI cC cZ cB cJ a_m nY sJ eG iY lY jR jW jZ jO oQ bR aY jQ gY iJ mQ lJ jA bG mK jB mW mJ eJ dG bT aG jC bL bY jD mLn oF rP dQ aJ aB bW bZ aR aE bI aW bU fJ dO bM bQ bO jY oX nG qO sW qQ uZ vY) -> va_S A s.heap H locs -> lv_has ls 9 [(0, .ref a_m), (2, .int x2), (4, .int x4), (5, .int x5), (6, .int x6), (7, .int x7)] -> W p l e aDt s m args below meth c H locs 0 0 (MQ below (aEa dC dI cI cC cZ cB cJ A a_m nY sJ eG iY lY jR jW jZ jO oQ bR aY jQ gY iJ mQ lJ jA bG mK jB mW mJ eJ dG bT aG aJ aB bW bZ aR aE bI aW bU fJ dO bM bQ bO jY oX nG qO qQ post) args s 0 0 A) (F0 m 337 ls []) := by
  obtain ⟨hx, hb, hr, hml, hown, hts, hlocks, hA, hK, hN, tL, tM, hZL, hTL, hZM, hTM, hZX⟩ := id C0
  intro x2 x4 x5 x6 x7 jC bL bY jD mLn oF rP dQ sW uZ vY H locs ls hp hP hD hS hl
  unfold ws_X10_grass_337 at hp
  obtain ⟨v_9, ev_9⟩ : ∃ y : Int32, y = x7 + 1 := ⟨_, rfl⟩
  refine lv_iinc (v := v_9) (lv' := [(7, .int v_9), (0, .ref a_m), (2, .int x2), (4, .int x4), (5, .int x5), (6, .int x6)]) hx hb aM9.2.2.2.2.2.1 hl (k := 5) rfl (by rw [ev_9]; rfl) (by decide) rfl (fun ls hl => ?_)
  have hp := hp v_9 ev_9
  refine lv_goto (tgt := 314) hx hb aM9.2.2.2.2.2.2.1 (by decide) ?_
  exact hK314 x2 x4 x5 x6 v_9 jC bL bY jD mLn oF rP dQ sW uZ vY H locs ls hp hP hD hS (lv_sub hl [1, 2, 3, 4, 5, 0] rfl)
def ws_X10_grass_314 (post : Int32 -> Int32 -> Int32 -> Int32 -> Nat -> Int32 -> Int32 -> Int32 -> Int32 -> (Nat -> Int32) -> (Nat -> Int32) -> (Nat -> Int32) -> Prop) (K300 : Int32 -> Int32 -> Int32 -> Int32 -> Int32 -> Int32 -> Int32 -> Nat -> Int32 -> Int32 -> Int32 -> Int32 -> (Nat -> Int32) -> (Nat -> Int32) -> (Nat -> Int32) -> Prop) (next : Int32 -> Int32 -> Int32 -> Int32 -> Int32 -> Int32 -> Int32 -> Int32 -> Nat -> Int32 -> Int32 -> Int32 -> Int32 -> (Nat -> Int32) -> (Nat -> Int32) -> (Nat -> Int32) -> Prop) (aG : Int32) (nG qO qQ : Nat -> Int32) (x2 x4 x5 x6 x7 jC bL bY : Int32) (jD : Nat) (mLn oF rP dQ : Int32) (sW uZ vY : Nat -> Int32) : Prop := (x7 = x5 -> ws_X10_grass_337 post K300 next aG nG qO qQ x2 x4 x5 x6 x7 jC bL bY jD mLn oF rP dQ sW uZ vY) /\ (¬ x7 = x5 -> ∀ aEr : Int32, aEr = 8 * x6 -> ∀ aGH : Int32, aGH = aEr + x7 -> vp_in aGH 48 /\ ((¬ (vY aGH.toNatClampNeg) = 0 -> aDs (fun bBH m_row_13 => ∀ aGC : Int32, aGC = x6 + 1 -> K300 x2 x4 x7 aGC jC bBH bY jD mLn oF rP dQ m_row_13 uZ vY) x7 bL sW) /\ ((vY aGH.toNatClampNeg) = 0 -> ws_X10_grass_337 post K300 next aG nG qO qQ x2 x4 x5 x6 x7 jC bL bY jD mLn oF rP dQ sW uZ vY)))
noncomputable def wb_X10_grass_314 (post : Int32 -> Int32 -> Int32 -> Int32 -> Nat -> Int32 -> Int32 -> Int32 -> Int32 -> (Nat -> Int32) -> (Nat -> Int32) -> (Nat -> Int32) -> Prop) (K300 : Int32 -> Int32 -> Int32 -> Int32 -> Int32 -> Int32 -> Int32 -> Nat -> Int32 -> Int32 -> Int32 -> Int32 -> (Nat -> Int32) -> (Nat -> Int32) -> (Nat -> Int32) -> Prop) (aG : Int32) (nG qO qQ : Nat -> Int32) : Nat -> Int32 -> Int32 -> Int32 -> Int32 -> Int32 -> Int32 -> Int32 -> Int32 -> Nat -> Int32 -> Int32 -> Int32 -> Int32 -> (Nat -> Int32) -> (Nat -> Int32) -> (Nat -> Int32) -> Prop := fun n => Nat.rec (motive := fun _ => Int32 -> Int32 -> Int32 -> Int32 -> Int32 -> Int32 -> Int32 -> Int32 -> Nat -> Int32 -> Int32 -> Int32 -> Int32 -> (Nat -> Int32) -> (Nat -> Int32) -> (Nat -> Int32) -> Prop) (fun _ _ _ _ _ _ _ _ _ _ _ _ _ _ _ _ => False) (fun _ ih => ws_X10_grass_314 post K300 ih aG nG qO qQ) n
set_option maxHeartbeats 4000000 in
set_option maxRecDepth 100000 in
theorem ks_X10_grass_314 (C0 : gc aAu (some .int) 9 zX (dC, dI) (tyl cI cC cZ cB cJ) A p s m args meth c) {K300 : Int32 -> Int32 -> Int32 -> Int32 -> Int32 -> Int32 -> Int32 -> Nat -> Int32 -> Int32 -> Int32 -> Int32 -> (Nat -> Int32) -> (Nat -> Int32) -> (Nat -> Int32) -> Prop} {next : Int32 -> Int32 -> Int32 -> Int32 -> Int32 -> Int32 -> Int32 -> Int32 -> Nat -> Int32 -> Int32 -> Int32 -> Int32 -> (Nat -> Int32) -> (Nat -> Int32) -> (Nat -> Int32) -> Prop} (hK300 : ∀ (x2 : Int32) (x4 : Int32) (x5 : Int32) (x6 : Int32) (jC : Int32) (bL : Int32) (bY : Int32) (jD : Nat) (mLn : Int32) (oF : Int32) (rP : Int32) (dQ : Int32) (sW : Nat -> Int32) (uZ : Nat -> Int32) (vY : Nat -> Int32) (H : Heap) (locs : List Loc) (ls : Array Slot), K300 x2 x4 x5 x6 jC bL bY jD mLn oF rP dQ sW uZ vY -> va_P (dC, dI) classes (aBY cI cC cZ cB cJ a_m nY sJ eG iY lY jR jW jZ jO oQ bR aY jQ gY iJ mQ lJ jA bG mK jB mW mJ eJ dG bT aG jC bL bY jD mLn oF rP dQ aJ aB bW bZ aR aE bI aW bU fJ dO bM bQ bO jY oX nG qO sW qQ uZ vY) H -> va_D A (aBY cI cC cZ cB cJ a_m nY sJ eG iY lY jR jW jZ jO oQ bR aY jQ gY iJ mQ lJ jA bG mK jB mW mJ eJ dG bT aG jC bL bY jD mLn oF rP dQ aJ aB bW bZ aR aE bI aW bU fJ dO bM bQ bO jY oX nG qO sW qQ uZ vY) -> va_S A s.heap H locs -> lv_has ls 9 [(0, .ref a_m), (2, .int x2), (4, .int x4), (5, .int x5), (6, .int x6)] -> W p l e aDt s m args below meth c H locs 0 0 (MQ below (aEa dC dI cI cC cZ cB cJ A a_m nY sJ eG iY lY jR jW jZ jO oQ bR aY jQ gY iJ mQ lJ jA bG mK jB mW mJ eJ dG bT aG aJ aB bW bZ aR aE bI aW bU fJ dO bM bQ bO jY oX nG qO qQ post) args s 0 0 A) (F0 m 300 ls [])) (hKn : ∀ (x2 : Int32) (x4 : Int32) (x5 : Int32) (x6 : Int32) (x7 : Int32) (jC : Int32) (bL : Int32) (bY : Int32) (jD : Nat) (mLn : Int32) (oF : Int32) (rP : Int32) (dQ : Int32) (sW : Nat -> Int32) (uZ : Nat -> Int32) (vY : Nat -> Int32) (H : Heap) (locs : List Loc) (ls : Array Slot), next x2 x4 x5 x6 x7 jC bL bY jD mLn oF rP dQ sW uZ vY -> va_P (dC, dI) classes (aBY cI cC cZ cB cJ a_m nY sJ eG iY lY jR jW jZ jO oQ bR aY jQ gY iJ mQ lJ jA bG mK jB mW mJ eJ dG bT aG jC bL bY jD mLn oF rP dQ aJ aB bW bZ aR aE bI aW bU fJ dO bM bQ bO jY oX nG qO sW qQ uZ vY) H -> va_D A (aBY cI cC cZ cB cJ a_m nY sJ eG iY lY jR jW jZ jO oQ bR aY jQ gY iJ mQ lJ jA bG mK jB mW mJ eJ dG bT aG jC bL bY jD mLn oF rP dQ aJ aB bW bZ aR aE bI aW bU fJ dO bM bQ bO jY oX nG qO sW qQ uZ vY) -> va_S A s.heap H locs -> lv_has ls 9 [(0, .ref a_m), (2, .int x2), (4, .int x4), (5, .int x5), (6, .int x6), (7, .int x7)] -> W p l e aDt s m args below meth c H locs 0 0 (MQ below (aEa dC dI cI cC cZ cB cJ A a_m nY sJ eG iY lY jR jW jZ jO oQ bR aY jQ gY iJ mQ lJ jA bG mK jB mW mJ eJ dG bT aG aJ aB bW bZ aR aE bI aW bU fJ dO bM bQ bO jY oX nG qO qQ post) args s 0 0 A) (F0 m 314 ls [])) : ∀ (x2 x4 x5 x6 x7 jC bL bY : Int32) (jD : Nat) (mLn oF rP dQ : Int32) (sW uZ vY : Nat -> Int32) (H : Heap) (locs : List Loc) (ls : Array Slot), (ws_X10_grass_314 post K300 next aG nG qO qQ) x2 x4 x5 x6 x7 jC bL bY jD mLn oF rP dQ sW uZ vY -> va_P (dC, dI) classes (aBY cI cC cZ cB cJ a_m nY sJ eG iY lY jR jW jZ jO oQ bR aY jQ gY iJ mQ lJ jA bG mK jB mW mJ eJ dG bT aG jC bL bY jD mLn oF rP dQ aJ aB bW bZ aR aE bI aW bU fJ dO bM bQ bO jY oX nG qO sW qQ uZ vY) H -> va_D A (aBY cI cC cZ cB cJ a_m nY sJ eG iY lY jR jW jZ jO oQ bR aY jQ gY iJ mQ lJ jA bG mK jB mW mJ eJ dG bT aG jC bL bY jD mLn oF rP dQ aJ aB bW bZ aR aE bI aW bU fJ dO bM bQ bO jY oX nG qO sW qQ uZ vY) -> va_S A s.heap H locs -> lv_has ls 9 [(0, .ref a_m), (2, .int x2), (4, .int x4), (5, .int x5), (6, .int x6), (7, .int x7)] -> W p l e aDt s m args below meth c H locs 0 0 (MQ below (aEa dC dI cI cC cZ cB cJ A a_m nY sJ eG iY lY jR jW jZ jO oQ bR aY jQ gY iJ mQ lJ jA bG mK jB mW mJ eJ dG bT aG aJ aB bW bZ aR aE bI aW bU fJ dO bM bQ bO jY oX nG qO qQ post) args s 0 0 A) (F0 m 314 ls []) := by
  obtain ⟨hx, hb, hr, hml, hown, hts, hlocks, hA, hK, hN, tL, tM, hZL, hTL, hZM, hTM, hZX⟩ := id C0
  intro x2 x4 x5 x6 x7 jC bL bY jD mLn oF rP dQ sW uZ vY H locs ls hp hP hD hS hl
  unfold ws_X10_grass_314 at hp
  refine lv_iload hx hb aQF.2.2.2.2.2.2.2.2.2.1 (lv_at hl 5 rfl) ?_
  refine lv_iload hx hb aQF.2.2.2.2.2.2.2.2.2.2.1 (lv_at hl 3 rfl) ?_
  refine lv_icmp_eq (tgt := 337) hx hb aQF.2.2.2.2.2.2.2.2.2.2.2.1 (by decide) (fun hc => ?_) (fun hc => ?_)
  · have hp := hp.1 hc
    exact ks_X10_grass_337 C0 hK300 hKn x2 x4 x5 x6 x7 jC bL bY jD mLn oF rP dQ sW uZ vY H locs ls hp hP hD hS (lv_sub hl [0, 1, 2, 3, 4, 5] rfl)
  · have hp := hp.2 hc
    refine lv_aload_n hx hb aQF.2.2.2.2.2.2.2.2.2.2.2.2.1 rfl (lv_at hl 0 rfl) ?_
    refine va_get (D := (dC, dI)) (ci := 10) (v := .ref mW) (C := zX) (T := aBe) (N := 51) hx hb hts aAt hown hK hP 0 rfl rfl 45 (lbz rfl) (hts _ q_953) (fun _ h9 => h9) rfl aQF.2.2.2.2.2.2.2.2.2.2.2.2.2.1 ?_
    refine lv_bipush (v := 8) hx hb aQF.2.2.2.2.2.2.2.2.2.2.2.2.2.2.1 bp_8 ?_
    refine lv_iload hx hb aQF.2.2.2.2.2.2.2.2.2.2.2.2.2.2.2 (lv_at hl 4 rfl) ?_
    refine lv_imul hx hb aM9.1 ?_
    refine lv_topi (fun aEr aNB => ?_)
    have hp := hp aEr aNB
    refine lv_iload hx hb aM9.2.1 (lv_at hl 5 rfl) ?_
    refine lv_iadd hx hb aM9.2.2.1 ?_
    refine lv_topi (fun aGH ev_11 => ?_)
    have hp := hp aGH ev_11
    have hin := hp.1
    have hp := hp.2
    refine va_iald hx hb hK hP 6 0 rfl rfl hin aM9.2.2.2.1 ?_
    refine lv_if_ne (tgt := 343) hx hb aM9.2.2.2.2.1 (by decide) (fun hc => ?_) (fun hc => ?_)
    · have hp := hp.1 hc
      refine lv_aload_n hx hb aM9.2.2.2.2.2.2.2.1 rfl (lv_at hl 0 rfl) ?_
      refine lv_iload hx hb aM9.2.2.2.2.2.2.2.2.1 (lv_at hl 5 rfl) ?_
      have hm := mgk (wc := (aD0 cI cC cZ cB cJ a_m nY sJ eG iY lY jR jW jZ jO oQ bR aY jQ gY iJ mQ lJ jA bG mK jB mW mJ eJ dG bT aG jC bL bY jD mLn oF rP dQ aJ aB bW bZ aR aE bI aW bU fJ dO bM bQ bO jY oX sW)) hP mk_299 7 rfl rfl rfl
      refine aBn hP hD hS hA (yS mk_299) (aAi mk_299) hm.1 hm.2 (aAk _) (zW _) (zF (As := [.int x7]) (rest := []) C0 hP hD hS (yS mk_299) hm.1 (aAl _) 0 10 rfl rfl (aGE l dC dI cI cC cZ cB cJ a_m nY sJ eG iY lY jR jW jZ jO oQ bR aY jQ gY iJ mQ lJ jA bG mK jB mW mJ eJ dG H.size x7 bT aG jC bL bY jD mLn oF rP dQ aJ aB bW bZ aR aE bI aW bU fJ dO bM bQ bO jY oX sW _ hp) q_849 q_852 q_850 q_851 aBL aGF rfl rfl ⟨lbz rfl, lbz rfl⟩ rfl rfl hl.1 rfl (lv_room (lbz rfl)) aM9.2.2.2.2.2.2.2.2.2.1 ⟨Nat.zero_le _, Nat.zero_le _⟩) (fun u H locs hp hP hD hS => ?_)
      obtain ⟨bBH, m_row_13⟩ := u
      have hPD := PDm (ws' := (aBY cI cC cZ cB cJ a_m nY sJ eG iY lY jR jW jZ jO oQ bR aY jQ gY iJ mQ lJ jA bG mK jB mW mJ eJ dG bT aG jC bBH bY jD mLn oF rP dQ aJ aB bW bZ aR aE bI aW bU fJ dO bM bQ bO jY oX nG qO m_row_13 qQ uZ vY)) hP hD 7 rfl rfl rfl
      have hP := hPD.1
      have hD := hPD.2
      refine lv_iload hx hb aM9.2.2.2.2.2.2.2.2.2.2.1 (lv_at hl 5 rfl) ?_
      refine lv_istore (lv' := [(5, .int x7), (0, .ref a_m), (2, .int x2), (4, .int x4), (6, .int x6), (7, .int x7)]) hx hb aM9.2.2.2.2.2.2.2.2.2.2.2.1 hl (by decide) rfl (fun ls hl => ?_)
      obtain ⟨aGC, ev_14⟩ : ∃ y : Int32, y = x6 + 1 := ⟨_, rfl⟩
      refine lv_iinc (v := aGC) (lv' := [(6, .int aGC), (5, .int x7), (0, .ref a_m), (2, .int x2), (4, .int x4), (7, .int x7)]) hx hb aM9.2.2.2.2.2.2.2.2.2.2.2.2.1 hl (k := 4) rfl (by rw [ev_14]; rfl) (by decide) rfl (fun ls hl => ?_)
      have hp := hp aGC ev_14
      refine lv_goto (tgt := 300) hx hb aM9.2.2.2.2.2.2.2.2.2.2.2.2.2.1 (by decide) ?_
      exact hK300 x2 x4 x7 aGC jC bBH bY jD mLn oF rP dQ m_row_13 uZ vY H locs ls hp hP hD hS (lv_sub hl [2, 3, 4, 1, 0] rfl)
    · have hp := hp.2 hc
      exact ks_X10_grass_337 C0 hK300 hKn x2 x4 x5 x6 x7 jC bL bY jD mLn oF rP dQ sW uZ vY H locs ls hp hP hD hS (lv_sub hl [0, 1, 2, 3, 4, 5] rfl)
set_option maxHeartbeats 4000000 in
set_option maxRecDepth 100000 in
theorem kb_X10_grass_314 (C0 : gc aAu (some .int) 9 zX (dC, dI) (tyl cI cC cZ cB cJ) A p s m args meth c) {K300 : Int32 -> Int32 -> Int32 -> Int32 -> Int32 -> Int32 -> Int32 -> Nat -> Int32 -> Int32 -> Int32 -> Int32 -> (Nat -> Int32) -> (Nat -> Int32) -> (Nat -> Int32) -> Prop} (hK300 : ∀ (x2 : Int32) (x4 : Int32) (x5 : Int32) (x6 : Int32) (jC : Int32) (bL : Int32) (bY : Int32) (jD : Nat) (mLn : Int32) (oF : Int32) (rP : Int32) (dQ : Int32) (sW : Nat -> Int32) (uZ : Nat -> Int32) (vY : Nat -> Int32) (H : Heap) (locs : List Loc) (ls : Array Slot), K300 x2 x4 x5 x6 jC bL bY jD mLn oF rP dQ sW uZ vY -> va_P (dC, dI) classes (aBY cI cC cZ cB cJ a_m nY sJ eG iY lY jR jW jZ jO oQ bR aY jQ gY iJ mQ lJ jA bG mK jB mW mJ eJ dG bT aG jC bL bY jD mLn oF rP dQ aJ aB bW bZ aR aE bI aW bU fJ dO bM bQ bO jY oX nG qO sW qQ uZ vY) H -> va_D A (aBY cI cC cZ cB cJ a_m nY sJ eG iY lY jR jW jZ jO oQ bR aY jQ gY iJ mQ lJ jA bG mK jB mW mJ eJ dG bT aG jC bL bY jD mLn oF rP dQ aJ aB bW bZ aR aE bI aW bU fJ dO bM bQ bO jY oX nG qO sW qQ uZ vY) -> va_S A s.heap H locs -> lv_has ls 9 [(0, .ref a_m), (2, .int x2), (4, .int x4), (5, .int x5), (6, .int x6)] -> W p l e aDt s m args below meth c H locs 0 0 (MQ below (aEa dC dI cI cC cZ cB cJ A a_m nY sJ eG iY lY jR jW jZ jO oQ bR aY jQ gY iJ mQ lJ jA bG mK jB mW mJ eJ dG bT aG aJ aB bW bZ aR aE bI aW bU fJ dO bM bQ bO jY oX nG qO qQ post) args s 0 0 A) (F0 m 300 ls [])) : ∀ (n : Nat), ∀ (x2 x4 x5 x6 x7 jC bL bY : Int32) (jD : Nat) (mLn oF rP dQ : Int32) (sW uZ vY : Nat -> Int32) (H : Heap) (locs : List Loc) (ls : Array Slot), (wb_X10_grass_314 post K300 aG nG qO qQ n) x2 x4 x5 x6 x7 jC bL bY jD mLn oF rP dQ sW uZ vY -> va_P (dC, dI) classes (aBY cI cC cZ cB cJ a_m nY sJ eG iY lY jR jW jZ jO oQ bR aY jQ gY iJ mQ lJ jA bG mK jB mW mJ eJ dG bT aG jC bL bY jD mLn oF rP dQ aJ aB bW bZ aR aE bI aW bU fJ dO bM bQ bO jY oX nG qO sW qQ uZ vY) H -> va_D A (aBY cI cC cZ cB cJ a_m nY sJ eG iY lY jR jW jZ jO oQ bR aY jQ gY iJ mQ lJ jA bG mK jB mW mJ eJ dG bT aG jC bL bY jD mLn oF rP dQ aJ aB bW bZ aR aE bI aW bU fJ dO bM bQ bO jY oX nG qO sW qQ uZ vY) -> va_S A s.heap H locs -> lv_has ls 9 [(0, .ref a_m), (2, .int x2), (4, .int x4), (5, .int x5), (6, .int x6), (7, .int x7)] -> W p l e aDt s m args below meth c H locs 0 0 (MQ below (aEa dC dI cI cC cZ cB cJ A a_m nY sJ eG iY lY jR jW jZ jO oQ bR aY jQ gY iJ mQ lJ jA bG mK jB mW mJ eJ dG bT aG aJ aB bW bZ aR aE bI aW bU fJ dO bM bQ bO jY oX nG qO qQ post) args s 0 0 A) (F0 m 314 ls []) := by
  intro n
  induction n with
  | zero =>
    intro x2 x4 x5 x6 x7 jC bL bY jD mLn oF rP dQ sW uZ vY H locs ls hp
    exact False.elim hp
  | succ n ih =>
    intro x2 x4 x5 x6 x7 jC bL bY jD mLn oF rP dQ sW uZ vY H locs ls hp
    exact ks_X10_grass_314 C0 hK300 ih x2 x4 x5 x6 x7 jC bL bY jD mLn oF rP dQ sW uZ vY H locs ls hp
def ws_X10_grass_300 (post : Int32 -> Int32 -> Int32 -> Int32 -> Nat -> Int32 -> Int32 -> Int32 -> Int32 -> (Nat -> Int32) -> (Nat -> Int32) -> (Nat -> Int32) -> Prop) (next : Int32 -> Int32 -> Int32 -> Int32 -> Int32 -> Int32 -> Int32 -> Nat -> Int32 -> Int32 -> Int32 -> Int32 -> (Nat -> Int32) -> (Nat -> Int32) -> (Nat -> Int32) -> Prop) (aG : Int32) (nG qO qQ : Nat -> Int32) (x2 x4 x5 x6 jC bL bY : Int32) (jD : Nat) (mLn oF rP dQ : Int32) (sW uZ vY : Nat -> Int32) : Prop := (x2 <= x6 -> post x4 jC bL bY jD mLn oF rP dQ sW uZ vY) /\ (¬ x2 <= x6 -> (x4 <= 0 -> post x4 jC bL bY jD mLn oF rP dQ sW uZ vY) /\ (¬ x4 <= 0 -> ∃ n : Nat, wb_X10_grass_314 post next aG nG qO qQ n x2 x4 x5 x6 0 jC bL bY jD mLn oF rP dQ sW uZ vY))
noncomputable def wb_X10_grass_300 (post : Int32 -> Int32 -> Int32 -> Int32 -> Nat -> Int32 -> Int32 -> Int32 -> Int32 -> (Nat -> Int32) -> (Nat -> Int32) -> (Nat -> Int32) -> Prop) (aG : Int32) (nG qO qQ : Nat -> Int32) : Nat -> Int32 -> Int32 -> Int32 -> Int32 -> Int32 -> Int32 -> Int32 -> Nat -> Int32 -> Int32 -> Int32 -> Int32 -> (Nat -> Int32) -> (Nat -> Int32) -> (Nat -> Int32) -> Prop := fun n => Nat.rec (motive := fun _ => Int32 -> Int32 -> Int32 -> Int32 -> Int32 -> Int32 -> Int32 -> Nat -> Int32 -> Int32 -> Int32 -> Int32 -> (Nat -> Int32) -> (Nat -> Int32) -> (Nat -> Int32) -> Prop) (fun _ _ _ _ _ _ _ _ _ _ _ _ _ _ _ => False) (fun _ ih => ws_X10_grass_300 post ih aG nG qO qQ) n
set_option maxHeartbeats 4000000 in
set_option maxRecDepth 100000 in
theorem ks_X10_grass_300 (C0 : gc aAu (some .int) 9 zX (dC, dI) (tyl cI cC cZ cB cJ) A p s m args meth c) {next : Int32 -> Int32 -> Int32 -> Int32 -> Int32 -> Int32 -> Int32 -> Nat -> Int32 -> Int32 -> Int32 -> Int32 -> (Nat -> Int32) -> (Nat -> Int32) -> (Nat -> Int32) -> Prop} (hKn : ∀ (x2 : Int32) (x4 : Int32) (x5 : Int32) (x6 : Int32) (jC : Int32) (bL : Int32) (bY : Int32) (jD : Nat) (mLn : Int32) (oF : Int32) (rP : Int32) (dQ : Int32) (sW : Nat -> Int32) (uZ : Nat -> Int32) (vY : Nat -> Int32) (H : Heap) (locs : List Loc) (ls : Array Slot), next x2 x4 x5 x6 jC bL bY jD mLn oF rP dQ sW uZ vY -> va_P (dC, dI) classes (aBY cI cC cZ cB cJ a_m nY sJ eG iY lY jR jW jZ jO oQ bR aY jQ gY iJ mQ lJ jA bG mK jB mW mJ eJ dG bT aG jC bL bY jD mLn oF rP dQ aJ aB bW bZ aR aE bI aW bU fJ dO bM bQ bO jY oX nG qO sW qQ uZ vY) H -> va_D A (aBY cI cC cZ cB cJ a_m nY sJ eG iY lY jR jW jZ jO oQ bR aY jQ gY iJ mQ lJ jA bG mK jB mW mJ eJ dG bT aG jC bL bY jD mLn oF rP dQ aJ aB bW bZ aR aE bI aW bU fJ dO bM bQ bO jY oX nG qO sW qQ uZ vY) -> va_S A s.heap H locs -> lv_has ls 9 [(0, .ref a_m), (2, .int x2), (4, .int x4), (5, .int x5), (6, .int x6)] -> W p l e aDt s m args below meth c H locs 0 0 (MQ below (aEa dC dI cI cC cZ cB cJ A a_m nY sJ eG iY lY jR jW jZ jO oQ bR aY jQ gY iJ mQ lJ jA bG mK jB mW mJ eJ dG bT aG aJ aB bW bZ aR aE bI aW bU fJ dO bM bQ bO jY oX nG qO qQ post) args s 0 0 A) (F0 m 300 ls [])) : ∀ (x2 x4 x5 x6 jC bL bY : Int32) (jD : Nat) (mLn oF rP dQ : Int32) (sW uZ vY : Nat -> Int32) (H : Heap) (locs : List Loc) (ls : Array Slot), (ws_X10_grass_300 post next aG nG qO qQ) x2 x4 x5 x6 jC bL bY jD mLn oF rP dQ sW uZ vY -> va_P (dC, dI) classes (aBY cI cC cZ cB cJ a_m nY sJ eG iY lY jR jW jZ jO oQ bR aY jQ gY iJ mQ lJ jA bG mK jB mW mJ eJ dG bT aG jC bL bY jD mLn oF rP dQ aJ aB bW bZ aR aE bI aW bU fJ dO bM bQ bO jY oX nG qO sW qQ uZ vY) H -> va_D A (aBY cI cC cZ cB cJ a_m nY sJ eG iY lY jR jW jZ jO oQ bR aY jQ gY iJ mQ lJ jA bG mK jB mW mJ eJ dG bT aG jC bL bY jD mLn oF rP dQ aJ aB bW bZ aR aE bI aW bU fJ dO bM bQ bO jY oX nG qO sW qQ uZ vY) -> va_S A s.heap H locs -> lv_has ls 9 [(0, .ref a_m), (2, .int x2), (4, .int x4), (5, .int x5), (6, .int x6)] -> W p l e aDt s m args below meth c H locs 0 0 (MQ below (aEa dC dI cI cC cZ cB cJ A a_m nY sJ eG iY lY jR jW jZ jO oQ bR aY jQ gY iJ mQ lJ jA bG mK jB mW mJ eJ dG bT aG aJ aB bW bZ aR aE bI aW bU fJ dO bM bQ bO jY oX nG qO qQ post) args s 0 0 A) (F0 m 300 ls []) := by
  obtain ⟨hx, hb, hr, hml, hown, hts, hlocks, hA, hK, hN, tL, tM, hZL, hTL, hZM, hTM, hZX⟩ := id C0
  intro x2 x4 x5 x6 jC bL bY jD mLn oF rP dQ sW uZ vY H locs ls hp hP hD hS hl
  unfold ws_X10_grass_300 at hp
  refine lv_iload hx hb aQF.2.2.1 (lv_at hl 4 rfl) ?_
  refine lv_iload_n hx hb aQF.2.2.2.1 rfl (lv_at hl 1 rfl) ?_
  refine lv_icmp_ge (tgt := 359) hx hb aQF.2.2.2.2.1 (by decide) (fun hc => ?_) (fun hc => ?_)
  · have hp := hp.1 hc
    refine lv_iload hx hb aM9.2.2.2.2.2.2.2.2.2.2.2.2.2.2.1 (lv_at hl 2 rfl) ?_
    exact W.iret (v := x4) hx hb hr (fun t ht hW => ⟨⟨x4, (jC, bL, bY, jD, mLn, oF, rP, dQ, sW, uZ, vY), rfl, hp, by rw [ht]; exact hP, va_K.moved hW.alike hK, hD⟩, hS.F ht⟩) hS.2.2 aM9.2.2.2.2.2.2.2.2.2.2.2.2.2.2.2
  · have hp := hp.2 hc
    refine lv_iload hx hb aQF.2.2.2.2.2.1 (lv_at hl 2 rfl) ?_
    refine lv_if_le (tgt := 359) hx hb aQF.2.2.2.2.2.2.1 (by decide) (fun hc => ?_) (fun hc => ?_)
    · have hp := hp.1 hc
      refine lv_iload hx hb aM9.2.2.2.2.2.2.2.2.2.2.2.2.2.2.1 (lv_at hl 2 rfl) ?_
      exact W.iret (v := x4) hx hb hr (fun t ht hW => ⟨⟨x4, (jC, bL, bY, jD, mLn, oF, rP, dQ, sW, uZ, vY), rfl, hp, by rw [ht]; exact hP, va_K.moved hW.alike hK, hD⟩, hS.F ht⟩) hS.2.2 aM9.2.2.2.2.2.2.2.2.2.2.2.2.2.2.2
    · have hp := hp.2 hc
      refine lv_iconst (v := 0) hx hb aQF.2.2.2.2.2.2.2.1 aCi ?_
      refine lv_istore (lv' := [(7, .int 0), (0, .ref a_m), (2, .int x2), (4, .int x4), (5, .int x5), (6, .int x6)]) hx hb aQF.2.2.2.2.2.2.2.2.1 hl (by decide) rfl (fun ls hl => ?_)
      obtain ⟨n9, hp⟩ := hp
      exact kb_X10_grass_314 C0 hKn n9 x2 x4 x5 x6 0 jC bL bY jD mLn oF rP dQ sW uZ vY H locs ls hp hP hD hS (lv_sub hl [1, 2, 3, 4, 5, 0] rfl)
set_option maxHeartbeats 4000000 in
set_option maxRecDepth 100000 in
theorem kb_X10_grass_300 (C0 : gc aAu (some .int) 9 zX (dC, dI) (tyl cI cC cZ cB cJ) A p s m args meth c) : ∀ (n : Nat), ∀ (x2 x4 x5 x6 jC bL bY : Int32) (jD : Nat) (mLn oF rP dQ : Int32) (sW uZ vY : Nat -> Int32) (H : Heap) (locs : List Loc) (ls : Array Slot), (wb_X10_grass_300 post aG nG qO qQ n) x2 x4 x5 x6 jC bL bY jD mLn oF rP dQ sW uZ vY -> va_P (dC, dI) classes (aBY cI cC cZ cB cJ a_m nY sJ eG iY lY jR jW jZ jO oQ bR aY jQ gY iJ mQ lJ jA bG mK jB mW mJ eJ dG bT aG jC bL bY jD mLn oF rP dQ aJ aB bW bZ aR aE bI aW bU fJ dO bM bQ bO jY oX nG qO sW qQ uZ vY) H -> va_D A (aBY cI cC cZ cB cJ a_m nY sJ eG iY lY jR jW jZ jO oQ bR aY jQ gY iJ mQ lJ jA bG mK jB mW mJ eJ dG bT aG jC bL bY jD mLn oF rP dQ aJ aB bW bZ aR aE bI aW bU fJ dO bM bQ bO jY oX nG qO sW qQ uZ vY) -> va_S A s.heap H locs -> lv_has ls 9 [(0, .ref a_m), (2, .int x2), (4, .int x4), (5, .int x5), (6, .int x6)] -> W p l e aDt s m args below meth c H locs 0 0 (MQ below (aEa dC dI cI cC cZ cB cJ A a_m nY sJ eG iY lY jR jW jZ jO oQ bR aY jQ gY iJ mQ lJ jA bG mK jB mW mJ eJ dG bT aG aJ aB bW bZ aR aE bI aW bU fJ dO bM bQ bO jY oX nG qO qQ post) args s 0 0 A) (F0 m 300 ls []) := by
  intro n
  induction n with
  | zero =>
    intro x2 x4 x5 x6 jC bL bY jD mLn oF rP dQ sW uZ vY H locs ls hp
    exact False.elim hp
  | succ n ih =>
    intro x2 x4 x5 x6 jC bL bY jD mLn oF rP dQ sW uZ vY H locs ls hp
    exact ks_X10_grass_300 C0 ih x2 x4 x5 x6 jC bL bY jD mLn oF rP dQ sW uZ vY H locs ls hp
def ws_X10_grass_277 (post : Int32 -> Int32 -> Int32 -> Int32 -> Nat -> Int32 -> Int32 -> Int32 -> Int32 -> (Nat -> Int32) -> (Nat -> Int32) -> (Nat -> Int32) -> Prop) (K134 : Int32 -> Int32 -> Int32 -> Int32 -> Int32 -> Int32 -> Int32 -> Nat -> Int32 -> Int32 -> Int32 -> Int32 -> (Nat -> Int32) -> (Nat -> Int32) -> (Nat -> Int32) -> Prop) (K142 : Int32 -> Int32 -> Int32 -> Int32 -> Int32 -> Int32 -> Int32 -> Int32 -> Nat -> Int32 -> Int32 -> Int32 -> Int32 -> (Nat -> Int32) -> (Nat -> Int32) -> (Nat -> Int32) -> Prop) (aG : Int32) (nG qO qQ : Nat -> Int32) (x1 x2 x4 x5 x6 jC bL bY : Int32) (jD : Nat) (mLn oF rP dQ : Int32) (sW uZ vY : Nat -> Int32) : Prop := ∀ v_21 : Int32, v_21 = x6 + 1 -> K142 x1 x2 x4 x5 v_21 jC bL bY jD mLn oF rP dQ sW uZ vY
set_option maxHeartbeats 4000000 in
set_option maxRecDepth 100000 in
theorem ks_X10_grass_277 (C0 : gc aAu (some .int) 9 zX (dC, dI) (tyl cI cC cZ cB cJ) A p s m args meth c) {K134 : Int32 -> Int32 -> Int32 -> Int32 -> Int32 -> Int32 -> Int32 -> Nat -> Int32 -> Int32 -> Int32 -> Int32 -> (Nat -> Int32) -> (Nat -> Int32) -> (Nat -> Int32) -> Prop} {K142 : Int32 -> Int32 -> Int32 -> Int32 -> Int32 -> Int32 -> Int32 -> Int32 -> Nat -> Int32 -> Int32 -> Int32 -> Int32 -> (Nat -> Int32) -> (Nat -> Int32) -> (Nat -> Int32) -> Prop} (hK134 : ∀ (x1 : Int32) (x2 : Int32) (x4 : Int32) (x5 : Int32) (jC : Int32) (bL : Int32) (bY : Int32) (jD : Nat) (mLn : Int32) (oF : Int32) (rP : Int32) (dQ : Int32) (sW : Nat -> Int32) (uZ : Nat -> Int32) (vY : Nat -> Int32) (H : Heap) (locs : List Loc) (ls : Array Slot), K134 x1 x2 x4 x5 jC bL bY jD mLn oF rP dQ sW uZ vY -> va_P (dC, dI) classes (aBY cI cC cZ cB cJ a_m nY sJ eG iY lY jR jW jZ jO oQ bR aY jQ gY iJ mQ lJ jA bG mK jB mW mJ eJ dG bT aG jC bL bY jD mLn oF rP dQ aJ aB bW bZ aR aE bI aW bU fJ dO bM bQ bO jY oX nG qO sW qQ uZ vY) H -> va_D A (aBY cI cC cZ cB cJ a_m nY sJ eG iY lY jR jW jZ jO oQ bR aY jQ gY iJ mQ lJ jA bG mK jB mW mJ eJ dG bT aG jC bL bY jD mLn oF rP dQ aJ aB bW bZ aR aE bI aW bU fJ dO bM bQ bO jY oX nG qO sW qQ uZ vY) -> va_S A s.heap H locs -> lv_has ls 9 [(0, .ref a_m), (1, .int x1), (2, .int x2), (4, .int x4), (5, .int x5)] -> W p l e aDt s m args below meth c H locs 0 0 (MQ below (aEa dC dI cI cC cZ cB cJ A a_m nY sJ eG iY lY jR jW jZ jO oQ bR aY jQ gY iJ mQ lJ jA bG mK jB mW mJ eJ dG bT aG aJ aB bW bZ aR aE bI aW bU fJ dO bM bQ bO jY oX nG qO qQ post) args s 0 0 A) (F0 m 134 ls [])) (hK142 : ∀ (x1 : Int32) (x2 : Int32) (x4 : Int32) (x5 : Int32) (x6 : Int32) (jC : Int32) (bL : Int32) (bY : Int32) (jD : Nat) (mLn : Int32) (oF : Int32) (rP : Int32) (dQ : Int32) (sW : Nat -> Int32) (uZ : Nat -> Int32) (vY : Nat -> Int32) (H : Heap) (locs : List Loc) (ls : Array Slot), K142 x1 x2 x4 x5 x6 jC bL bY jD mLn oF rP dQ sW uZ vY -> va_P (dC, dI) classes (aBY cI cC cZ cB cJ a_m nY sJ eG iY lY jR jW jZ jO oQ bR aY jQ gY iJ mQ lJ jA bG mK jB mW mJ eJ dG bT aG jC bL bY jD mLn oF rP dQ aJ aB bW bZ aR aE bI aW bU fJ dO bM bQ bO jY oX nG qO sW qQ uZ vY) H -> va_D A (aBY cI cC cZ cB cJ a_m nY sJ eG iY lY jR jW jZ jO oQ bR aY jQ gY iJ mQ lJ jA bG mK jB mW mJ eJ dG bT aG jC bL bY jD mLn oF rP dQ aJ aB bW bZ aR aE bI aW bU fJ dO bM bQ bO jY oX nG qO sW qQ uZ vY) -> va_S A s.heap H locs -> lv_has ls 9 [(0, .ref a_m), (1, .int x1), (2, .int x2), (4, .int x4), (5, .int x5), (6, .int x6)] -> W p l e aDt s m args below meth c H locs 0 0 (MQ below (aEa dC dI cI cC cZ cB cJ A a_m nY sJ eG iY lY jR jW jZ jO oQ bR aY jQ gY iJ mQ lJ jA bG mK jB mW mJ eJ dG bT aG aJ aB bW bZ aR aE bI aW bU fJ dO bM bQ bO jY oX nG qO qQ post) args s 0 0 A) (F0 m 142 ls [])) : ∀ (x1 x2 x4 x5 x6 jC bL bY : Int32) (jD : Nat) (mLn oF rP dQ : Int32) (sW uZ vY : Nat -> Int32) (H : Heap) (locs : List Loc) (ls : Array Slot), (ws_X10_grass_277 post K134 K142 aG nG qO qQ) x1 x2 x4 x5 x6 jC bL bY jD mLn oF rP dQ sW uZ vY -> va_P (dC, dI) classes (aBY cI cC cZ cB cJ a_m nY sJ eG iY lY jR jW jZ jO oQ bR aY jQ gY iJ mQ lJ jA bG mK jB mW mJ eJ dG bT aG jC bL bY jD mLn oF rP dQ aJ aB bW bZ aR aE bI aW bU fJ dO bM bQ bO jY oX nG qO sW qQ uZ vY) H -> va_D A (aBY cI cC cZ cB cJ a_m nY sJ eG iY lY jR jW jZ jO oQ bR aY jQ gY iJ mQ lJ jA bG mK jB mW mJ eJ dG bT aG jC bL bY jD mLn oF rP dQ aJ aB bW bZ aR aE bI aW bU fJ dO bM bQ bO jY oX nG qO sW qQ uZ vY) -> va_S A s.heap H locs -> lv_has ls 9 [(0, .ref a_m), (1, .int x1), (2, .int x2), (4, .int x4), (5, .int x5), (6, .int x6)] -> W p l e aDt s m args below meth c H locs 0 0 (MQ below (aEa dC dI cI cC cZ cB cJ A a_m nY sJ eG iY lY jR jW jZ jO oQ bR aY jQ gY iJ mQ lJ jA bG mK jB mW mJ eJ dG bT aG aJ aB bW bZ aR aE bI aW bU fJ dO bM bQ bO jY oX nG qO qQ post) args s 0 0 A) (F0 m 277 ls []) := by
  obtain ⟨hx, hb, hr, hml, hown, hts, hlocks, hA, hK, hN, tL, tM, hZL, hTL, hZM, hTM, hZX⟩ := id C0
  intro x1 x2 x4 x5 x6 jC bL bY jD mLn oF rP dQ sW uZ vY H locs ls hp hP hD hS hl
  unfold ws_X10_grass_277 at hp
  obtain ⟨v_21, ev_21⟩ : ∃ y : Int32, y = x6 + 1 := ⟨_, rfl⟩
  refine lv_iinc (v := v_21) (lv' := [(6, .int v_21), (0, .ref a_m), (1, .int x1), (2, .int x2), (4, .int x4), (5, .int x5)]) hx hb aQE.2.2.2.2.2.2.2.1 hl (k := 5) rfl (by rw [ev_21]; rfl) (by decide) rfl (fun ls hl => ?_)
  have hp := hp v_21 ev_21
  refine lv_goto (tgt := 142) hx hb aQE.2.2.2.2.2.2.2.2.1 (by decide) ?_
  exact hK142 x1 x2 x4 x5 v_21 jC bL bY jD mLn oF rP dQ sW uZ vY H locs ls hp hP hD hS (lv_sub hl [1, 2, 3, 4, 5, 0] rfl)
def ws_X10_grass_259 (post : Int32 -> Int32 -> Int32 -> Int32 -> Nat -> Int32 -> Int32 -> Int32 -> Int32 -> (Nat -> Int32) -> (Nat -> Int32) -> (Nat -> Int32) -> Prop) (K134 : Int32 -> Int32 -> Int32 -> Int32 -> Int32 -> Int32 -> Int32 -> Nat -> Int32 -> Int32 -> Int32 -> Int32 -> (Nat -> Int32) -> (Nat -> Int32) -> (Nat -> Int32) -> Prop) (K142 : Int32 -> Int32 -> Int32 -> Int32 -> Int32 -> Int32 -> Int32 -> Int32 -> Nat -> Int32 -> Int32 -> Int32 -> Int32 -> (Nat -> Int32) -> (Nat -> Int32) -> (Nat -> Int32) -> Prop) (aG : Int32) (nG qO qQ : Nat -> Int32) (x1 x2 x4 x5 x6 k1 k2 jC bL bY : Int32) (jD : Nat) (mLn oF rP dQ : Int32) (sW uZ vY : Nat -> Int32) : Prop := vp_in k1 48 /\ ((¬ x5 = 0 -> ws_X10_grass_277 post K134 K142 aG nG qO qQ x1 x2 x4 x5 x6 jC bL bY jD mLn oF rP dQ sW uZ (upd vY k1.toNatClampNeg k2)) /\ (x5 = 0 -> vp_in x6 48 /\ (∀ v_22 : Int32, v_22 = x4 + ((upd vY k1.toNatClampNeg k2) x6.toNatClampNeg) -> ws_X10_grass_277 post K134 K142 aG nG qO qQ x1 x2 v_22 x5 x6 jC bL bY jD mLn oF rP dQ sW uZ (upd vY k1.toNatClampNeg k2))))
set_option maxHeartbeats 4000000 in
set_option maxRecDepth 100000 in
theorem ks_X10_grass_259 (C0 : gc aAu (some .int) 9 zX (dC, dI) (tyl cI cC cZ cB cJ) A p s m args meth c) {K134 : Int32 -> Int32 -> Int32 -> Int32 -> Int32 -> Int32 -> Int32 -> Nat -> Int32 -> Int32 -> Int32 -> Int32 -> (Nat -> Int32) -> (Nat -> Int32) -> (Nat -> Int32) -> Prop} {K142 : Int32 -> Int32 -> Int32 -> Int32 -> Int32 -> Int32 -> Int32 -> Int32 -> Nat -> Int32 -> Int32 -> Int32 -> Int32 -> (Nat -> Int32) -> (Nat -> Int32) -> (Nat -> Int32) -> Prop} (hK134 : ∀ (x1 : Int32) (x2 : Int32) (x4 : Int32) (x5 : Int32) (jC : Int32) (bL : Int32) (bY : Int32) (jD : Nat) (mLn : Int32) (oF : Int32) (rP : Int32) (dQ : Int32) (sW : Nat -> Int32) (uZ : Nat -> Int32) (vY : Nat -> Int32) (H : Heap) (locs : List Loc) (ls : Array Slot), K134 x1 x2 x4 x5 jC bL bY jD mLn oF rP dQ sW uZ vY -> va_P (dC, dI) classes (aBY cI cC cZ cB cJ a_m nY sJ eG iY lY jR jW jZ jO oQ bR aY jQ gY iJ mQ lJ jA bG mK jB mW mJ eJ dG bT aG jC bL bY jD mLn oF rP dQ aJ aB bW bZ aR aE bI aW bU fJ dO bM bQ bO jY oX nG qO sW qQ uZ vY) H -> va_D A (aBY cI cC cZ cB cJ a_m nY sJ eG iY lY jR jW jZ jO oQ bR aY jQ gY iJ mQ lJ jA bG mK jB mW mJ eJ dG bT aG jC bL bY jD mLn oF rP dQ aJ aB bW bZ aR aE bI aW bU fJ dO bM bQ bO jY oX nG qO sW qQ uZ vY) -> va_S A s.heap H locs -> lv_has ls 9 [(0, .ref a_m), (1, .int x1), (2, .int x2), (4, .int x4), (5, .int x5)] -> W p l e aDt s m args below meth c H locs 0 0 (MQ below (aEa dC dI cI cC cZ cB cJ A a_m nY sJ eG iY lY jR jW jZ jO oQ bR aY jQ gY iJ mQ lJ jA bG mK jB mW mJ eJ dG bT aG aJ aB bW bZ aR aE bI aW bU fJ dO bM bQ bO jY oX nG qO qQ post) args s 0 0 A) (F0 m 134 ls [])) (hK142 : ∀ (x1 : Int32) (x2 : Int32) (x4 : Int32) (x5 : Int32) (x6 : Int32) (jC : Int32) (bL : Int32) (bY : Int32) (jD : Nat) (mLn : Int32) (oF : Int32) (rP : Int32) (dQ : Int32) (sW : Nat -> Int32) (uZ : Nat -> Int32) (vY : Nat -> Int32) (H : Heap) (locs : List Loc) (ls : Array Slot), K142 x1 x2 x4 x5 x6 jC bL bY jD mLn oF rP dQ sW uZ vY -> va_P (dC, dI) classes (aBY cI cC cZ cB cJ a_m nY sJ eG iY lY jR jW jZ jO oQ bR aY jQ gY iJ mQ lJ jA bG mK jB mW mJ eJ dG bT aG jC bL bY jD mLn oF rP dQ aJ aB bW bZ aR aE bI aW bU fJ dO bM bQ bO jY oX nG qO sW qQ uZ vY) H -> va_D A (aBY cI cC cZ cB cJ a_m nY sJ eG iY lY jR jW jZ jO oQ bR aY jQ gY iJ mQ lJ jA bG mK jB mW mJ eJ dG bT aG jC bL bY jD mLn oF rP dQ aJ aB bW bZ aR aE bI aW bU fJ dO bM bQ bO jY oX nG qO sW qQ uZ vY) -> va_S A s.heap H locs -> lv_has ls 9 [(0, .ref a_m), (1, .int x1), (2, .int x2), (4, .int x4), (5, .int x5), (6, .int x6)] -> W p l e aDt s m args below meth c H locs 0 0 (MQ below (aEa dC dI cI cC cZ cB cJ A a_m nY sJ eG iY lY jR jW jZ jO oQ bR aY jQ gY iJ mQ lJ jA bG mK jB mW mJ eJ dG bT aG aJ aB bW bZ aR aE bI aW bU fJ dO bM bQ bO jY oX nG qO qQ post) args s 0 0 A) (F0 m 142 ls [])) : ∀ (x1 x2 x4 x5 x6 k1 k2 jC bL bY : Int32) (jD : Nat) (mLn oF rP dQ : Int32) (sW uZ vY : Nat -> Int32) (H : Heap) (locs : List Loc) (ls : Array Slot), (ws_X10_grass_259 post K134 K142 aG nG qO qQ) x1 x2 x4 x5 x6 k1 k2 jC bL bY jD mLn oF rP dQ sW uZ vY -> va_P (dC, dI) classes (aBY cI cC cZ cB cJ a_m nY sJ eG iY lY jR jW jZ jO oQ bR aY jQ gY iJ mQ lJ jA bG mK jB mW mJ eJ dG bT aG jC bL bY jD mLn oF rP dQ aJ aB bW bZ aR aE bI aW bU fJ dO bM bQ bO jY oX nG qO sW qQ uZ vY) H -> va_D A (aBY cI cC cZ cB cJ a_m nY sJ eG iY lY jR jW jZ jO oQ bR aY jQ gY iJ mQ lJ jA bG mK jB mW mJ eJ dG bT aG jC bL bY jD mLn oF rP dQ aJ aB bW bZ aR aE bI aW bU fJ dO bM bQ bO jY oX nG qO sW qQ uZ vY) -> va_S A s.heap H locs -> lv_has ls 9 [(0, .ref a_m), (1, .int x1), (2, .int x2), (4, .int x4), (5, .int x5), (6, .int x6)] -> W p l e aDt s m args below meth c H locs 0 0 (MQ below (aEa dC dI cI cC cZ cB cJ A a_m nY sJ eG iY lY jR jW jZ jO oQ bR aY jQ gY iJ mQ lJ jA bG mK jB mW mJ eJ dG bT aG aJ aB bW bZ aR aE bI aW bU fJ dO bM bQ bO jY oX nG qO qQ post) args s 0 0 A) (F0 m 259 ls [.int k2, .int k1, .ref mW]) := by
  obtain ⟨hx, hb, hr, hml, hown, hts, hlocks, hA, hK, hN, tL, tM, hZL, hTL, hZM, hTM, hZX⟩ := id C0
  intro x1 x2 x4 x5 x6 k1 k2 jC bL bY jD mLn oF rP dQ sW uZ vY H locs ls hp hP hD hS hl
  unfold ws_X10_grass_259 at hp
  have hin := hp.1
  have hp := hp.2
  refine va_iast hx hb hK hP hD hS 6 0 rfl rfl hin aQD.2.2.2.2.2.2.2.2.2.2.2.2.2.1 (fun H locs hP hD hS => ?_)
  have hPD := PDw (ws' := (aBY cI cC cZ cB cJ a_m nY sJ eG iY lY jR jW jZ jO oQ bR aY jQ gY iJ mQ lJ jA bG mK jB mW mJ eJ dG bT aG jC bL bY jD mLn oF rP dQ aJ aB bW bZ aR aE bI aW bU fJ dO bM bQ bO jY oX nG qO sW qQ uZ (upd vY k1.toNatClampNeg k2))) hP hD rfl
  have hP := hPD.1
  have hD := hPD.2
  refine lv_iload hx hb aQD.2.2.2.2.2.2.2.2.2.2.2.2.2.2.1 (lv_at hl 4 rfl) ?_
  refine lv_if_ne (tgt := 277) hx hb aQD.2.2.2.2.2.2.2.2.2.2.2.2.2.2.2 (by decide) (fun hc => ?_) (fun hc => ?_)
  · have hp := hp.1 hc
    exact ks_X10_grass_277 C0 hK134 hK142 x1 x2 x4 x5 x6 jC bL bY jD mLn oF rP dQ sW uZ (upd vY k1.toNatClampNeg k2) H locs ls hp hP hD hS (lv_sub hl [0, 1, 2, 3, 4, 5] rfl)
  · have hp := hp.2 hc
    refine lv_iload hx hb aQE.1 (lv_at hl 3 rfl) ?_
    refine lv_aload_n hx hb aQE.2.1 rfl (lv_at hl 0 rfl) ?_
    refine va_get (D := (dC, dI)) (ci := 10) (v := .ref mW) (C := zX) (T := aBe) (N := 51) hx hb hts aAt hown hK hP 0 rfl rfl 45 (lbz rfl) (hts _ q_953) (fun _ h9 => h9) rfl aQE.2.2.1 ?_
    refine lv_iload hx hb aQE.2.2.2.1 (lv_at hl 5 rfl) ?_
    have hin := hp.1
    have hp := hp.2
    refine va_iald hx hb hK hP 6 0 rfl rfl hin aQE.2.2.2.2.1 ?_
    refine lv_iadd hx hb aQE.2.2.2.2.2.1 ?_
    refine lv_topi (fun v_22 ev_22 => ?_)
    have hp := hp v_22 ev_22
    refine lv_istore (lv' := [(4, .int v_22), (0, .ref a_m), (1, .int x1), (2, .int x2), (5, .int x5), (6, .int x6)]) hx hb aQE.2.2.2.2.2.2.1 hl (by decide) rfl (fun ls hl => ?_)
    exact ks_X10_grass_277 C0 hK134 hK142 x1 x2 v_22 x5 x6 jC bL bY jD mLn oF rP dQ sW uZ (upd vY k1.toNatClampNeg k2) H locs ls hp hP hD hS (lv_sub hl [1, 2, 3, 0, 4, 5] rfl)
def ws_X10_grass_219 (post : Int32 -> Int32 -> Int32 -> Int32 -> Nat -> Int32 -> Int32 -> Int32 -> Int32 -> (Nat -> Int32) -> (Nat -> Int32) -> (Nat -> Int32) -> Prop) (K134 : Int32 -> Int32 -> Int32 -> Int32 -> Int32 -> Int32 -> Int32 -> Nat -> Int32 -> Int32 -> Int32 -> Int32 -> (Nat -> Int32) -> (Nat -> Int32) -> (Nat -> Int32) -> Prop) (K142 : Int32 -> Int32 -> Int32 -> Int32 -> Int32 -> Int32 -> Int32 -> Int32 -> Nat -> Int32 -> Int32 -> Int32 -> Int32 -> (Nat -> Int32) -> (Nat -> Int32) -> (Nat -> Int32) -> Prop) (aG : Int32) (nG qO qQ : Nat -> Int32) (x1 x2 x4 x5 x6 x7 jC bL bY : Int32) (jD : Nat) (mLn oF rP dQ : Int32) (sW uZ vY : Nat -> Int32) : Prop := ∀ aHb : Int32, aHb = 8 * x5 -> ∀ v_17 : Int32, v_17 = aHb + x6 -> vp_in x6 8 /\ (∀ v_18 : Int32, v_18 = nG x6.toNatClampNeg -> vp_in x5 6 /\ (∀ v_19 : Int32, v_19 = v_18 - (uZ x5.toNatClampNeg) -> ∀ v_20 : Int32, v_20 = (if 0 <= v_19 then v_19 else 0 - v_19) -> (x1 < v_20 -> ws_X10_grass_259 post K134 K142 aG nG qO qQ x1 x2 x4 x5 x6 v_17 0 jC bL bY jD mLn oF rP dQ sW uZ vY) /\ (¬ x1 < v_20 -> ws_X10_grass_259 post K134 K142 aG nG qO qQ x1 x2 x4 x5 x6 v_17 x7 jC bL bY jD mLn oF rP dQ sW uZ vY)))
set_option maxHeartbeats 4000000 in
set_option maxRecDepth 100000 in
theorem ks_X10_grass_219 (C0 : gc aAu (some .int) 9 zX (dC, dI) (tyl cI cC cZ cB cJ) A p s m args meth c) {K134 : Int32 -> Int32 -> Int32 -> Int32 -> Int32 -> Int32 -> Int32 -> Nat -> Int32 -> Int32 -> Int32 -> Int32 -> (Nat -> Int32) -> (Nat -> Int32) -> (Nat -> Int32) -> Prop} {K142 : Int32 -> Int32 -> Int32 -> Int32 -> Int32 -> Int32 -> Int32 -> Int32 -> Nat -> Int32 -> Int32 -> Int32 -> Int32 -> (Nat -> Int32) -> (Nat -> Int32) -> (Nat -> Int32) -> Prop} (hK134 : ∀ (x1 : Int32) (x2 : Int32) (x4 : Int32) (x5 : Int32) (jC : Int32) (bL : Int32) (bY : Int32) (jD : Nat) (mLn : Int32) (oF : Int32) (rP : Int32) (dQ : Int32) (sW : Nat -> Int32) (uZ : Nat -> Int32) (vY : Nat -> Int32) (H : Heap) (locs : List Loc) (ls : Array Slot), K134 x1 x2 x4 x5 jC bL bY jD mLn oF rP dQ sW uZ vY -> va_P (dC, dI) classes (aBY cI cC cZ cB cJ a_m nY sJ eG iY lY jR jW jZ jO oQ bR aY jQ gY iJ mQ lJ jA bG mK jB mW mJ eJ dG bT aG jC bL bY jD mLn oF rP dQ aJ aB bW bZ aR aE bI aW bU fJ dO bM bQ bO jY oX nG qO sW qQ uZ vY) H -> va_D A (aBY cI cC cZ cB cJ a_m nY sJ eG iY lY jR jW jZ jO oQ bR aY jQ gY iJ mQ lJ jA bG mK jB mW mJ eJ dG bT aG jC bL bY jD mLn oF rP dQ aJ aB bW bZ aR aE bI aW bU fJ dO bM bQ bO jY oX nG qO sW qQ uZ vY) -> va_S A s.heap H locs -> lv_has ls 9 [(0, .ref a_m), (1, .int x1), (2, .int x2), (4, .int x4), (5, .int x5)] -> W p l e aDt s m args below meth c H locs 0 0 (MQ below (aEa dC dI cI cC cZ cB cJ A a_m nY sJ eG iY lY jR jW jZ jO oQ bR aY jQ gY iJ mQ lJ jA bG mK jB mW mJ eJ dG bT aG aJ aB bW bZ aR aE bI aW bU fJ dO bM bQ bO jY oX nG qO qQ post) args s 0 0 A) (F0 m 134 ls [])) (hK142 : ∀ (x1 : Int32) (x2 : Int32) (x4 : Int32) (x5 : Int32) (x6 : Int32) (jC : Int32) (bL : Int32) (bY : Int32) (jD : Nat) (mLn : Int32) (oF : Int32) (rP : Int32) (dQ : Int32) (sW : Nat -> Int32) (uZ : Nat -> Int32) (vY : Nat -> Int32) (H : Heap) (locs : List Loc) (ls : Array Slot), K142 x1 x2 x4 x5 x6 jC bL bY jD mLn oF rP dQ sW uZ vY -> va_P (dC, dI) classes (aBY cI cC cZ cB cJ a_m nY sJ eG iY lY jR jW jZ jO oQ bR aY jQ gY iJ mQ lJ jA bG mK jB mW mJ eJ dG bT aG jC bL bY jD mLn oF rP dQ aJ aB bW bZ aR aE bI aW bU fJ dO bM bQ bO jY oX nG qO sW qQ uZ vY) H -> va_D A (aBY cI cC cZ cB cJ a_m nY sJ eG iY lY jR jW jZ jO oQ bR aY jQ gY iJ mQ lJ jA bG mK jB mW mJ eJ dG bT aG jC bL bY jD mLn oF rP dQ aJ aB bW bZ aR aE bI aW bU fJ dO bM bQ bO jY oX nG qO sW qQ uZ vY) -> va_S A s.heap H locs -> lv_has ls 9 [(0, .ref a_m), (1, .int x1), (2, .int x2), (4, .int x4), (5, .int x5), (6, .int x6)] -> W p l e aDt s m args below meth c H locs 0 0 (MQ below (aEa dC dI cI cC cZ cB cJ A a_m nY sJ eG iY lY jR jW jZ jO oQ bR aY jQ gY iJ mQ lJ jA bG mK jB mW mJ eJ dG bT aG aJ aB bW bZ aR aE bI aW bU fJ dO bM bQ bO jY oX nG qO qQ post) args s 0 0 A) (F0 m 142 ls [])) : ∀ (x1 x2 x4 x5 x6 x7 jC bL bY : Int32) (jD : Nat) (mLn oF rP dQ : Int32) (sW uZ vY : Nat -> Int32) (H : Heap) (locs : List Loc) (ls : Array Slot), (ws_X10_grass_219 post K134 K142 aG nG qO qQ) x1 x2 x4 x5 x6 x7 jC bL bY jD mLn oF rP dQ sW uZ vY -> va_P (dC, dI) classes (aBY cI cC cZ cB cJ a_m nY sJ eG iY lY jR jW jZ jO oQ bR aY jQ gY iJ mQ lJ jA bG mK jB mW mJ eJ dG bT aG jC bL bY jD mLn oF rP dQ aJ aB bW bZ aR aE bI aW bU fJ dO bM bQ bO jY oX nG qO sW qQ uZ vY) H -> va_D A (aBY cI cC cZ cB cJ a_m nY sJ eG iY lY jR jW jZ jO oQ bR aY jQ gY iJ mQ lJ jA bG mK jB mW mJ eJ dG bT aG jC bL bY jD mLn oF rP dQ aJ aB bW bZ aR aE bI aW bU fJ dO bM bQ bO jY oX nG qO sW qQ uZ vY) -> va_S A s.heap H locs -> lv_has ls 9 [(0, .ref a_m), (1, .int x1), (2, .int x2), (4, .int x4), (5, .int x5), (6, .int x6), (7, .int x7)] -> W p l e aDt s m args below meth c H locs 0 0 (MQ below (aEa dC dI cI cC cZ cB cJ A a_m nY sJ eG iY lY jR jW jZ jO oQ bR aY jQ gY iJ mQ lJ jA bG mK jB mW mJ eJ dG bT aG aJ aB bW bZ aR aE bI aW bU fJ dO bM bQ bO jY oX nG qO qQ post) args s 0 0 A) (F0 m 219 ls []) := by
  obtain ⟨hx, hb, hr, hml, hown, hts, hlocks, hA, hK, hN, tL, tM, hZL, hTL, hZM, hTM, hZX⟩ := id C0
  intro x1 x2 x4 x5 x6 x7 jC bL bY jD mLn oF rP dQ sW uZ vY H locs ls hp hP hD hS hl
  unfold ws_X10_grass_219 at hp
  refine lv_aload_n hx hb aQC.2.2.2.2.2.2.2.1 rfl (lv_at hl 0 rfl) ?_
  refine va_get (D := (dC, dI)) (ci := 10) (v := .ref mW) (C := zX) (T := aBe) (N := 51) hx hb hts aAt hown hK hP 0 rfl rfl 45 (lbz rfl) (hts _ q_953) (fun _ h9 => h9) rfl aQC.2.2.2.2.2.2.2.2.1 ?_
  refine lv_bipush (v := 8) hx hb aQC.2.2.2.2.2.2.2.2.2.1 bp_8 ?_
  refine lv_iload hx hb aQC.2.2.2.2.2.2.2.2.2.2.1 (lv_at hl 4 rfl) ?_
  refine lv_imul hx hb aQC.2.2.2.2.2.2.2.2.2.2.2.1 ?_
  refine lv_topi (fun aHb ev_16 => ?_)
  have hp := hp aHb ev_16
  refine lv_iload hx hb aQC.2.2.2.2.2.2.2.2.2.2.2.2.1 (lv_at hl 5 rfl) ?_
  refine lv_iadd hx hb aQC.2.2.2.2.2.2.2.2.2.2.2.2.2.1 ?_
  refine lv_topi (fun v_17 ev_17 => ?_)
  have hp := hp v_17 ev_17
  refine lv_aload_n hx hb aQC.2.2.2.2.2.2.2.2.2.2.2.2.2.2.1 rfl (lv_at hl 0 rfl) ?_
  refine va_get (D := (dC, dI)) (ci := 10) (v := .ref jR) (C := zX) (T := aBe) (N := 51) hx hb hts aAt hown hK hP 0 rfl rfl 7 (lbz rfl) (hts _ q_686) (fun _ h9 => h9) rfl aQC.2.2.2.2.2.2.2.2.2.2.2.2.2.2.2 ?_
  refine lv_iload hx hb aQD.1 (lv_at hl 5 rfl) ?_
  have hin := hp.1
  have hp := hp.2
  refine va_iald hx hb hK hP 1 0 rfl rfl hin aQD.2.1 ?_
  refine lv_topi (fun v_18 ev_18 => ?_)
  have hp := hp v_18 ev_18
  refine lv_aload_n hx hb aQD.2.2.1 rfl (lv_at hl 0 rfl) ?_
  refine va_get (D := (dC, dI)) (ci := 10) (v := .ref jB) (C := zX) (T := aBe) (N := 51) hx hb hts aAt hown hK hP 0 rfl rfl 44 (lbz rfl) (hts _ q_954) (fun _ h9 => h9) rfl aQD.2.2.2.1 ?_
  refine lv_iload hx hb aQD.2.2.2.2.1 (lv_at hl 4 rfl) ?_
  have hin := hp.1
  have hp := hp.2
  refine va_iald hx hb hK hP 5 0 rfl rfl hin aQD.2.2.2.2.2.1 ?_
  refine lv_isub hx hb aQD.2.2.2.2.2.2.1 ?_
  refine lv_topi (fun v_19 ev_19 => ?_)
  have hp := hp v_19 ev_19
  refine va_mabs hx hb (by rw [hml]; exact hl.1.symm) hown (hts _ q_698) (hts _ q_166) (hts _ q_16) (hts _ q_167) (lbz rfl) (lbz rfl) (Nat.zero_le _) (Nat.zero_le _) aQD.2.2.2.2.2.2.2.1 ?_
  refine lv_topi (fun v_20 ev_20 => ?_)
  have hp := hp v_20 ev_20
  refine lv_iload_n hx hb aQD.2.2.2.2.2.2.2.2.1 rfl (lv_at hl 1 rfl) ?_
  refine lv_icmp_gt (tgt := 258) hx hb aQD.2.2.2.2.2.2.2.2.2.1 (by decide) (fun hc => ?_) (fun hc => ?_)
  · have hp := hp.1 hc
    refine lv_iconst (v := 0) hx hb aQD.2.2.2.2.2.2.2.2.2.2.2.2.1 aCi ?_
    exact ks_X10_grass_259 C0 hK134 hK142 x1 x2 x4 x5 x6 v_17 0 jC bL bY jD mLn oF rP dQ sW uZ vY H locs ls hp hP hD hS (lv_sub hl [0, 1, 2, 3, 4, 5] rfl)
  · have hp := hp.2 hc
    refine lv_iload hx hb aQD.2.2.2.2.2.2.2.2.2.2.1 (lv_at hl 6 rfl) ?_
    refine lv_goto (tgt := 259) hx hb aQD.2.2.2.2.2.2.2.2.2.2.2.1 (by decide) ?_
    exact ks_X10_grass_259 C0 hK134 hK142 x1 x2 x4 x5 x6 v_17 x7 jC bL bY jD mLn oF rP dQ sW uZ vY H locs ls hp hP hD hS (lv_sub hl [0, 1, 2, 3, 4, 5] rfl)
def ws_X10_grass_213 (post : Int32 -> Int32 -> Int32 -> Int32 -> Nat -> Int32 -> Int32 -> Int32 -> Int32 -> (Nat -> Int32) -> (Nat -> Int32) -> (Nat -> Int32) -> Prop) (K134 : Int32 -> Int32 -> Int32 -> Int32 -> Int32 -> Int32 -> Int32 -> Nat -> Int32 -> Int32 -> Int32 -> Int32 -> (Nat -> Int32) -> (Nat -> Int32) -> (Nat -> Int32) -> Prop) (K142 : Int32 -> Int32 -> Int32 -> Int32 -> Int32 -> Int32 -> Int32 -> Int32 -> Nat -> Int32 -> Int32 -> Int32 -> Int32 -> (Nat -> Int32) -> (Nat -> Int32) -> (Nat -> Int32) -> Prop) (K169 : Int32 -> Int32 -> Int32 -> Int32 -> Int32 -> Int32 -> Int32 -> Int32 -> Int32 -> Int32 -> Nat -> Int32 -> Int32 -> Int32 -> Int32 -> (Nat -> Int32) -> (Nat -> Int32) -> (Nat -> Int32) -> Prop) (aG : Int32) (nG qO qQ : Nat -> Int32) (x1 x2 x4 x5 x6 x7 x8 jC bL bY : Int32) (jD : Nat) (mLn oF rP dQ : Int32) (sW uZ vY : Nat -> Int32) : Prop := ∀ v_23 : Int32, v_23 = x8 + 1 -> K169 x1 x2 x4 x5 x6 x7 v_23 jC bL bY jD mLn oF rP dQ sW uZ vY
set_option maxHeartbeats 4000000 in
set_option maxRecDepth 100000 in
theorem ks_X10_grass_213 (C0 : gc aAu (some .int) 9 zX (dC, dI) (tyl cI cC cZ cB cJ) A p s m args meth c) {K134 : Int32 -> Int32 -> Int32 -> Int32 -> Int32 -> Int32 -> Int32 -> Nat -> Int32 -> Int32 -> Int32 -> Int32 -> (Nat -> Int32) -> (Nat -> Int32) -> (Nat -> Int32) -> Prop} {K142 : Int32 -> Int32 -> Int32 -> Int32 -> Int32 -> Int32 -> Int32 -> Int32 -> Nat -> Int32 -> Int32 -> Int32 -> Int32 -> (Nat -> Int32) -> (Nat -> Int32) -> (Nat -> Int32) -> Prop} {K169 : Int32 -> Int32 -> Int32 -> Int32 -> Int32 -> Int32 -> Int32 -> Int32 -> Int32 -> Int32 -> Nat -> Int32 -> Int32 -> Int32 -> Int32 -> (Nat -> Int32) -> (Nat -> Int32) -> (Nat -> Int32) -> Prop} (hK134 : ∀ (x1 : Int32) (x2 : Int32) (x4 : Int32) (x5 : Int32) (jC : Int32) (bL : Int32) (bY : Int32) (jD : Nat) (mLn : Int32) (oF : Int32) (rP : Int32) (dQ : Int32) (sW : Nat -> Int32) (uZ : Nat -> Int32) (vY : Nat -> Int32) (H : Heap) (locs : List Loc) (ls : Array Slot), K134 x1 x2 x4 x5 jC bL bY jD mLn oF rP dQ sW uZ vY -> va_P (dC, dI) classes (aBY cI cC cZ cB cJ a_m nY sJ eG iY lY jR jW jZ jO oQ bR aY jQ gY iJ mQ lJ jA bG mK jB mW mJ eJ dG bT aG jC bL bY jD mLn oF rP dQ aJ aB bW bZ aR aE bI aW bU fJ dO bM bQ bO jY oX nG qO sW qQ uZ vY) H -> va_D A (aBY cI cC cZ cB cJ a_m nY sJ eG iY lY jR jW jZ jO oQ bR aY jQ gY iJ mQ lJ jA bG mK jB mW mJ eJ dG bT aG jC bL bY jD mLn oF rP dQ aJ aB bW bZ aR aE bI aW bU fJ dO bM bQ bO jY oX nG qO sW qQ uZ vY) -> va_S A s.heap H locs -> lv_has ls 9 [(0, .ref a_m), (1, .int x1), (2, .int x2), (4, .int x4), (5, .int x5)] -> W p l e aDt s m args below meth c H locs 0 0 (MQ below (aEa dC dI cI cC cZ cB cJ A a_m nY sJ eG iY lY jR jW jZ jO oQ bR aY jQ gY iJ mQ lJ jA bG mK jB mW mJ eJ dG bT aG aJ aB bW bZ aR aE bI aW bU fJ dO bM bQ bO jY oX nG qO qQ post) args s 0 0 A) (F0 m 134 ls [])) (hK142 : ∀ (x1 : Int32) (x2 : Int32) (x4 : Int32) (x5 : Int32) (x6 : Int32) (jC : Int32) (bL : Int32) (bY : Int32) (jD : Nat) (mLn : Int32) (oF : Int32) (rP : Int32) (dQ : Int32) (sW : Nat -> Int32) (uZ : Nat -> Int32) (vY : Nat -> Int32) (H : Heap) (locs : List Loc) (ls : Array Slot), K142 x1 x2 x4 x5 x6 jC bL bY jD mLn oF rP dQ sW uZ vY -> va_P (dC, dI) classes (aBY cI cC cZ cB cJ a_m nY sJ eG iY lY jR jW jZ jO oQ bR aY jQ gY iJ mQ lJ jA bG mK jB mW mJ eJ dG bT aG jC bL bY jD mLn oF rP dQ aJ aB bW bZ aR aE bI aW bU fJ dO bM bQ bO jY oX nG qO sW qQ uZ vY) H -> va_D A (aBY cI cC cZ cB cJ a_m nY sJ eG iY lY jR jW jZ jO oQ bR aY jQ gY iJ mQ lJ jA bG mK jB mW mJ eJ dG bT aG jC bL bY jD mLn oF rP dQ aJ aB bW bZ aR aE bI aW bU fJ dO bM bQ bO jY oX nG qO sW qQ uZ vY) -> va_S A s.heap H locs -> lv_has ls 9 [(0, .ref a_m), (1, .int x1), (2, .int x2), (4, .int x4), (5, .int x5), (6, .int x6)] -> W p l e aDt s m args below meth c H locs 0 0 (MQ below (aEa dC dI cI cC cZ cB cJ A a_m nY sJ eG iY lY jR jW jZ jO oQ bR aY jQ gY iJ mQ lJ jA bG mK jB mW mJ eJ dG bT aG aJ aB bW bZ aR aE bI aW bU fJ dO bM bQ bO jY oX nG qO qQ post) args s 0 0 A) (F0 m 142 ls [])) (hK169 : ∀ (x1 : Int32) (x2 : Int32) (x4 : Int32) (x5 : Int32) (x6 : Int32) (x7 : Int32) (x8 : Int32) (jC : Int32) (bL : Int32) (bY : Int32) (jD : Nat) (mLn : Int32) (oF : Int32) (rP : Int32) (dQ : Int32) (sW : Nat -> Int32) (uZ : Nat -> Int32) (vY : Nat -> Int32) (H : Heap) (locs : List Loc) (ls : Array Slot), K169 x1 x2 x4 x5 x6 x7 x8 jC bL bY jD mLn oF rP dQ sW uZ vY -> va_P (dC, dI) classes (aBY cI cC cZ cB cJ a_m nY sJ eG iY lY jR jW jZ jO oQ bR aY jQ gY iJ mQ lJ jA bG mK jB mW mJ eJ dG bT aG jC bL bY jD mLn oF rP dQ aJ aB bW bZ aR aE bI aW bU fJ dO bM bQ bO jY oX nG qO sW qQ uZ vY) H -> va_D A (aBY cI cC cZ cB cJ a_m nY sJ eG iY lY jR jW jZ jO oQ bR aY jQ gY iJ mQ lJ jA bG mK jB mW mJ eJ dG bT aG jC bL bY jD mLn oF rP dQ aJ aB bW bZ aR aE bI aW bU fJ dO bM bQ bO jY oX nG qO sW qQ uZ vY) -> va_S A s.heap H locs -> lv_has ls 9 [(0, .ref a_m), (1, .int x1), (2, .int x2), (4, .int x4), (5, .int x5), (6, .int x6), (7, .int x7), (8, .int x8)] -> W p l e aDt s m args below meth c H locs 0 0 (MQ below (aEa dC dI cI cC cZ cB cJ A a_m nY sJ eG iY lY jR jW jZ jO oQ bR aY jQ gY iJ mQ lJ jA bG mK jB mW mJ eJ dG bT aG aJ aB bW bZ aR aE bI aW bU fJ dO bM bQ bO jY oX nG qO qQ post) args s 0 0 A) (F0 m 169 ls [])) : ∀ (x1 x2 x4 x5 x6 x7 x8 jC bL bY : Int32) (jD : Nat) (mLn oF rP dQ : Int32) (sW uZ vY : Nat -> Int32) (H : Heap) (locs : List Loc) (ls : Array Slot), (ws_X10_grass_213 post K134 K142 K169 aG nG qO qQ) x1 x2 x4 x5 x6 x7 x8 jC bL bY jD mLn oF rP dQ sW uZ vY -> va_P (dC, dI) classes (aBY cI cC cZ cB cJ a_m nY sJ eG iY lY jR jW jZ jO oQ bR aY jQ gY iJ mQ lJ jA bG mK jB mW mJ eJ dG bT aG jC bL bY jD mLn oF rP dQ aJ aB bW bZ aR aE bI aW bU fJ dO bM bQ bO jY oX nG qO sW qQ uZ vY) H -> va_D A (aBY cI cC cZ cB cJ a_m nY sJ eG iY lY jR jW jZ jO oQ bR aY jQ gY iJ mQ lJ jA bG mK jB mW mJ eJ dG bT aG jC bL bY jD mLn oF rP dQ aJ aB bW bZ aR aE bI aW bU fJ dO bM bQ bO jY oX nG qO sW qQ uZ vY) -> va_S A s.heap H locs -> lv_has ls 9 [(0, .ref a_m), (1, .int x1), (2, .int x2), (4, .int x4), (5, .int x5), (6, .int x6), (7, .int x7), (8, .int x8)] -> W p l e aDt s m args below meth c H locs 0 0 (MQ below (aEa dC dI cI cC cZ cB cJ A a_m nY sJ eG iY lY jR jW jZ jO oQ bR aY jQ gY iJ mQ lJ jA bG mK jB mW mJ eJ dG bT aG aJ aB bW bZ aR aE bI aW bU fJ dO bM bQ bO jY oX nG qO qQ post) args s 0 0 A) (F0 m 213 ls []) := by
  obtain ⟨hx, hb, hr, hml, hown, hts, hlocks, hA, hK, hN, tL, tM, hZL, hTL, hZM, hTM, hZX⟩ := id C0
  intro x1 x2 x4 x5 x6 x7 x8 jC bL bY jD mLn oF rP dQ sW uZ vY H locs ls hp hP hD hS hl
  unfold ws_X10_grass_213 at hp
  obtain ⟨v_23, ev_23⟩ : ∃ y : Int32, y = x8 + 1 := ⟨_, rfl⟩
  refine lv_iinc (v := v_23) (lv' := [(8, .int v_23), (0, .ref a_m), (1, .int x1), (2, .int x2), (4, .int x4), (5, .int x5), (6, .int x6), (7, .int x7)]) hx hb aQC.2.2.2.2.2.1 hl (k := 7) rfl (by rw [ev_23]; rfl) (by decide) rfl (fun ls hl => ?_)
  have hp := hp v_23 ev_23
  refine lv_goto (tgt := 169) hx hb aQC.2.2.2.2.2.2.1 (by decide) ?_
  exact hK169 x1 x2 x4 x5 x6 x7 v_23 jC bL bY jD mLn oF rP dQ sW uZ vY H locs ls hp hP hD hS (lv_sub hl [1, 2, 3, 4, 5, 6, 7, 0] rfl)
def ws_X10_grass_169 (post : Int32 -> Int32 -> Int32 -> Int32 -> Nat -> Int32 -> Int32 -> Int32 -> Int32 -> (Nat -> Int32) -> (Nat -> Int32) -> (Nat -> Int32) -> Prop) (K134 : Int32 -> Int32 -> Int32 -> Int32 -> Int32 -> Int32 -> Int32 -> Nat -> Int32 -> Int32 -> Int32 -> Int32 -> (Nat -> Int32) -> (Nat -> Int32) -> (Nat -> Int32) -> Prop) (K142 : Int32 -> Int32 -> Int32 -> Int32 -> Int32 -> Int32 -> Int32 -> Int32 -> Nat -> Int32 -> Int32 -> Int32 -> Int32 -> (Nat -> Int32) -> (Nat -> Int32) -> (Nat -> Int32) -> Prop) (next : Int32 -> Int32 -> Int32 -> Int32 -> Int32 -> Int32 -> Int32 -> Int32 -> Int32 -> Int32 -> Nat -> Int32 -> Int32 -> Int32 -> Int32 -> (Nat -> Int32) -> (Nat -> Int32) -> (Nat -> Int32) -> Prop) (aG : Int32) (nG qO qQ : Nat -> Int32) (x1 x2 x4 x5 x6 x7 x8 jC bL bY : Int32) (jD : Nat) (mLn oF rP dQ : Int32) (sW uZ vY : Nat -> Int32) : Prop := (aG <= x8 -> ws_X10_grass_219 post K134 K142 aG nG qO qQ x1 x2 x4 x5 x6 x7 jC bL bY jD mLn oF rP dQ sW uZ vY) /\ (¬ aG <= x8 -> ((x2 - 1) <= x5 -> ws_X10_grass_219 post K134 K142 aG nG qO qQ x1 x2 x4 x5 x6 x7 jC bL bY jD mLn oF rP dQ sW uZ vY) /\ (¬ (x2 - 1) <= x5 -> (x8 = x6 -> ws_X10_grass_213 post K134 K142 next aG nG qO qQ x1 x2 x4 x5 x6 x7 x8 jC bL bY jD mLn oF rP dQ sW uZ vY) /\ (¬ x8 = x6 -> ∀ v_24 : Int32, v_24 = 8 * (x5 + 1) -> ∀ v_25 : Int32, v_25 = v_24 + x8 -> vp_in v_25 48 /\ (∀ v_26 : Int32, v_26 = x7 + (vY v_25.toNatClampNeg) -> ws_X10_grass_213 post K134 K142 next aG nG qO qQ x1 x2 x4 x5 x6 v_26 x8 jC bL bY jD mLn oF rP dQ sW uZ vY))))
noncomputable def wb_X10_grass_169 (post : Int32 -> Int32 -> Int32 -> Int32 -> Nat -> Int32 -> Int32 -> Int32 -> Int32 -> (Nat -> Int32) -> (Nat -> Int32) -> (Nat -> Int32) -> Prop) (K134 : Int32 -> Int32 -> Int32 -> Int32 -> Int32 -> Int32 -> Int32 -> Nat -> Int32 -> Int32 -> Int32 -> Int32 -> (Nat -> Int32) -> (Nat -> Int32) -> (Nat -> Int32) -> Prop) (K142 : Int32 -> Int32 -> Int32 -> Int32 -> Int32 -> Int32 -> Int32 -> Int32 -> Nat -> Int32 -> Int32 -> Int32 -> Int32 -> (Nat -> Int32) -> (Nat -> Int32) -> (Nat -> Int32) -> Prop) (aG : Int32) (nG qO qQ : Nat -> Int32) : Nat -> Int32 -> Int32 -> Int32 -> Int32 -> Int32 -> Int32 -> Int32 -> Int32 -> Int32 -> Int32 -> Nat -> Int32 -> Int32 -> Int32 -> Int32 -> (Nat -> Int32) -> (Nat -> Int32) -> (Nat -> Int32) -> Prop := fun n => Nat.rec (motive := fun _ => Int32 -> Int32 -> Int32 -> Int32 -> Int32 -> Int32 -> Int32 -> Int32 -> Int32 -> Int32 -> Nat -> Int32 -> Int32 -> Int32 -> Int32 -> (Nat -> Int32) -> (Nat -> Int32) -> (Nat -> Int32) -> Prop) (fun _ _ _ _ _ _ _ _ _ _ _ _ _ _ _ _ _ _ => False) (fun _ ih => ws_X10_grass_169 post K134 K142 ih aG nG qO qQ) n
set_option maxHeartbeats 4000000 in
set_option maxRecDepth 100000 in
theorem ks_X10_grass_169 (C0 : gc aAu (some .int) 9 zX (dC, dI) (tyl cI cC cZ cB cJ) A p s m args meth c) {K134 : Int32 -> Int32 -> Int32 -> Int32 -> Int32 -> Int32 -> Int32 -> Nat -> Int32 -> Int32 -> Int32 -> Int32 -> (Nat -> Int32) -> (Nat -> Int32) -> (Nat -> Int32) -> Prop} {K142 : Int32 -> Int32 -> Int32 -> Int32 -> Int32 -> Int32 -> Int32 -> Int32 -> Nat -> Int32 -> Int32 -> Int32 -> Int32 -> (Nat -> Int32) -> (Nat -> Int32) -> (Nat -> Int32) -> Prop} {next : Int32 -> Int32 -> Int32 -> Int32 -> Int32 -> Int32 -> Int32 -> Int32 -> Int32 -> Int32 -> Nat -> Int32 -> Int32 -> Int32 -> Int32 -> (Nat -> Int32) -> (Nat -> Int32) -> (Nat -> Int32) -> Prop} (hK134 : ∀ (x1 : Int32) (x2 : Int32) (x4 : Int32) (x5 : Int32) (jC : Int32) (bL : Int32) (bY : Int32) (jD : Nat) (mLn : Int32) (oF : Int32) (rP : Int32) (dQ : Int32) (sW : Nat -> Int32) (uZ : Nat -> Int32) (vY : Nat -> Int32) (H : Heap) (locs : List Loc) (ls : Array Slot), K134 x1 x2 x4 x5 jC bL bY jD mLn oF rP dQ sW uZ vY -> va_P (dC, dI) classes (aBY cI cC cZ cB cJ a_m nY sJ eG iY lY jR jW jZ jO oQ bR aY jQ gY iJ mQ lJ jA bG mK jB mW mJ eJ dG bT aG jC bL bY jD mLn oF rP dQ aJ aB bW bZ aR aE bI aW bU fJ dO bM bQ bO jY oX nG qO sW qQ uZ vY) H -> va_D A (aBY cI cC cZ cB cJ a_m nY sJ eG iY lY jR jW jZ jO oQ bR aY jQ gY iJ mQ lJ jA bG mK jB mW mJ eJ dG bT aG jC bL bY jD mLn oF rP dQ aJ aB bW bZ aR aE bI aW bU fJ dO bM bQ bO jY oX nG qO sW qQ uZ vY) -> va_S A s.heap H locs -> lv_has ls 9 [(0, .ref a_m), (1, .int x1), (2, .int x2), (4, .int x4), (5, .int x5)] -> W p l e aDt s m args below meth c H locs 0 0 (MQ below (aEa dC dI cI cC cZ cB cJ A a_m nY sJ eG iY lY jR jW jZ jO oQ bR aY jQ gY iJ mQ lJ jA bG mK jB mW mJ eJ dG bT aG aJ aB bW bZ aR aE bI aW bU fJ dO bM bQ bO jY oX nG qO qQ post) args s 0 0 A) (F0 m 134 ls [])) (hK142 : ∀ (x1 : Int32) (x2 : Int32) (x4 : Int32) (x5 : Int32) (x6 : Int32) (jC : Int32) (bL : Int32) (bY : Int32) (jD : Nat) (mLn : Int32) (oF : Int32) (rP : Int32) (dQ : Int32) (sW : Nat -> Int32) (uZ : Nat -> Int32) (vY : Nat -> Int32) (H : Heap) (locs : List Loc) (ls : Array Slot), K142 x1 x2 x4 x5 x6 jC bL bY jD mLn oF rP dQ sW uZ vY -> va_P (dC, dI) classes (aBY cI cC cZ cB cJ a_m nY sJ eG iY lY jR jW jZ jO oQ bR aY jQ gY iJ mQ lJ jA bG mK jB mW mJ eJ dG bT aG jC bL bY jD mLn oF rP dQ aJ aB bW bZ aR aE bI aW bU fJ dO bM bQ bO jY oX nG qO sW qQ uZ vY) H -> va_D A (aBY cI cC cZ cB cJ a_m nY sJ eG iY lY jR jW jZ jO oQ bR aY jQ gY iJ mQ lJ jA bG mK jB mW mJ eJ dG bT aG jC bL bY jD mLn oF rP dQ aJ aB bW bZ aR aE bI aW bU fJ dO bM bQ bO jY oX nG qO sW qQ uZ vY) -> va_S A s.heap H locs -> lv_has ls 9 [(0, .ref a_m), (1, .int x1), (2, .int x2), (4, .int x4), (5, .int x5), (6, .int x6)] -> W p l e aDt s m args below meth c H locs 0 0 (MQ below (aEa dC dI cI cC cZ cB cJ A a_m nY sJ eG iY lY jR jW jZ jO oQ bR aY jQ gY iJ mQ lJ jA bG mK jB mW mJ eJ dG bT aG aJ aB bW bZ aR aE bI aW bU fJ dO bM bQ bO jY oX nG qO qQ post) args s 0 0 A) (F0 m 142 ls [])) (hKn : ∀ (x1 : Int32) (x2 : Int32) (x4 : Int32) (x5 : Int32) (x6 : Int32) (x7 : Int32) (x8 : Int32) (jC : Int32) (bL : Int32) (bY : Int32) (jD : Nat) (mLn : Int32) (oF : Int32) (rP : Int32) (dQ : Int32) (sW : Nat -> Int32) (uZ : Nat -> Int32) (vY : Nat -> Int32) (H : Heap) (locs : List Loc) (ls : Array Slot), next x1 x2 x4 x5 x6 x7 x8 jC bL bY jD mLn oF rP dQ sW uZ vY -> va_P (dC, dI) classes (aBY cI cC cZ cB cJ a_m nY sJ eG iY lY jR jW jZ jO oQ bR aY jQ gY iJ mQ lJ jA bG mK jB mW mJ eJ dG bT aG jC bL bY jD mLn oF rP dQ aJ aB bW bZ aR aE bI aW bU fJ dO bM bQ bO jY oX nG qO sW qQ uZ vY) H -> va_D A (aBY cI cC cZ cB cJ a_m nY sJ eG iY lY jR jW jZ jO oQ bR aY jQ gY iJ mQ lJ jA bG mK jB mW mJ eJ dG bT aG jC bL bY jD mLn oF rP dQ aJ aB bW bZ aR aE bI aW bU fJ dO bM bQ bO jY oX nG qO sW qQ uZ vY) -> va_S A s.heap H locs -> lv_has ls 9 [(0, .ref a_m), (1, .int x1), (2, .int x2), (4, .int x4), (5, .int x5), (6, .int x6), (7, .int x7), (8, .int x8)] -> W p l e aDt s m args below meth c H locs 0 0 (MQ below (aEa dC dI cI cC cZ cB cJ A a_m nY sJ eG iY lY jR jW jZ jO oQ bR aY jQ gY iJ mQ lJ jA bG mK jB mW mJ eJ dG bT aG aJ aB bW bZ aR aE bI aW bU fJ dO bM bQ bO jY oX nG qO qQ post) args s 0 0 A) (F0 m 169 ls [])) : ∀ (x1 x2 x4 x5 x6 x7 x8 jC bL bY : Int32) (jD : Nat) (mLn oF rP dQ : Int32) (sW uZ vY : Nat -> Int32) (H : Heap) (locs : List Loc) (ls : Array Slot), (ws_X10_grass_169 post K134 K142 next aG nG qO qQ) x1 x2 x4 x5 x6 x7 x8 jC bL bY jD mLn oF rP dQ sW uZ vY -> va_P (dC, dI) classes (aBY cI cC cZ cB cJ a_m nY sJ eG iY lY jR jW jZ jO oQ bR aY jQ gY iJ mQ lJ jA bG mK jB mW mJ eJ dG bT aG jC bL bY jD mLn oF rP dQ aJ aB bW bZ aR aE bI aW bU fJ dO bM bQ bO jY oX nG qO sW qQ uZ vY) H -> va_D A (aBY cI cC cZ cB cJ a_m nY sJ eG iY lY jR jW jZ jO oQ bR aY jQ gY iJ mQ lJ jA bG mK jB mW mJ eJ dG bT aG jC bL bY jD mLn oF rP dQ aJ aB bW bZ aR aE bI aW bU fJ dO bM bQ bO jY oX nG qO sW qQ uZ vY) -> va_S A s.heap H locs -> lv_has ls 9 [(0, .ref a_m), (1, .int x1), (2, .int x2), (4, .int x4), (5, .int x5), (6, .int x6), (7, .int x7), (8, .int x8)] -> W p l e aDt s m args below meth c H locs 0 0 (MQ below (aEa dC dI cI cC cZ cB cJ A a_m nY sJ eG iY lY jR jW jZ jO oQ bR aY jQ gY iJ mQ lJ jA bG mK jB mW mJ eJ dG bT aG aJ aB bW bZ aR aE bI aW bU fJ dO bM bQ bO jY oX nG qO qQ post) args s 0 0 A) (F0 m 169 ls []) := by
  obtain ⟨hx, hb, hr, hml, hown, hts, hlocks, hA, hK, hN, tL, tM, hZL, hTL, hZM, hTM, hZX⟩ := id C0
  intro x1 x2 x4 x5 x6 x7 x8 jC bL bY jD mLn oF rP dQ sW uZ vY H locs ls hp hP hD hS hl
  unfold ws_X10_grass_169 at hp
  refine lv_iload hx hb aQA.2.2.2.2.2.2.2.2.2.2.2.2.1 (lv_at hl 7 rfl) ?_
  refine lv_aload_n hx hb aQA.2.2.2.2.2.2.2.2.2.2.2.2.2.1 rfl (lv_at hl 0 rfl) ?_
  refine va_get (D := (dC, dI)) (ci := 10) (v := .int aG) (C := zX) (T := aBe) (N := 51) hx hb hts aAt hown hK hP 0 rfl rfl 6 (lbz rfl) (hts _ q_666) (fun _ h9 => h9) rfl aQA.2.2.2.2.2.2.2.2.2.2.2.2.2.2.1 ?_
  refine lv_icmp_ge (tgt := 219) hx hb aQA.2.2.2.2.2.2.2.2.2.2.2.2.2.2.2 (by decide) (fun hc => ?_) (fun hc => ?_)
  · have hp := hp.1 hc
    exact ks_X10_grass_219 C0 hK134 hK142 x1 x2 x4 x5 x6 x7 jC bL bY jD mLn oF rP dQ sW uZ vY H locs ls hp hP hD hS (lv_sub hl [0, 1, 2, 3, 4, 5, 6] rfl)
  · have hp := hp.2 hc
    refine lv_iload hx hb aQB.1 (lv_at hl 4 rfl) ?_
    refine lv_iload_n hx hb aQB.2.1 rfl (lv_at hl 2 rfl) ?_
    refine lv_iconst (v := 1) hx hb aQB.2.2.1 aDx ?_
    refine lv_isub hx hb aQB.2.2.2.1 ?_
    refine lv_icmp_ge (tgt := 219) hx hb aQB.2.2.2.2.1 (by decide) (fun hc => ?_) (fun hc => ?_)
    · have hp := hp.1 hc
      exact ks_X10_grass_219 C0 hK134 hK142 x1 x2 x4 x5 x6 x7 jC bL bY jD mLn oF rP dQ sW uZ vY H locs ls hp hP hD hS (lv_sub hl [0, 1, 2, 3, 4, 5, 6] rfl)
    · have hp := hp.2 hc
      refine lv_iload hx hb aQB.2.2.2.2.2.1 (lv_at hl 7 rfl) ?_
      refine lv_iload hx hb aQB.2.2.2.2.2.2.1 (lv_at hl 5 rfl) ?_
      refine lv_icmp_eq (tgt := 213) hx hb aQB.2.2.2.2.2.2.2.1 (by decide) (fun hc => ?_) (fun hc => ?_)
      · have hp := hp.1 hc
        exact ks_X10_grass_213 C0 hK134 hK142 hKn x1 x2 x4 x5 x6 x7 x8 jC bL bY jD mLn oF rP dQ sW uZ vY H locs ls hp hP hD hS (lv_sub hl [0, 1, 2, 3, 4, 5, 6, 7] rfl)
      · have hp := hp.2 hc
        refine lv_iload hx hb aQB.2.2.2.2.2.2.2.2.1 (lv_at hl 6 rfl) ?_
        refine lv_aload_n hx hb aQB.2.2.2.2.2.2.2.2.2.1 rfl (lv_at hl 0 rfl) ?_
        refine va_get (D := (dC, dI)) (ci := 10) (v := .ref mW) (C := zX) (T := aBe) (N := 51) hx hb hts aAt hown hK hP 0 rfl rfl 45 (lbz rfl) (hts _ q_953) (fun _ h9 => h9) rfl aQB.2.2.2.2.2.2.2.2.2.2.1 ?_
        refine lv_bipush (v := 8) hx hb aQB.2.2.2.2.2.2.2.2.2.2.2.1 bp_8 ?_
        refine lv_iload hx hb aQB.2.2.2.2.2.2.2.2.2.2.2.2.1 (lv_at hl 4 rfl) ?_
        refine lv_iconst (v := 1) hx hb aQB.2.2.2.2.2.2.2.2.2.2.2.2.2.1 aDx ?_
        refine lv_iadd hx hb aQB.2.2.2.2.2.2.2.2.2.2.2.2.2.2.1 ?_
        refine lv_imul hx hb aQB.2.2.2.2.2.2.2.2.2.2.2.2.2.2.2 ?_
        refine lv_topi (fun v_24 ev_24 => ?_)
        have hp := hp v_24 ev_24
        refine lv_iload hx hb aQC.1 (lv_at hl 7 rfl) ?_
        refine lv_iadd hx hb aQC.2.1 ?_
        refine lv_topi (fun v_25 ev_25 => ?_)
        have hp := hp v_25 ev_25
        have hin := hp.1
        have hp := hp.2
        refine va_iald hx hb hK hP 6 0 rfl rfl hin aQC.2.2.1 ?_
        refine lv_iadd hx hb aQC.2.2.2.1 ?_
        refine lv_topi (fun v_26 ev_26 => ?_)
        have hp := hp v_26 ev_26
        refine lv_istore (lv' := [(7, .int v_26), (0, .ref a_m), (1, .int x1), (2, .int x2), (4, .int x4), (5, .int x5), (6, .int x6), (8, .int x8)]) hx hb aQC.2.2.2.2.1 hl (by decide) rfl (fun ls hl => ?_)
        exact ks_X10_grass_213 C0 hK134 hK142 hKn x1 x2 x4 x5 x6 v_26 x8 jC bL bY jD mLn oF rP dQ sW uZ vY H locs ls hp hP hD hS (lv_sub hl [1, 2, 3, 4, 5, 6, 0, 7] rfl)
set_option maxHeartbeats 4000000 in
set_option maxRecDepth 100000 in
theorem kb_X10_grass_169 (C0 : gc aAu (some .int) 9 zX (dC, dI) (tyl cI cC cZ cB cJ) A p s m args meth c) {K134 : Int32 -> Int32 -> Int32 -> Int32 -> Int32 -> Int32 -> Int32 -> Nat -> Int32 -> Int32 -> Int32 -> Int32 -> (Nat -> Int32) -> (Nat -> Int32) -> (Nat -> Int32) -> Prop} {K142 : Int32 -> Int32 -> Int32 -> Int32 -> Int32 -> Int32 -> Int32 -> Int32 -> Nat -> Int32 -> Int32 -> Int32 -> Int32 -> (Nat -> Int32) -> (Nat -> Int32) -> (Nat -> Int32) -> Prop} (hK134 : ∀ (x1 : Int32) (x2 : Int32) (x4 : Int32) (x5 : Int32) (jC : Int32) (bL : Int32) (bY : Int32) (jD : Nat) (mLn : Int32) (oF : Int32) (rP : Int32) (dQ : Int32) (sW : Nat -> Int32) (uZ : Nat -> Int32) (vY : Nat -> Int32) (H : Heap) (locs : List Loc) (ls : Array Slot), K134 x1 x2 x4 x5 jC bL bY jD mLn oF rP dQ sW uZ vY -> va_P (dC, dI) classes (aBY cI cC cZ cB cJ a_m nY sJ eG iY lY jR jW jZ jO oQ bR aY jQ gY iJ mQ lJ jA bG mK jB mW mJ eJ dG bT aG jC bL bY jD mLn oF rP dQ aJ aB bW bZ aR aE bI aW bU fJ dO bM bQ bO jY oX nG qO sW qQ uZ vY) H -> va_D A (aBY cI cC cZ cB cJ a_m nY sJ eG iY lY jR jW jZ jO oQ bR aY jQ gY iJ mQ lJ jA bG mK jB mW mJ eJ dG bT aG jC bL bY jD mLn oF rP dQ aJ aB bW bZ aR aE bI aW bU fJ dO bM bQ bO jY oX nG qO sW qQ uZ vY) -> va_S A s.heap H locs -> lv_has ls 9 [(0, .ref a_m), (1, .int x1), (2, .int x2), (4, .int x4), (5, .int x5)] -> W p l e aDt s m args below meth c H locs 0 0 (MQ below (aEa dC dI cI cC cZ cB cJ A a_m nY sJ eG iY lY jR jW jZ jO oQ bR aY jQ gY iJ mQ lJ jA bG mK jB mW mJ eJ dG bT aG aJ aB bW bZ aR aE bI aW bU fJ dO bM bQ bO jY oX nG qO qQ post) args s 0 0 A) (F0 m 134 ls [])) (hK142 : ∀ (x1 : Int32) (x2 : Int32) (x4 : Int32) (x5 : Int32) (x6 : Int32) (jC : Int32) (bL : Int32) (bY : Int32) (jD : Nat) (mLn : Int32) (oF : Int32) (rP : Int32) (dQ : Int32) (sW : Nat -> Int32) (uZ : Nat -> Int32) (vY : Nat -> Int32) (H : Heap) (locs : List Loc) (ls : Array Slot), K142 x1 x2 x4 x5 x6 jC bL bY jD mLn oF rP dQ sW uZ vY -> va_P (dC, dI) classes (aBY cI cC cZ cB cJ a_m nY sJ eG iY lY jR jW jZ jO oQ bR aY jQ gY iJ mQ lJ jA bG mK jB mW mJ eJ dG bT aG jC bL bY jD mLn oF rP dQ aJ aB bW bZ aR aE bI aW bU fJ dO bM bQ bO jY oX nG qO sW qQ uZ vY) H -> va_D A (aBY cI cC cZ cB cJ a_m nY sJ eG iY lY jR jW jZ jO oQ bR aY jQ gY iJ mQ lJ jA bG mK jB mW mJ eJ dG bT aG jC bL bY jD mLn oF rP dQ aJ aB bW bZ aR aE bI aW bU fJ dO bM bQ bO jY oX nG qO sW qQ uZ vY) -> va_S A s.heap H locs -> lv_has ls 9 [(0, .ref a_m), (1, .int x1), (2, .int x2), (4, .int x4), (5, .int x5), (6, .int x6)] -> W p l e aDt s m args below meth c H locs 0 0 (MQ below (aEa dC dI cI cC cZ cB cJ A a_m nY sJ eG iY lY jR jW jZ jO oQ bR aY jQ gY iJ mQ lJ jA bG mK jB mW mJ eJ dG bT aG aJ aB bW bZ aR aE bI aW bU fJ dO bM bQ bO jY oX nG qO qQ post) args s 0 0 A) (F0 m 142 ls [])) : ∀ (n : Nat), ∀ (x1 x2 x4 x5 x6 x7 x8 jC bL bY : Int32) (jD : Nat) (mLn oF rP dQ : Int32) (sW uZ vY : Nat -> Int32) (H : Heap) (locs : List Loc) (ls : Array Slot), (wb_X10_grass_169 post K134 K142 aG nG qO qQ n) x1 x2 x4 x5 x6 x7 x8 jC bL bY jD mLn oF rP dQ sW uZ vY -> va_P (dC, dI) classes (aBY cI cC cZ cB cJ a_m nY sJ eG iY lY jR jW jZ jO oQ bR aY jQ gY iJ mQ lJ jA bG mK jB mW mJ eJ dG bT aG jC bL bY jD mLn oF rP dQ aJ aB bW bZ aR aE bI aW bU fJ dO bM bQ bO jY oX nG qO sW qQ uZ vY) H -> va_D A (aBY cI cC cZ cB cJ a_m nY sJ eG iY lY jR jW jZ jO oQ bR aY jQ gY iJ mQ lJ jA bG mK jB mW mJ eJ dG bT aG jC bL bY jD mLn oF rP dQ aJ aB bW bZ aR aE bI aW bU fJ dO bM bQ bO jY oX nG qO sW qQ uZ vY) -> va_S A s.heap H locs -> lv_has ls 9 [(0, .ref a_m), (1, .int x1), (2, .int x2), (4, .int x4), (5, .int x5), (6, .int x6), (7, .int x7), (8, .int x8)] -> W p l e aDt s m args below meth c H locs 0 0 (MQ below (aEa dC dI cI cC cZ cB cJ A a_m nY sJ eG iY lY jR jW jZ jO oQ bR aY jQ gY iJ mQ lJ jA bG mK jB mW mJ eJ dG bT aG aJ aB bW bZ aR aE bI aW bU fJ dO bM bQ bO jY oX nG qO qQ post) args s 0 0 A) (F0 m 169 ls []) := by
  intro n
  induction n with
  | zero =>
    intro x1 x2 x4 x5 x6 x7 x8 jC bL bY jD mLn oF rP dQ sW uZ vY H locs ls hp
    exact False.elim hp
  | succ n ih =>
    intro x1 x2 x4 x5 x6 x7 x8 jC bL bY jD mLn oF rP dQ sW uZ vY H locs ls hp
    exact ks_X10_grass_169 C0 hK134 hK142 ih x1 x2 x4 x5 x6 x7 x8 jC bL bY jD mLn oF rP dQ sW uZ vY H locs ls hp
def ws_X10_grass_164 (post : Int32 -> Int32 -> Int32 -> Int32 -> Nat -> Int32 -> Int32 -> Int32 -> Int32 -> (Nat -> Int32) -> (Nat -> Int32) -> (Nat -> Int32) -> Prop) (K134 : Int32 -> Int32 -> Int32 -> Int32 -> Int32 -> Int32 -> Int32 -> Nat -> Int32 -> Int32 -> Int32 -> Int32 -> (Nat -> Int32) -> (Nat -> Int32) -> (Nat -> Int32) -> Prop) (K142 : Int32 -> Int32 -> Int32 -> Int32 -> Int32 -> Int32 -> Int32 -> Int32 -> Nat -> Int32 -> Int32 -> Int32 -> Int32 -> (Nat -> Int32) -> (Nat -> Int32) -> (Nat -> Int32) -> Prop) (aG : Int32) (nG qO qQ : Nat -> Int32) (x1 x2 x4 x5 x6 k0 jC bL bY : Int32) (jD : Nat) (mLn oF rP dQ : Int32) (sW uZ vY : Nat -> Int32) : Prop := ∃ n : Nat, wb_X10_grass_169 post K134 K142 aG nG qO qQ n x1 x2 x4 x5 x6 k0 0 jC bL bY jD mLn oF rP dQ sW uZ vY
set_option maxHeartbeats 4000000 in
set_option maxRecDepth 100000 in
theorem ks_X10_grass_164 (C0 : gc aAu (some .int) 9 zX (dC, dI) (tyl cI cC cZ cB cJ) A p s m args meth c) {K134 : Int32 -> Int32 -> Int32 -> Int32 -> Int32 -> Int32 -> Int32 -> Nat -> Int32 -> Int32 -> Int32 -> Int32 -> (Nat -> Int32) -> (Nat -> Int32) -> (Nat -> Int32) -> Prop} {K142 : Int32 -> Int32 -> Int32 -> Int32 -> Int32 -> Int32 -> Int32 -> Int32 -> Nat -> Int32 -> Int32 -> Int32 -> Int32 -> (Nat -> Int32) -> (Nat -> Int32) -> (Nat -> Int32) -> Prop} (hK134 : ∀ (x1 : Int32) (x2 : Int32) (x4 : Int32) (x5 : Int32) (jC : Int32) (bL : Int32) (bY : Int32) (jD : Nat) (mLn : Int32) (oF : Int32) (rP : Int32) (dQ : Int32) (sW : Nat -> Int32) (uZ : Nat -> Int32) (vY : Nat -> Int32) (H : Heap) (locs : List Loc) (ls : Array Slot), K134 x1 x2 x4 x5 jC bL bY jD mLn oF rP dQ sW uZ vY -> va_P (dC, dI) classes (aBY cI cC cZ cB cJ a_m nY sJ eG iY lY jR jW jZ jO oQ bR aY jQ gY iJ mQ lJ jA bG mK jB mW mJ eJ dG bT aG jC bL bY jD mLn oF rP dQ aJ aB bW bZ aR aE bI aW bU fJ dO bM bQ bO jY oX nG qO sW qQ uZ vY) H -> va_D A (aBY cI cC cZ cB cJ a_m nY sJ eG iY lY jR jW jZ jO oQ bR aY jQ gY iJ mQ lJ jA bG mK jB mW mJ eJ dG bT aG jC bL bY jD mLn oF rP dQ aJ aB bW bZ aR aE bI aW bU fJ dO bM bQ bO jY oX nG qO sW qQ uZ vY) -> va_S A s.heap H locs -> lv_has ls 9 [(0, .ref a_m), (1, .int x1), (2, .int x2), (4, .int x4), (5, .int x5)] -> W p l e aDt s m args below meth c H locs 0 0 (MQ below (aEa dC dI cI cC cZ cB cJ A a_m nY sJ eG iY lY jR jW jZ jO oQ bR aY jQ gY iJ mQ lJ jA bG mK jB mW mJ eJ dG bT aG aJ aB bW bZ aR aE bI aW bU fJ dO bM bQ bO jY oX nG qO qQ post) args s 0 0 A) (F0 m 134 ls [])) (hK142 : ∀ (x1 : Int32) (x2 : Int32) (x4 : Int32) (x5 : Int32) (x6 : Int32) (jC : Int32) (bL : Int32) (bY : Int32) (jD : Nat) (mLn : Int32) (oF : Int32) (rP : Int32) (dQ : Int32) (sW : Nat -> Int32) (uZ : Nat -> Int32) (vY : Nat -> Int32) (H : Heap) (locs : List Loc) (ls : Array Slot), K142 x1 x2 x4 x5 x6 jC bL bY jD mLn oF rP dQ sW uZ vY -> va_P (dC, dI) classes (aBY cI cC cZ cB cJ a_m nY sJ eG iY lY jR jW jZ jO oQ bR aY jQ gY iJ mQ lJ jA bG mK jB mW mJ eJ dG bT aG jC bL bY jD mLn oF rP dQ aJ aB bW bZ aR aE bI aW bU fJ dO bM bQ bO jY oX nG qO sW qQ uZ vY) H -> va_D A (aBY cI cC cZ cB cJ a_m nY sJ eG iY lY jR jW jZ jO oQ bR aY jQ gY iJ mQ lJ jA bG mK jB mW mJ eJ dG bT aG jC bL bY jD mLn oF rP dQ aJ aB bW bZ aR aE bI aW bU fJ dO bM bQ bO jY oX nG qO sW qQ uZ vY) -> va_S A s.heap H locs -> lv_has ls 9 [(0, .ref a_m), (1, .int x1), (2, .int x2), (4, .int x4), (5, .int x5), (6, .int x6)] -> W p l e aDt s m args below meth c H locs 0 0 (MQ below (aEa dC dI cI cC cZ cB cJ A a_m nY sJ eG iY lY jR jW jZ jO oQ bR aY jQ gY iJ mQ lJ jA bG mK jB mW mJ eJ dG bT aG aJ aB bW bZ aR aE bI aW bU fJ dO bM bQ bO jY oX nG qO qQ post) args s 0 0 A) (F0 m 142 ls [])) : ∀ (x1 x2 x4 x5 x6 k0 jC bL bY : Int32) (jD : Nat) (mLn oF rP dQ : Int32) (sW uZ vY : Nat -> Int32) (H : Heap) (locs : List Loc) (ls : Array Slot), (ws_X10_grass_164 post K134 K142 aG nG qO qQ) x1 x2 x4 x5 x6 k0 jC bL bY jD mLn oF rP dQ sW uZ vY -> va_P (dC, dI) classes (aBY cI cC cZ cB cJ a_m nY sJ eG iY lY jR jW jZ jO oQ bR aY jQ gY iJ mQ lJ jA bG mK jB mW mJ eJ dG bT aG jC bL bY jD mLn oF rP dQ aJ aB bW bZ aR aE bI aW bU fJ dO bM bQ bO jY oX nG qO sW qQ uZ vY) H -> va_D A (aBY cI cC cZ cB cJ a_m nY sJ eG iY lY jR jW jZ jO oQ bR aY jQ gY iJ mQ lJ jA bG mK jB mW mJ eJ dG bT aG jC bL bY jD mLn oF rP dQ aJ aB bW bZ aR aE bI aW bU fJ dO bM bQ bO jY oX nG qO sW qQ uZ vY) -> va_S A s.heap H locs -> lv_has ls 9 [(0, .ref a_m), (1, .int x1), (2, .int x2), (4, .int x4), (5, .int x5), (6, .int x6)] -> W p l e aDt s m args below meth c H locs 0 0 (MQ below (aEa dC dI cI cC cZ cB cJ A a_m nY sJ eG iY lY jR jW jZ jO oQ bR aY jQ gY iJ mQ lJ jA bG mK jB mW mJ eJ dG bT aG aJ aB bW bZ aR aE bI aW bU fJ dO bM bQ bO jY oX nG qO qQ post) args s 0 0 A) (F0 m 164 ls [.int k0]) := by
  obtain ⟨hx, hb, hr, hml, hown, hts, hlocks, hA, hK, hN, tL, tM, hZL, hTL, hZM, hTM, hZX⟩ := id C0
  intro x1 x2 x4 x5 x6 k0 jC bL bY jD mLn oF rP dQ sW uZ vY H locs ls hp hP hD hS hl
  unfold ws_X10_grass_164 at hp
  refine lv_istore (lv' := [(7, .int k0), (0, .ref a_m), (1, .int x1), (2, .int x2), (4, .int x4), (5, .int x5), (6, .int x6)]) hx hb aQA.2.2.2.2.2.2.2.2.2.1 hl (by decide) rfl (fun ls hl => ?_)
  refine lv_iconst (v := 0) hx hb aQA.2.2.2.2.2.2.2.2.2.2.1 aCi ?_
  refine lv_istore (lv' := [(8, .int 0), (7, .int k0), (0, .ref a_m), (1, .int x1), (2, .int x2), (4, .int x4), (5, .int x5), (6, .int x6)]) hx hb aQA.2.2.2.2.2.2.2.2.2.2.2.1 hl (by decide) rfl (fun ls hl => ?_)
  obtain ⟨n9, hp⟩ := hp
  exact kb_X10_grass_169 C0 hK134 hK142 n9 x1 x2 x4 x5 x6 k0 0 jC bL bY jD mLn oF rP dQ sW uZ vY H locs ls hp hP hD hS (lv_sub hl [2, 3, 4, 5, 6, 7, 1, 0] rfl)
def ws_X10_grass_142 (post : Int32 -> Int32 -> Int32 -> Int32 -> Nat -> Int32 -> Int32 -> Int32 -> Int32 -> (Nat -> Int32) -> (Nat -> Int32) -> (Nat -> Int32) -> Prop) (K134 : Int32 -> Int32 -> Int32 -> Int32 -> Int32 -> Int32 -> Int32 -> Nat -> Int32 -> Int32 -> Int32 -> Int32 -> (Nat -> Int32) -> (Nat -> Int32) -> (Nat -> Int32) -> Prop) (next : Int32 -> Int32 -> Int32 -> Int32 -> Int32 -> Int32 -> Int32 -> Int32 -> Nat -> Int32 -> Int32 -> Int32 -> Int32 -> (Nat -> Int32) -> (Nat -> Int32) -> (Nat -> Int32) -> Prop) (aG : Int32) (nG qO qQ : Nat -> Int32) (x1 x2 x4 x5 x6 jC bL bY : Int32) (jD : Nat) (mLn oF rP dQ : Int32) (sW uZ vY : Nat -> Int32) : Prop := (aG <= x6 -> ∀ aHe : Int32, aHe = x5 + (-1) -> K134 x1 x2 x4 aHe jC bL bY jD mLn oF rP dQ sW uZ vY) /\ (¬ aG <= x6 -> (¬ x5 = (x2 - 1) -> ws_X10_grass_164 post K134 next aG nG qO qQ x1 x2 x4 x5 x6 0 jC bL bY jD mLn oF rP dQ sW uZ vY) /\ (x5 = (x2 - 1) -> ws_X10_grass_164 post K134 next aG nG qO qQ x1 x2 x4 x5 x6 1 jC bL bY jD mLn oF rP dQ sW uZ vY))
noncomputable def wb_X10_grass_142 (post : Int32 -> Int32 -> Int32 -> Int32 -> Nat -> Int32 -> Int32 -> Int32 -> Int32 -> (Nat -> Int32) -> (Nat -> Int32) -> (Nat -> Int32) -> Prop) (K134 : Int32 -> Int32 -> Int32 -> Int32 -> Int32 -> Int32 -> Int32 -> Nat -> Int32 -> Int32 -> Int32 -> Int32 -> (Nat -> Int32) -> (Nat -> Int32) -> (Nat -> Int32) -> Prop) (aG : Int32) (nG qO qQ : Nat -> Int32) : Nat -> Int32 -> Int32 -> Int32 -> Int32 -> Int32 -> Int32 -> Int32 -> Int32 -> Nat -> Int32 -> Int32 -> Int32 -> Int32 -> (Nat -> Int32) -> (Nat -> Int32) -> (Nat -> Int32) -> Prop := fun n => Nat.rec (motive := fun _ => Int32 -> Int32 -> Int32 -> Int32 -> Int32 -> Int32 -> Int32 -> Int32 -> Nat -> Int32 -> Int32 -> Int32 -> Int32 -> (Nat -> Int32) -> (Nat -> Int32) -> (Nat -> Int32) -> Prop) (fun _ _ _ _ _ _ _ _ _ _ _ _ _ _ _ _ => False) (fun _ ih => ws_X10_grass_142 post K134 ih aG nG qO qQ) n
set_option maxHeartbeats 4000000 in
set_option maxRecDepth 100000 in
theorem ks_X10_grass_142 (C0 : gc aAu (some .int) 9 zX (dC, dI) (tyl cI cC cZ cB cJ) A p s m args meth c) {K134 : Int32 -> Int32 -> Int32 -> Int32 -> Int32 -> Int32 -> Int32 -> Nat -> Int32 -> Int32 -> Int32 -> Int32 -> (Nat -> Int32) -> (Nat -> Int32) -> (Nat -> Int32) -> Prop} {next : Int32 -> Int32 -> Int32 -> Int32 -> Int32 -> Int32 -> Int32 -> Int32 -> Nat -> Int32 -> Int32 -> Int32 -> Int32 -> (Nat -> Int32) -> (Nat -> Int32) -> (Nat -> Int32) -> Prop} (hK134 : ∀ (x1 : Int32) (x2 : Int32) (x4 : Int32) (x5 : Int32) (jC : Int32) (bL : Int32) (bY : Int32) (jD : Nat) (mLn : Int32) (oF : Int32) (rP : Int32) (dQ : Int32) (sW : Nat -> Int32) (uZ : Nat -> Int32) (vY : Nat -> Int32) (H : Heap) (locs : List Loc) (ls : Array Slot), K134 x1 x2 x4 x5 jC bL bY jD mLn oF rP dQ sW uZ vY -> va_P (dC, dI) classes (aBY cI cC cZ cB cJ a_m nY sJ eG iY lY jR jW jZ jO oQ bR aY jQ gY iJ mQ lJ jA bG mK jB mW mJ eJ dG bT aG jC bL bY jD mLn oF rP dQ aJ aB bW bZ aR aE bI aW bU fJ dO bM bQ bO jY oX nG qO sW qQ uZ vY) H -> va_D A (aBY cI cC cZ cB cJ a_m nY sJ eG iY lY jR jW jZ jO oQ bR aY jQ gY iJ mQ lJ jA bG mK jB mW mJ eJ dG bT aG jC bL bY jD mLn oF rP dQ aJ aB bW bZ aR aE bI aW bU fJ dO bM bQ bO jY oX nG qO sW qQ uZ vY) -> va_S A s.heap H locs -> lv_has ls 9 [(0, .ref a_m), (1, .int x1), (2, .int x2), (4, .int x4), (5, .int x5)] -> W p l e aDt s m args below meth c H locs 0 0 (MQ below (aEa dC dI cI cC cZ cB cJ A a_m nY sJ eG iY lY jR jW jZ jO oQ bR aY jQ gY iJ mQ lJ jA bG mK jB mW mJ eJ dG bT aG aJ aB bW bZ aR aE bI aW bU fJ dO bM bQ bO jY oX nG qO qQ post) args s 0 0 A) (F0 m 134 ls [])) (hKn : ∀ (x1 : Int32) (x2 : Int32) (x4 : Int32) (x5 : Int32) (x6 : Int32) (jC : Int32) (bL : Int32) (bY : Int32) (jD : Nat) (mLn : Int32) (oF : Int32) (rP : Int32) (dQ : Int32) (sW : Nat -> Int32) (uZ : Nat -> Int32) (vY : Nat -> Int32) (H : Heap) (locs : List Loc) (ls : Array Slot), next x1 x2 x4 x5 x6 jC bL bY jD mLn oF rP dQ sW uZ vY -> va_P (dC, dI) classes (aBY cI cC cZ cB cJ a_m nY sJ eG iY lY jR jW jZ jO oQ bR aY jQ gY iJ mQ lJ jA bG mK jB mW mJ eJ dG bT aG jC bL bY jD mLn oF rP dQ aJ aB bW bZ aR aE bI aW bU fJ dO bM bQ bO jY oX nG qO sW qQ uZ vY) H -> va_D A (aBY cI cC cZ cB cJ a_m nY sJ eG iY lY jR jW jZ jO oQ bR aY jQ gY iJ mQ lJ jA bG mK jB mW mJ eJ dG bT aG jC bL bY jD mLn oF rP dQ aJ aB bW bZ aR aE bI aW bU fJ dO bM bQ bO jY oX nG qO sW qQ uZ vY) -> va_S A s.heap H locs -> lv_has ls 9 [(0, .ref a_m), (1, .int x1), (2, .int x2), (4, .int x4), (5, .int x5), (6, .int x6)] -> W p l e aDt s m args below meth c H locs 0 0 (MQ below (aEa dC dI cI cC cZ cB cJ A a_m nY sJ eG iY lY jR jW jZ jO oQ bR aY jQ gY iJ mQ lJ jA bG mK jB mW mJ eJ dG bT aG aJ aB bW bZ aR aE bI aW bU fJ dO bM bQ bO jY oX nG qO qQ post) args s 0 0 A) (F0 m 142 ls [])) : ∀ (x1 x2 x4 x5 x6 jC bL bY : Int32) (jD : Nat) (mLn oF rP dQ : Int32) (sW uZ vY : Nat -> Int32) (H : Heap) (locs : List Loc) (ls : Array Slot), (ws_X10_grass_142 post K134 next aG nG qO qQ) x1 x2 x4 x5 x6 jC bL bY jD mLn oF rP dQ sW uZ vY -> va_P (dC, dI) classes (aBY cI cC cZ cB cJ a_m nY sJ eG iY lY jR jW jZ jO oQ bR aY jQ gY iJ mQ lJ jA bG mK jB mW mJ eJ dG bT aG jC bL bY jD mLn oF rP dQ aJ aB bW bZ aR aE bI aW bU fJ dO bM bQ bO jY oX nG qO sW qQ uZ vY) H -> va_D A (aBY cI cC cZ cB cJ a_m nY sJ eG iY lY jR jW jZ jO oQ bR aY jQ gY iJ mQ lJ jA bG mK jB mW mJ eJ dG bT aG jC bL bY jD mLn oF rP dQ aJ aB bW bZ aR aE bI aW bU fJ dO bM bQ bO jY oX nG qO sW qQ uZ vY) -> va_S A s.heap H locs -> lv_has ls 9 [(0, .ref a_m), (1, .int x1), (2, .int x2), (4, .int x4), (5, .int x5), (6, .int x6)] -> W p l e aDt s m args below meth c H locs 0 0 (MQ below (aEa dC dI cI cC cZ cB cJ A a_m nY sJ eG iY lY jR jW jZ jO oQ bR aY jQ gY iJ mQ lJ jA bG mK jB mW mJ eJ dG bT aG aJ aB bW bZ aR aE bI aW bU fJ dO bM bQ bO jY oX nG qO qQ post) args s 0 0 A) (F0 m 142 ls []) := by
  obtain ⟨hx, hb, hr, hml, hown, hts, hlocks, hA, hK, hN, tL, tM, hZL, hTL, hZM, hTM, hZX⟩ := id C0
  intro x1 x2 x4 x5 x6 jC bL bY jD mLn oF rP dQ sW uZ vY H locs ls hp hP hD hS hl
  unfold ws_X10_grass_142 at hp
  refine lv_iload hx hb aP9.2.2.2.2.2.2.2.2.2.2.2.2.2.1 (lv_at hl 5 rfl) ?_
  refine lv_aload_n hx hb aP9.2.2.2.2.2.2.2.2.2.2.2.2.2.2.1 rfl (lv_at hl 0 rfl) ?_
  refine va_get (D := (dC, dI)) (ci := 10) (v := .int aG) (C := zX) (T := aBe) (N := 51) hx hb hts aAt hown hK hP 0 rfl rfl 6 (lbz rfl) (hts _ q_666) (fun _ h9 => h9) rfl aP9.2.2.2.2.2.2.2.2.2.2.2.2.2.2.2 ?_
  refine lv_icmp_ge (tgt := 283) hx hb aQA.1 (by decide) (fun hc => ?_) (fun hc => ?_)
  · have hp := hp.1 hc
    obtain ⟨aHe, ev_15⟩ : ∃ y : Int32, y = x5 + (-1) := ⟨_, rfl⟩
    refine lv_iinc (v := aHe) (lv' := [(5, .int aHe), (0, .ref a_m), (1, .int x1), (2, .int x2), (4, .int x4), (6, .int x6)]) hx hb aQE.2.2.2.2.2.2.2.2.2.1 hl (k := 4) rfl (by rw [ev_15]; rfl) (by decide) rfl (fun ls hl => ?_)
    have hp := hp aHe ev_15
    refine lv_goto (tgt := 134) hx hb aQE.2.2.2.2.2.2.2.2.2.2.1 (by decide) ?_
    exact hK134 x1 x2 x4 aHe jC bL bY jD mLn oF rP dQ sW uZ vY H locs ls hp hP hD hS (lv_sub hl [1, 2, 3, 4, 0] rfl)
  · have hp := hp.2 hc
    refine lv_iload hx hb aQA.2.1 (lv_at hl 4 rfl) ?_
    refine lv_iload_n hx hb aQA.2.2.1 rfl (lv_at hl 2 rfl) ?_
    refine lv_iconst (v := 1) hx hb aQA.2.2.2.1 aDx ?_
    refine lv_isub hx hb aQA.2.2.2.2.1 ?_
    refine lv_icmp_ne (tgt := 163) hx hb aQA.2.2.2.2.2.1 (by decide) (fun hc => ?_) (fun hc => ?_)
    · have hp := hp.1 hc
      refine lv_iconst (v := 0) hx hb aQA.2.2.2.2.2.2.2.2.1 aCi ?_
      exact ks_X10_grass_164 C0 hK134 hKn x1 x2 x4 x5 x6 0 jC bL bY jD mLn oF rP dQ sW uZ vY H locs ls hp hP hD hS (lv_sub hl [0, 1, 2, 3, 4, 5] rfl)
    · have hp := hp.2 hc
      refine lv_iconst (v := 1) hx hb aQA.2.2.2.2.2.2.1 aDx ?_
      refine lv_goto (tgt := 164) hx hb aQA.2.2.2.2.2.2.2.1 (by decide) ?_
      exact ks_X10_grass_164 C0 hK134 hKn x1 x2 x4 x5 x6 1 jC bL bY jD mLn oF rP dQ sW uZ vY H locs ls hp hP hD hS (lv_sub hl [0, 1, 2, 3, 4, 5] rfl)
set_option maxHeartbeats 4000000 in
set_option maxRecDepth 100000 in
theorem kb_X10_grass_142 (C0 : gc aAu (some .int) 9 zX (dC, dI) (tyl cI cC cZ cB cJ) A p s m args meth c) {K134 : Int32 -> Int32 -> Int32 -> Int32 -> Int32 -> Int32 -> Int32 -> Nat -> Int32 -> Int32 -> Int32 -> Int32 -> (Nat -> Int32) -> (Nat -> Int32) -> (Nat -> Int32) -> Prop} (hK134 : ∀ (x1 : Int32) (x2 : Int32) (x4 : Int32) (x5 : Int32) (jC : Int32) (bL : Int32) (bY : Int32) (jD : Nat) (mLn : Int32) (oF : Int32) (rP : Int32) (dQ : Int32) (sW : Nat -> Int32) (uZ : Nat -> Int32) (vY : Nat -> Int32) (H : Heap) (locs : List Loc) (ls : Array Slot), K134 x1 x2 x4 x5 jC bL bY jD mLn oF rP dQ sW uZ vY -> va_P (dC, dI) classes (aBY cI cC cZ cB cJ a_m nY sJ eG iY lY jR jW jZ jO oQ bR aY jQ gY iJ mQ lJ jA bG mK jB mW mJ eJ dG bT aG jC bL bY jD mLn oF rP dQ aJ aB bW bZ aR aE bI aW bU fJ dO bM bQ bO jY oX nG qO sW qQ uZ vY) H -> va_D A (aBY cI cC cZ cB cJ a_m nY sJ eG iY lY jR jW jZ jO oQ bR aY jQ gY iJ mQ lJ jA bG mK jB mW mJ eJ dG bT aG jC bL bY jD mLn oF rP dQ aJ aB bW bZ aR aE bI aW bU fJ dO bM bQ bO jY oX nG qO sW qQ uZ vY) -> va_S A s.heap H locs -> lv_has ls 9 [(0, .ref a_m), (1, .int x1), (2, .int x2), (4, .int x4), (5, .int x5)] -> W p l e aDt s m args below meth c H locs 0 0 (MQ below (aEa dC dI cI cC cZ cB cJ A a_m nY sJ eG iY lY jR jW jZ jO oQ bR aY jQ gY iJ mQ lJ jA bG mK jB mW mJ eJ dG bT aG aJ aB bW bZ aR aE bI aW bU fJ dO bM bQ bO jY oX nG qO qQ post) args s 0 0 A) (F0 m 134 ls [])) : ∀ (n : Nat), ∀ (x1 x2 x4 x5 x6 jC bL bY : Int32) (jD : Nat) (mLn oF rP dQ : Int32) (sW uZ vY : Nat -> Int32) (H : Heap) (locs : List Loc) (ls : Array Slot), (wb_X10_grass_142 post K134 aG nG qO qQ n) x1 x2 x4 x5 x6 jC bL bY jD mLn oF rP dQ sW uZ vY -> va_P (dC, dI) classes (aBY cI cC cZ cB cJ a_m nY sJ eG iY lY jR jW jZ jO oQ bR aY jQ gY iJ mQ lJ jA bG mK jB mW mJ eJ dG bT aG jC bL bY jD mLn oF rP dQ aJ aB bW bZ aR aE bI aW bU fJ dO bM bQ bO jY oX nG qO sW qQ uZ vY) H -> va_D A (aBY cI cC cZ cB cJ a_m nY sJ eG iY lY jR jW jZ jO oQ bR aY jQ gY iJ mQ lJ jA bG mK jB mW mJ eJ dG bT aG jC bL bY jD mLn oF rP dQ aJ aB bW bZ aR aE bI aW bU fJ dO bM bQ bO jY oX nG qO sW qQ uZ vY) -> va_S A s.heap H locs -> lv_has ls 9 [(0, .ref a_m), (1, .int x1), (2, .int x2), (4, .int x4), (5, .int x5), (6, .int x6)] -> W p l e aDt s m args below meth c H locs 0 0 (MQ below (aEa dC dI cI cC cZ cB cJ A a_m nY sJ eG iY lY jR jW jZ jO oQ bR aY jQ gY iJ mQ lJ jA bG mK jB mW mJ eJ dG bT aG aJ aB bW bZ aR aE bI aW bU fJ dO bM bQ bO jY oX nG qO qQ post) args s 0 0 A) (F0 m 142 ls []) := by
  intro n
  induction n with
  | zero =>
    intro x1 x2 x4 x5 x6 jC bL bY jD mLn oF rP dQ sW uZ vY H locs ls hp
    exact False.elim hp
  | succ n ih =>
    intro x1 x2 x4 x5 x6 jC bL bY jD mLn oF rP dQ sW uZ vY H locs ls hp
    exact ks_X10_grass_142 C0 hK134 ih x1 x2 x4 x5 x6 jC bL bY jD mLn oF rP dQ sW uZ vY H locs ls hp
def ws_X10_grass_134 (post : Int32 -> Int32 -> Int32 -> Int32 -> Nat -> Int32 -> Int32 -> Int32 -> Int32 -> (Nat -> Int32) -> (Nat -> Int32) -> (Nat -> Int32) -> Prop) (next : Int32 -> Int32 -> Int32 -> Int32 -> Int32 -> Int32 -> Int32 -> Nat -> Int32 -> Int32 -> Int32 -> Int32 -> (Nat -> Int32) -> (Nat -> Int32) -> (Nat -> Int32) -> Prop) (aG : Int32) (nG qO qQ : Nat -> Int32) (x1 x2 x4 x5 jC bL bY : Int32) (jD : Nat) (mLn oF rP dQ : Int32) (sW uZ vY : Nat -> Int32) : Prop := (x5 < 0 -> ∃ n : Nat, wb_X10_grass_300 post aG nG qO qQ n x2 x4 (-1) 0 jC 0 bY jD mLn oF rP dQ sW uZ vY) /\ (¬ x5 < 0 -> ∃ n : Nat, wb_X10_grass_142 post next aG nG qO qQ n x1 x2 x4 x5 0 jC bL bY jD mLn oF rP dQ sW uZ vY)
noncomputable def wb_X10_grass_134 (post : Int32 -> Int32 -> Int32 -> Int32 -> Nat -> Int32 -> Int32 -> Int32 -> Int32 -> (Nat -> Int32) -> (Nat -> Int32) -> (Nat -> Int32) -> Prop) (aG : Int32) (nG qO qQ : Nat -> Int32) : Nat -> Int32 -> Int32 -> Int32 -> Int32 -> Int32 -> Int32 -> Int32 -> Nat -> Int32 -> Int32 -> Int32 -> Int32 -> (Nat -> Int32) -> (Nat -> Int32) -> (Nat -> Int32) -> Prop := fun n => Nat.rec (motive := fun _ => Int32 -> Int32 -> Int32 -> Int32 -> Int32 -> Int32 -> Int32 -> Nat -> Int32 -> Int32 -> Int32 -> Int32 -> (Nat -> Int32) -> (Nat -> Int32) -> (Nat -> Int32) -> Prop) (fun _ _ _ _ _ _ _ _ _ _ _ _ _ _ _ => False) (fun _ ih => ws_X10_grass_134 post ih aG nG qO qQ) n
set_option maxHeartbeats 4000000 in
set_option maxRecDepth 100000 in
theorem ks_X10_grass_134 (C0 : gc aAu (some .int) 9 zX (dC, dI) (tyl cI cC cZ cB cJ) A p s m args meth c) {next : Int32 -> Int32 -> Int32 -> Int32 -> Int32 -> Int32 -> Int32 -> Nat -> Int32 -> Int32 -> Int32 -> Int32 -> (Nat -> Int32) -> (Nat -> Int32) -> (Nat -> Int32) -> Prop} (hKn : ∀ (x1 : Int32) (x2 : Int32) (x4 : Int32) (x5 : Int32) (jC : Int32) (bL : Int32) (bY : Int32) (jD : Nat) (mLn : Int32) (oF : Int32) (rP : Int32) (dQ : Int32) (sW : Nat -> Int32) (uZ : Nat -> Int32) (vY : Nat -> Int32) (H : Heap) (locs : List Loc) (ls : Array Slot), next x1 x2 x4 x5 jC bL bY jD mLn oF rP dQ sW uZ vY -> va_P (dC, dI) classes (aBY cI cC cZ cB cJ a_m nY sJ eG iY lY jR jW jZ jO oQ bR aY jQ gY iJ mQ lJ jA bG mK jB mW mJ eJ dG bT aG jC bL bY jD mLn oF rP dQ aJ aB bW bZ aR aE bI aW bU fJ dO bM bQ bO jY oX nG qO sW qQ uZ vY) H -> va_D A (aBY cI cC cZ cB cJ a_m nY sJ eG iY lY jR jW jZ jO oQ bR aY jQ gY iJ mQ lJ jA bG mK jB mW mJ eJ dG bT aG jC bL bY jD mLn oF rP dQ aJ aB bW bZ aR aE bI aW bU fJ dO bM bQ bO jY oX nG qO sW qQ uZ vY) -> va_S A s.heap H locs -> lv_has ls 9 [(0, .ref a_m), (1, .int x1), (2, .int x2), (4, .int x4), (5, .int x5)] -> W p l e aDt s m args below meth c H locs 0 0 (MQ below (aEa dC dI cI cC cZ cB cJ A a_m nY sJ eG iY lY jR jW jZ jO oQ bR aY jQ gY iJ mQ lJ jA bG mK jB mW mJ eJ dG bT aG aJ aB bW bZ aR aE bI aW bU fJ dO bM bQ bO jY oX nG qO qQ post) args s 0 0 A) (F0 m 134 ls [])) : ∀ (x1 x2 x4 x5 jC bL bY : Int32) (jD : Nat) (mLn oF rP dQ : Int32) (sW uZ vY : Nat -> Int32) (H : Heap) (locs : List Loc) (ls : Array Slot), (ws_X10_grass_134 post next aG nG qO qQ) x1 x2 x4 x5 jC bL bY jD mLn oF rP dQ sW uZ vY -> va_P (dC, dI) classes (aBY cI cC cZ cB cJ a_m nY sJ eG iY lY jR jW jZ jO oQ bR aY jQ gY iJ mQ lJ jA bG mK jB mW mJ eJ dG bT aG jC bL bY jD mLn oF rP dQ aJ aB bW bZ aR aE bI aW bU fJ dO bM bQ bO jY oX nG qO sW qQ uZ vY) H -> va_D A (aBY cI cC cZ cB cJ a_m nY sJ eG iY lY jR jW jZ jO oQ bR aY jQ gY iJ mQ lJ jA bG mK jB mW mJ eJ dG bT aG jC bL bY jD mLn oF rP dQ aJ aB bW bZ aR aE bI aW bU fJ dO bM bQ bO jY oX nG qO sW qQ uZ vY) -> va_S A s.heap H locs -> lv_has ls 9 [(0, .ref a_m), (1, .int x1), (2, .int x2), (4, .int x4), (5, .int x5)] -> W p l e aDt s m args below meth c H locs 0 0 (MQ below (aEa dC dI cI cC cZ cB cJ A a_m nY sJ eG iY lY jR jW jZ jO oQ bR aY jQ gY iJ mQ lJ jA bG mK jB mW mJ eJ dG bT aG aJ aB bW bZ aR aE bI aW bU fJ dO bM bQ bO jY oX nG qO qQ post) args s 0 0 A) (F0 m 134 ls []) := by
  obtain ⟨hx, hb, hr, hml, hown, hts, hlocks, hA, hK, hN, tL, tM, hZL, hTL, hZM, hTM, hZX⟩ := id C0
  intro x1 x2 x4 x5 jC bL bY jD mLn oF rP dQ sW uZ vY H locs ls hp hP hD hS hl
  unfold ws_X10_grass_134 at hp
  refine lv_iload hx hb aP9.2.2.2.2.2.2.2.2.2.1 (lv_at hl 4 rfl) ?_
  refine lv_if_lt (tgt := 289) hx hb aP9.2.2.2.2.2.2.2.2.2.2.1 (by decide) (fun hc => ?_) (fun hc => ?_)
  · have hp := hp.1 hc
    refine lv_aload_n hx hb aQE.2.2.2.2.2.2.2.2.2.2.2.1 rfl (lv_at hl 0 rfl) ?_
    refine lv_iconst (v := 0) hx hb aQE.2.2.2.2.2.2.2.2.2.2.2.2.1 aCi ?_
    refine va_put (D := (dC, dI)) (ci := 10) (v := .int 0) (ty := .int) (C := zX) (T := aBe) (N := 51) hx hb hts aAt aD2 aAa aEC hown hK hP hD hS 0 rfl rfl 13 (lbz rfl) (hts _ q_847) (fun _ h9 => h9) rfl (aAa 13 (lbz rfl)) rfl rfl (lbz rfl) aQE.2.2.2.2.2.2.2.2.2.2.2.2.2.1 (fun H locs hP hD hS => ?_)
    have hPD := PDw (ws' := (aBY cI cC cZ cB cJ a_m nY sJ eG iY lY jR jW jZ jO oQ bR aY jQ gY iJ mQ lJ jA bG mK jB mW mJ eJ dG bT aG jC 0 bY jD mLn oF rP dQ aJ aB bW bZ aR aE bI aW bU fJ dO bM bQ bO jY oX nG qO sW qQ uZ vY)) hP hD rfl
    have hP := hPD.1
    have hD := hPD.2
    refine lv_iconst (v := (-1)) hx hb aQE.2.2.2.2.2.2.2.2.2.2.2.2.2.2.1 aEJ ?_
    refine lv_istore (lv' := [(5, .int (-1)), (0, .ref a_m), (1, .int x1), (2, .int x2), (4, .int x4)]) hx hb aQE.2.2.2.2.2.2.2.2.2.2.2.2.2.2.2 hl (by decide) rfl (fun ls hl => ?_)
    refine lv_iconst (v := 0) hx hb aQF.1 aCi ?_
    refine lv_istore (lv' := [(6, .int 0), (5, .int (-1)), (0, .ref a_m), (1, .int x1), (2, .int x2), (4, .int x4)]) hx hb aQF.2.1 hl (by decide) rfl (fun ls hl => ?_)
    obtain ⟨n9, hp⟩ := hp
    exact kb_X10_grass_300 C0 n9 x2 x4 (-1) 0 jC 0 bY jD mLn oF rP dQ sW uZ vY H locs ls hp hP hD hS (lv_sub hl [2, 4, 5, 1, 0] rfl)
  · have hp := hp.2 hc
    refine lv_iconst (v := 0) hx hb aP9.2.2.2.2.2.2.2.2.2.2.2.1 aCi ?_
    refine lv_istore (lv' := [(6, .int 0), (0, .ref a_m), (1, .int x1), (2, .int x2), (4, .int x4), (5, .int x5)]) hx hb aP9.2.2.2.2.2.2.2.2.2.2.2.2.1 hl (by decide) rfl (fun ls hl => ?_)
    obtain ⟨n9, hp⟩ := hp
    exact kb_X10_grass_142 C0 hKn n9 x1 x2 x4 x5 0 jC bL bY jD mLn oF rP dQ sW uZ vY H locs ls hp hP hD hS (lv_sub hl [1, 2, 3, 4, 5, 0] rfl)
set_option maxHeartbeats 4000000 in
set_option maxRecDepth 100000 in
theorem kb_X10_grass_134 (C0 : gc aAu (some .int) 9 zX (dC, dI) (tyl cI cC cZ cB cJ) A p s m args meth c) : ∀ (n : Nat), ∀ (x1 x2 x4 x5 jC bL bY : Int32) (jD : Nat) (mLn oF rP dQ : Int32) (sW uZ vY : Nat -> Int32) (H : Heap) (locs : List Loc) (ls : Array Slot), (wb_X10_grass_134 post aG nG qO qQ n) x1 x2 x4 x5 jC bL bY jD mLn oF rP dQ sW uZ vY -> va_P (dC, dI) classes (aBY cI cC cZ cB cJ a_m nY sJ eG iY lY jR jW jZ jO oQ bR aY jQ gY iJ mQ lJ jA bG mK jB mW mJ eJ dG bT aG jC bL bY jD mLn oF rP dQ aJ aB bW bZ aR aE bI aW bU fJ dO bM bQ bO jY oX nG qO sW qQ uZ vY) H -> va_D A (aBY cI cC cZ cB cJ a_m nY sJ eG iY lY jR jW jZ jO oQ bR aY jQ gY iJ mQ lJ jA bG mK jB mW mJ eJ dG bT aG jC bL bY jD mLn oF rP dQ aJ aB bW bZ aR aE bI aW bU fJ dO bM bQ bO jY oX nG qO sW qQ uZ vY) -> va_S A s.heap H locs -> lv_has ls 9 [(0, .ref a_m), (1, .int x1), (2, .int x2), (4, .int x4), (5, .int x5)] -> W p l e aDt s m args below meth c H locs 0 0 (MQ below (aEa dC dI cI cC cZ cB cJ A a_m nY sJ eG iY lY jR jW jZ jO oQ bR aY jQ gY iJ mQ lJ jA bG mK jB mW mJ eJ dG bT aG aJ aB bW bZ aR aE bI aW bU fJ dO bM bQ bO jY oX nG qO qQ post) args s 0 0 A) (F0 m 134 ls []) := by
  intro n
  induction n with
  | zero =>
    intro x1 x2 x4 x5 jC bL bY jD mLn oF rP dQ sW uZ vY H locs ls hp
    exact False.elim hp
  | succ n ih =>
    intro x1 x2 x4 x5 jC bL bY jD mLn oF rP dQ sW uZ vY H locs ls hp
    exact ks_X10_grass_134 C0 ih x1 x2 x4 x5 jC bL bY jD mLn oF rP dQ sW uZ vY H locs ls hp
def ws_X10_grass_112 (post : Int32 -> Int32 -> Int32 -> Int32 -> Nat -> Int32 -> Int32 -> Int32 -> Int32 -> (Nat -> Int32) -> (Nat -> Int32) -> (Nat -> Int32) -> Prop) (aG : Int32) (nG qO qQ : Nat -> Int32) (x1 x2 jC bL bY : Int32) (jD : Nat) (mLn oF rP dQ : Int32) (sW uZ vY : Nat -> Int32) : Prop := aRX (fun r_7 => (¬ r_7 = 0 -> ∀ v_8 : Int32, v_8 = x2 - 1 -> ∃ n : Nat, wb_X10_grass_134 post aG nG qO qQ n x1 x2 0 v_8 jC bL bY jD mLn oF rP dQ sW uZ vY) /\ (r_7 = 0 -> post ((-1) - dQ) jC bL bY jD mLn oF rP dQ sW uZ vY)) dQ
set_option maxHeartbeats 4000000 in
set_option maxRecDepth 100000 in
theorem ks_X10_grass_112 (C0 : gc aAu (some .int) 9 zX (dC, dI) (tyl cI cC cZ cB cJ) A p s m args meth c) : ∀ (x1 x2 jC bL bY : Int32) (jD : Nat) (mLn oF rP dQ : Int32) (sW uZ vY : Nat -> Int32) (H : Heap) (locs : List Loc) (ls : Array Slot), (ws_X10_grass_112 post aG nG qO qQ) x1 x2 jC bL bY jD mLn oF rP dQ sW uZ vY -> va_P (dC, dI) classes (aBY cI cC cZ cB cJ a_m nY sJ eG iY lY jR jW jZ jO oQ bR aY jQ gY iJ mQ lJ jA bG mK jB mW mJ eJ dG bT aG jC bL bY jD mLn oF rP dQ aJ aB bW bZ aR aE bI aW bU fJ dO bM bQ bO jY oX nG qO sW qQ uZ vY) H -> va_D A (aBY cI cC cZ cB cJ a_m nY sJ eG iY lY jR jW jZ jO oQ bR aY jQ gY iJ mQ lJ jA bG mK jB mW mJ eJ dG bT aG jC bL bY jD mLn oF rP dQ aJ aB bW bZ aR aE bI aW bU fJ dO bM bQ bO jY oX nG qO sW qQ uZ vY) -> va_S A s.heap H locs -> lv_has ls 9 [(0, .ref a_m), (1, .int x1), (2, .int x2)] -> W p l e aDt s m args below meth c H locs 0 0 (MQ below (aEa dC dI cI cC cZ cB cJ A a_m nY sJ eG iY lY jR jW jZ jO oQ bR aY jQ gY iJ mQ lJ jA bG mK jB mW mJ eJ dG bT aG aJ aB bW bZ aR aE bI aW bU fJ dO bM bQ bO jY oX nG qO qQ post) args s 0 0 A) (F0 m 112 ls []) := by
  obtain ⟨hx, hb, hr, hml, hown, hts, hlocks, hA, hK, hN, tL, tM, hZL, hTL, hZM, hTM, hZX⟩ := id C0
  intro x1 x2 jC bL bY jD mLn oF rP dQ sW uZ vY H locs ls hp hP hD hS hl
  unfold ws_X10_grass_112 at hp
  refine lv_aload_n hx hb aSu.2.2.2.2.2.2.2.2.2.2.2.1 rfl (lv_at hl 0 rfl) ?_
  have hm := mgk (wc := (aVf cI cC cZ cB cJ a_m nY sJ eG iY lY jR jW jZ jO oQ bR aY jQ gY iJ mQ lJ jA bG mK jB mW mJ eJ dG bT aG jC bL bY jD mLn oF rP dQ aJ aB bW bZ aR aE bI aW bU fJ dO bM bQ bO jY oX)) hP mk_240 7 rfl rfl rfl
  refine yW hP hD hS hA (yS mk_240) (aAi mk_240) hm.1 hm.2 (aAk _) (zW _) (zF (As := []) (rest := []) C0 hP hD hS (yS mk_240) hm.1 (aAl _) 0 10 rfl rfl (c_X10_fine l dC dI cI cC cZ cB cJ a_m nY sJ eG iY lY jR jW jZ jO oQ bR aY jQ gY iJ mQ lJ jA bG mK jB mW mJ eJ dG H.size bT aG jC bL bY jD mLn oF rP dQ aJ aB bW bZ aR aE bI aW bU fJ dO bM bQ bO jY oX _ hp) q_650 q_653 q_651 q_652 aBL h_X10_fine rfl rfl ⟨lbz rfl, lbz rfl⟩ rfl rfl hl.1 rfl (lv_room (lbz rfl)) aSu.2.2.2.2.2.2.2.2.2.2.2.2.1 ⟨Nat.zero_le _, Nat.zero_le _⟩) (fun r_7 u H locs hp hP hD hS => ?_)
  have hPD := PDm (ws' := (aBY cI cC cZ cB cJ a_m nY sJ eG iY lY jR jW jZ jO oQ bR aY jQ gY iJ mQ lJ jA bG mK jB mW mJ eJ dG bT aG jC bL bY jD mLn oF rP dQ aJ aB bW bZ aR aE bI aW bU fJ dO bM bQ bO jY oX nG qO sW qQ uZ vY)) hP hD 7 rfl rfl rfl
  have hP := hPD.1
  have hD := hPD.2
  refine lv_if_ne (tgt := 126) hx hb aSu.2.2.2.2.2.2.2.2.2.2.2.2.2.1 (by decide) (fun hc => ?_) (fun hc => ?_)
  · have hp := hp.1 hc
    refine lv_iconst (v := 0) hx hb aP9.2.2.2.1 aCi ?_
    refine lv_istore (lv' := [(4, .int 0), (0, .ref a_m), (1, .int x1), (2, .int x2)]) hx hb aP9.2.2.2.2.1 hl (by decide) rfl (fun ls hl => ?_)
    refine lv_iload_n hx hb aP9.2.2.2.2.2.1 rfl (lv_at hl 3 rfl) ?_
    refine lv_iconst (v := 1) hx hb aP9.2.2.2.2.2.2.1 aDx ?_
    refine lv_isub hx hb aP9.2.2.2.2.2.2.2.1 ?_
    refine lv_topi (fun v_8 ev_8 => ?_)
    have hp := hp v_8 ev_8
    refine lv_istore (lv' := [(5, .int v_8), (4, .int 0), (0, .ref a_m), (1, .int x1), (2, .int x2)]) hx hb aP9.2.2.2.2.2.2.2.2.1 hl (by decide) rfl (fun ls hl => ?_)
    obtain ⟨n9, hp⟩ := hp
    exact kb_X10_grass_134 C0 n9 x1 x2 0 v_8 jC bL bY jD mLn oF rP dQ sW uZ vY H locs ls hp hP hD hS (lv_sub hl [2, 3, 4, 1, 0] rfl)
  · have hp := hp.2 hc
    refine lv_iconst (v := (-1)) hx hb aSu.2.2.2.2.2.2.2.2.2.2.2.2.2.2.1 aEJ ?_
    refine lv_aload_n hx hb aSu.2.2.2.2.2.2.2.2.2.2.2.2.2.2.2 rfl (lv_at hl 0 rfl) ?_
    refine va_get (D := (dC, dI)) (ci := 10) (v := .int dQ) (C := zX) (T := aBe) (N := 51) hx hb hts aAt hown hK hP 0 rfl rfl 19 (lbz rfl) (hts _ q_649) (fun _ h9 => h9) rfl aP9.1 ?_
    refine lv_isub hx hb aP9.2.1 ?_
    exact W.iret (v := (-1) - dQ) hx hb hr (fun t ht hW => ⟨⟨(-1) - dQ, (jC, bL, bY, jD, mLn, oF, rP, dQ, sW, uZ, vY), rfl, hp, by rw [ht]; exact hP, va_K.moved hW.alike hK, hD⟩, hS.F ht⟩) hS.2.2 aP9.2.2.1
def ws_X10_grass_93 (post : Int32 -> Int32 -> Int32 -> Int32 -> Nat -> Int32 -> Int32 -> Int32 -> Int32 -> (Nat -> Int32) -> (Nat -> Int32) -> (Nat -> Int32) -> Prop) (aG : Int32) (nG qO qQ : Nat -> Int32) (x1 x2 jC bL bY : Int32) (jD : Nat) (mLn oF rP dQ : Int32) (sW uZ vY : Nat -> Int32) : Prop := (mLn <= rP -> ws_X10_grass_112 post aG nG qO qQ x1 x2 jC bL bY jD mLn oF rP dQ sW uZ vY) /\ (¬ mLn <= rP -> aSQ (fun m_wrong_27 => ws_X10_grass_112 post aG nG qO qQ x1 x2 jC bL bY jD mLn oF rP m_wrong_27 sW uZ vY) rP dQ)
set_option maxHeartbeats 4000000 in
set_option maxRecDepth 100000 in
theorem ks_X10_grass_93 (C0 : gc aAu (some .int) 9 zX (dC, dI) (tyl cI cC cZ cB cJ) A p s m args meth c) : ∀ (x1 x2 jC bL bY : Int32) (jD : Nat) (mLn oF rP dQ : Int32) (sW uZ vY : Nat -> Int32) (H : Heap) (locs : List Loc) (ls : Array Slot), (ws_X10_grass_93 post aG nG qO qQ) x1 x2 jC bL bY jD mLn oF rP dQ sW uZ vY -> va_P (dC, dI) classes (aBY cI cC cZ cB cJ a_m nY sJ eG iY lY jR jW jZ jO oQ bR aY jQ gY iJ mQ lJ jA bG mK jB mW mJ eJ dG bT aG jC bL bY jD mLn oF rP dQ aJ aB bW bZ aR aE bI aW bU fJ dO bM bQ bO jY oX nG qO sW qQ uZ vY) H -> va_D A (aBY cI cC cZ cB cJ a_m nY sJ eG iY lY jR jW jZ jO oQ bR aY jQ gY iJ mQ lJ jA bG mK jB mW mJ eJ dG bT aG jC bL bY jD mLn oF rP dQ aJ aB bW bZ aR aE bI aW bU fJ dO bM bQ bO jY oX nG qO sW qQ uZ vY) -> va_S A s.heap H locs -> lv_has ls 9 [(0, .ref a_m), (1, .int x1), (2, .int x2)] -> W p l e aDt s m args below meth c H locs 0 0 (MQ below (aEa dC dI cI cC cZ cB cJ A a_m nY sJ eG iY lY jR jW jZ jO oQ bR aY jQ gY iJ mQ lJ jA bG mK jB mW mJ eJ dG bT aG aJ aB bW bZ aR aE bI aW bU fJ dO bM bQ bO jY oX nG qO qQ post) args s 0 0 A) (F0 m 93 ls []) := by
  obtain ⟨hx, hb, hr, hml, hown, hts, hlocks, hA, hK, hN, tL, tM, hZL, hTL, hZM, hTM, hZX⟩ := id C0
  intro x1 x2 jC bL bY jD mLn oF rP dQ sW uZ vY H locs ls hp hP hD hS hl
  unfold ws_X10_grass_93 at hp
  refine lv_aload_n hx hb aSu.2.2.1 rfl (lv_at hl 0 rfl) ?_
  refine va_get (D := (dC, dI)) (ci := 10) (v := .int rP) (C := zX) (T := aBe) (N := 51) hx hb hts aAt hown hK hP 0 rfl rfl 18 (lbz rfl) (hts _ q_648) (fun _ h9 => h9) rfl aSu.2.2.2.1 ?_
  refine lv_aload_n hx hb aSu.2.2.2.2.1 rfl (lv_at hl 0 rfl) ?_
  refine va_get (D := (dC, dI)) (ci := 10) (v := .int mLn) (C := zX) (T := aBe) (N := 51) hx hb hts aAt hown hK hP 0 rfl rfl 16 (lbz rfl) (hts _ q_646) (fun _ h9 => h9) rfl aSu.2.2.2.2.2.1 ?_
  refine lv_icmp_ge (tgt := 112) hx hb aSu.2.2.2.2.2.2.1 (by decide) (fun hc => ?_) (fun hc => ?_)
  · have hp := hp.1 hc
    exact ks_X10_grass_112 C0 x1 x2 jC bL bY jD mLn oF rP dQ sW uZ vY H locs ls hp hP hD hS (lv_sub hl [0, 1, 2] rfl)
  · have hp := hp.2 hc
    refine lv_aload_n hx hb aSu.2.2.2.2.2.2.2.1 rfl (lv_at hl 0 rfl) ?_
    refine lv_aload_n hx hb aSu.2.2.2.2.2.2.2.2.1 rfl (lv_at hl 0 rfl) ?_
    refine va_get (D := (dC, dI)) (ci := 10) (v := .int rP) (C := zX) (T := aBe) (N := 51) hx hb hts aAt hown hK hP 0 rfl rfl 18 (lbz rfl) (hts _ q_648) (fun _ h9 => h9) rfl aSu.2.2.2.2.2.2.2.2.2.1 ?_
    have hm := mgk (wc := (aSM cI cC cZ cB cJ a_m nY sJ eG iY lY jR jW jZ jO oQ bR aY jQ gY iJ mQ lJ jA bG mK jB mW mJ eJ dG bT aG jC bL bY jD mLn oF rP dQ aJ aB bW bZ aR aE bI aW bU fJ dO bM bQ bO jY oX)) hP mk_240 7 rfl rfl rfl
    refine aBn hP hD hS hA (yS mk_240) (aAi mk_240) hm.1 hm.2 (aAk _) (zW _) (zF (As := [.int rP]) (rest := []) C0 hP hD hS (yS mk_240) hm.1 (aAl _) 0 10 rfl rfl (c_X10_fault l dC dI cI cC cZ cB cJ a_m nY sJ eG iY lY jR jW jZ jO oQ bR aY jQ gY iJ mQ lJ jA bG mK jB mW mJ eJ dG H.size rP bT aG jC bL bY jD mLn oF rP dQ aJ aB bW bZ aR aE bI aW bU fJ dO bM bQ bO jY oX _ hp) q_654 q_657 q_655 q_656 aBL h_X10_fault rfl rfl ⟨lbz rfl, lbz rfl⟩ rfl rfl hl.1 rfl (lv_room (lbz rfl)) aSu.2.2.2.2.2.2.2.2.2.2.1 ⟨Nat.zero_le _, Nat.zero_le _⟩) (fun u H locs hp hP hD hS => ?_)
    obtain ⟨m_wrong_27, rfl⟩ : ∃ z, z = u := ⟨_, rfl⟩
    have hPD := PDm (ws' := (aBY cI cC cZ cB cJ a_m nY sJ eG iY lY jR jW jZ jO oQ bR aY jQ gY iJ mQ lJ jA bG mK jB mW mJ eJ dG bT aG jC bL bY jD mLn oF rP m_wrong_27 aJ aB bW bZ aR aE bI aW bU fJ dO bM bQ bO jY oX nG qO sW qQ uZ vY)) hP hD 7 rfl rfl rfl
    have hP := hPD.1
    have hD := hPD.2
    exact ks_X10_grass_112 C0 x1 x2 jC bL bY jD mLn oF rP m_wrong_27 sW uZ vY H locs ls hp hP hD hS (lv_sub hl [0, 1, 2] rfl)
def ws_X10_grass_80 (post : Int32 -> Int32 -> Int32 -> Int32 -> Nat -> Int32 -> Int32 -> Int32 -> Int32 -> (Nat -> Int32) -> (Nat -> Int32) -> (Nat -> Int32) -> Prop) (K41 : Int32 -> Int32 -> Int32 -> Int32 -> Int32 -> Int32 -> Nat -> Int32 -> Int32 -> Int32 -> Int32 -> (Nat -> Int32) -> (Nat -> Int32) -> (Nat -> Int32) -> Prop) (aG : Int32) (nG qO qQ : Nat -> Int32) (x1 x2 jC bL bY : Int32) (jD : Nat) (mLn oF rP dQ : Int32) (sW uZ vY : Nat -> Int32) : Prop := ∀ v_32 : Int32, v_32 = x2 + 1 -> aPM (fun r_33 m_at_34 => K41 x1 v_32 r_33 jC bL bY jD mLn oF m_at_34 dQ sW uZ vY) 44 jD mLn oF rP dQ qO qQ
set_option maxHeartbeats 4000000 in
set_option maxRecDepth 100000 in
theorem ks_X10_grass_80 (C0 : gc aAu (some .int) 9 zX (dC, dI) (tyl cI cC cZ cB cJ) A p s m args meth c) {K41 : Int32 -> Int32 -> Int32 -> Int32 -> Int32 -> Int32 -> Nat -> Int32 -> Int32 -> Int32 -> Int32 -> (Nat -> Int32) -> (Nat -> Int32) -> (Nat -> Int32) -> Prop} (hK41 : ∀ (x1 : Int32) (x2 : Int32) (x3 : Int32) (jC : Int32) (bL : Int32) (bY : Int32) (jD : Nat) (mLn : Int32) (oF : Int32) (rP : Int32) (dQ : Int32) (sW : Nat -> Int32) (uZ : Nat -> Int32) (vY : Nat -> Int32) (H : Heap) (locs : List Loc) (ls : Array Slot), K41 x1 x2 x3 jC bL bY jD mLn oF rP dQ sW uZ vY -> va_P (dC, dI) classes (aBY cI cC cZ cB cJ a_m nY sJ eG iY lY jR jW jZ jO oQ bR aY jQ gY iJ mQ lJ jA bG mK jB mW mJ eJ dG bT aG jC bL bY jD mLn oF rP dQ aJ aB bW bZ aR aE bI aW bU fJ dO bM bQ bO jY oX nG qO sW qQ uZ vY) H -> va_D A (aBY cI cC cZ cB cJ a_m nY sJ eG iY lY jR jW jZ jO oQ bR aY jQ gY iJ mQ lJ jA bG mK jB mW mJ eJ dG bT aG jC bL bY jD mLn oF rP dQ aJ aB bW bZ aR aE bI aW bU fJ dO bM bQ bO jY oX nG qO sW qQ uZ vY) -> va_S A s.heap H locs -> lv_has ls 9 [(0, .ref a_m), (1, .int x1), (2, .int x2), (3, .int x3)] -> W p l e aDt s m args below meth c H locs 0 0 (MQ below (aEa dC dI cI cC cZ cB cJ A a_m nY sJ eG iY lY jR jW jZ jO oQ bR aY jQ gY iJ mQ lJ jA bG mK jB mW mJ eJ dG bT aG aJ aB bW bZ aR aE bI aW bU fJ dO bM bQ bO jY oX nG qO qQ post) args s 0 0 A) (F0 m 41 ls [])) : ∀ (x1 x2 jC bL bY : Int32) (jD : Nat) (mLn oF rP dQ : Int32) (sW uZ vY : Nat -> Int32) (H : Heap) (locs : List Loc) (ls : Array Slot), (ws_X10_grass_80 post K41 aG nG qO qQ) x1 x2 jC bL bY jD mLn oF rP dQ sW uZ vY -> va_P (dC, dI) classes (aBY cI cC cZ cB cJ a_m nY sJ eG iY lY jR jW jZ jO oQ bR aY jQ gY iJ mQ lJ jA bG mK jB mW mJ eJ dG bT aG jC bL bY jD mLn oF rP dQ aJ aB bW bZ aR aE bI aW bU fJ dO bM bQ bO jY oX nG qO sW qQ uZ vY) H -> va_D A (aBY cI cC cZ cB cJ a_m nY sJ eG iY lY jR jW jZ jO oQ bR aY jQ gY iJ mQ lJ jA bG mK jB mW mJ eJ dG bT aG jC bL bY jD mLn oF rP dQ aJ aB bW bZ aR aE bI aW bU fJ dO bM bQ bO jY oX nG qO sW qQ uZ vY) -> va_S A s.heap H locs -> lv_has ls 9 [(0, .ref a_m), (1, .int x1), (2, .int x2)] -> W p l e aDt s m args below meth c H locs 0 0 (MQ below (aEa dC dI cI cC cZ cB cJ A a_m nY sJ eG iY lY jR jW jZ jO oQ bR aY jQ gY iJ mQ lJ jA bG mK jB mW mJ eJ dG bT aG aJ aB bW bZ aR aE bI aW bU fJ dO bM bQ bO jY oX nG qO qQ post) args s 0 0 A) (F0 m 80 ls []) := by
  obtain ⟨hx, hb, hr, hml, hown, hts, hlocks, hA, hK, hN, tL, tM, hZL, hTL, hZM, hTM, hZX⟩ := id C0
  intro x1 x2 jC bL bY jD mLn oF rP dQ sW uZ vY H locs ls hp hP hD hS hl
  unfold ws_X10_grass_80 at hp
  obtain ⟨v_32, ev_32⟩ : ∃ y : Int32, y = x2 + 1 := ⟨_, rfl⟩
  refine lv_iinc (v := v_32) (lv' := [(2, .int v_32), (0, .ref a_m), (1, .int x1)]) hx hb aSt.2.2.2.2.2.2.2.2.2.2.2.2.1 hl (k := 2) rfl (by rw [ev_32]; rfl) (by decide) rfl (fun ls hl => ?_)
  have hp := hp v_32 ev_32
  refine lv_aload_n hx hb aSt.2.2.2.2.2.2.2.2.2.2.2.2.2.1 rfl (lv_at hl 1 rfl) ?_
  refine lv_bipush (v := 44) hx hb aSt.2.2.2.2.2.2.2.2.2.2.2.2.2.2.1 bp_44 ?_
  have hm := mgk (wc := (aOh cI cC cZ cB cJ a_m nY sJ eG iY lY jR jW jZ jO oQ bR aY jQ gY iJ mQ lJ jA bG mK jB mW mJ eJ dG bT aG jC bL bY jD mLn oF rP dQ aJ aB bW bZ aR aE bI aW bU fJ dO bM bQ bO jY oX qO qQ)) hP mk_300 7 rfl rfl rfl
  refine yW hP hD hS hA (yS mk_300) (aAi mk_300) hm.1 hm.2 (aAk _) (zW _) (zF (As := [.int 44]) (rest := []) C0 hP hD hS (yS mk_300) hm.1 (aAl _) 0 10 rfl rfl (c_X10_passes l dC dI cI cC cZ cB cJ a_m nY sJ eG iY lY jR jW jZ jO oQ bR aY jQ gY iJ mQ lJ jA bG mK jB mW mJ eJ dG H.size 44 bT aG jC bL bY jD mLn oF rP dQ aJ aB bW bZ aR aE bI aW bU fJ dO bM bQ bO jY oX qO qQ _ hp) q_662 q_665 q_663 q_664 aBL h_X10_passes rfl rfl ⟨lbz rfl, lbz rfl⟩ rfl rfl hl.1 rfl (lv_room (lbz rfl)) aSt.2.2.2.2.2.2.2.2.2.2.2.2.2.2.2 ⟨Nat.zero_le _, Nat.zero_le _⟩) (fun r_33 u H locs hp hP hD hS => ?_)
  obtain ⟨m_at_34, rfl⟩ : ∃ z, z = u := ⟨_, rfl⟩
  have hPD := PDm (ws' := (aBY cI cC cZ cB cJ a_m nY sJ eG iY lY jR jW jZ jO oQ bR aY jQ gY iJ mQ lJ jA bG mK jB mW mJ eJ dG bT aG jC bL bY jD mLn oF m_at_34 dQ aJ aB bW bZ aR aE bI aW bU fJ dO bM bQ bO jY oX nG qO sW qQ uZ vY)) hP hD 7 rfl rfl rfl
  have hP := hPD.1
  have hD := hPD.2
  refine lv_istore_n (lv' := [(3, .int r_33), (2, .int v_32), (0, .ref a_m), (1, .int x1)]) hx hb aSu.1 rfl hl (by decide) rfl (fun ls hl => ?_)
  refine lv_goto (tgt := 41) hx hb aSu.2.1 (by decide) ?_
  exact hK41 x1 v_32 r_33 jC bL bY jD mLn oF m_at_34 dQ sW uZ vY H locs ls hp hP hD hS (lv_sub hl [2, 3, 1, 0] rfl)
def ws_X10_grass_41 (post : Int32 -> Int32 -> Int32 -> Int32 -> Nat -> Int32 -> Int32 -> Int32 -> Int32 -> (Nat -> Int32) -> (Nat -> Int32) -> (Nat -> Int32) -> Prop) (next : Int32 -> Int32 -> Int32 -> Int32 -> Int32 -> Int32 -> Nat -> Int32 -> Int32 -> Int32 -> Int32 -> (Nat -> Int32) -> (Nat -> Int32) -> (Nat -> Int32) -> Prop) (aG : Int32) (nG qO qQ : Nat -> Int32) (x1 x2 x3 jC bL bY : Int32) (jD : Nat) (mLn oF rP dQ : Int32) (sW uZ vY : Nat -> Int32) : Prop := (x3 = 0 -> ws_X10_grass_93 post aG nG qO qQ x1 x2 jC bL bY jD mLn oF rP dQ sW uZ vY) /\ (¬ x3 = 0 -> aRX (fun r_28 => (r_28 = 0 -> ws_X10_grass_93 post aG nG qO qQ x1 x2 jC bL bY jD mLn oF rP dQ sW uZ vY) /\ (¬ r_28 = 0 -> (¬ x2 = 6 -> aOj (fun r_29 m_at_30 m_wrong_31 => vp_in x2 6 /\ (ws_X10_grass_80 post next aG nG qO qQ x1 x2 jC bL bY jD mLn oF m_at_30 m_wrong_31 sW (upd uZ x2.toNatClampNeg r_29) vY)) 2 jD mLn oF rP dQ qO qQ) /\ (x2 = 6 -> aSQ (fun m_wrong_35 => ws_X10_grass_80 post next aG nG qO qQ x1 x2 jC bL bY jD mLn oF rP m_wrong_35 sW uZ vY) rP dQ))) dQ)
noncomputable def wb_X10_grass_41 (post : Int32 -> Int32 -> Int32 -> Int32 -> Nat -> Int32 -> Int32 -> Int32 -> Int32 -> (Nat -> Int32) -> (Nat -> Int32) -> (Nat -> Int32) -> Prop) (aG : Int32) (nG qO qQ : Nat -> Int32) : Nat -> Int32 -> Int32 -> Int32 -> Int32 -> Int32 -> Int32 -> Nat -> Int32 -> Int32 -> Int32 -> Int32 -> (Nat -> Int32) -> (Nat -> Int32) -> (Nat -> Int32) -> Prop := fun n => Nat.rec (motive := fun _ => Int32 -> Int32 -> Int32 -> Int32 -> Int32 -> Int32 -> Nat -> Int32 -> Int32 -> Int32 -> Int32 -> (Nat -> Int32) -> (Nat -> Int32) -> (Nat -> Int32) -> Prop) (fun _ _ _ _ _ _ _ _ _ _ _ _ _ _ => False) (fun _ ih => ws_X10_grass_41 post ih aG nG qO qQ) n
set_option maxHeartbeats 4000000 in
set_option maxRecDepth 100000 in
theorem ks_X10_grass_41 (C0 : gc aAu (some .int) 9 zX (dC, dI) (tyl cI cC cZ cB cJ) A p s m args meth c) {next : Int32 -> Int32 -> Int32 -> Int32 -> Int32 -> Int32 -> Nat -> Int32 -> Int32 -> Int32 -> Int32 -> (Nat -> Int32) -> (Nat -> Int32) -> (Nat -> Int32) -> Prop} (hKn : ∀ (x1 : Int32) (x2 : Int32) (x3 : Int32) (jC : Int32) (bL : Int32) (bY : Int32) (jD : Nat) (mLn : Int32) (oF : Int32) (rP : Int32) (dQ : Int32) (sW : Nat -> Int32) (uZ : Nat -> Int32) (vY : Nat -> Int32) (H : Heap) (locs : List Loc) (ls : Array Slot), next x1 x2 x3 jC bL bY jD mLn oF rP dQ sW uZ vY -> va_P (dC, dI) classes (aBY cI cC cZ cB cJ a_m nY sJ eG iY lY jR jW jZ jO oQ bR aY jQ gY iJ mQ lJ jA bG mK jB mW mJ eJ dG bT aG jC bL bY jD mLn oF rP dQ aJ aB bW bZ aR aE bI aW bU fJ dO bM bQ bO jY oX nG qO sW qQ uZ vY) H -> va_D A (aBY cI cC cZ cB cJ a_m nY sJ eG iY lY jR jW jZ jO oQ bR aY jQ gY iJ mQ lJ jA bG mK jB mW mJ eJ dG bT aG jC bL bY jD mLn oF rP dQ aJ aB bW bZ aR aE bI aW bU fJ dO bM bQ bO jY oX nG qO sW qQ uZ vY) -> va_S A s.heap H locs -> lv_has ls 9 [(0, .ref a_m), (1, .int x1), (2, .int x2), (3, .int x3)] -> W p l e aDt s m args below meth c H locs 0 0 (MQ below (aEa dC dI cI cC cZ cB cJ A a_m nY sJ eG iY lY jR jW jZ jO oQ bR aY jQ gY iJ mQ lJ jA bG mK jB mW mJ eJ dG bT aG aJ aB bW bZ aR aE bI aW bU fJ dO bM bQ bO jY oX nG qO qQ post) args s 0 0 A) (F0 m 41 ls [])) : ∀ (x1 x2 x3 jC bL bY : Int32) (jD : Nat) (mLn oF rP dQ : Int32) (sW uZ vY : Nat -> Int32) (H : Heap) (locs : List Loc) (ls : Array Slot), (ws_X10_grass_41 post next aG nG qO qQ) x1 x2 x3 jC bL bY jD mLn oF rP dQ sW uZ vY -> va_P (dC, dI) classes (aBY cI cC cZ cB cJ a_m nY sJ eG iY lY jR jW jZ jO oQ bR aY jQ gY iJ mQ lJ jA bG mK jB mW mJ eJ dG bT aG jC bL bY jD mLn oF rP dQ aJ aB bW bZ aR aE bI aW bU fJ dO bM bQ bO jY oX nG qO sW qQ uZ vY) H -> va_D A (aBY cI cC cZ cB cJ a_m nY sJ eG iY lY jR jW jZ jO oQ bR aY jQ gY iJ mQ lJ jA bG mK jB mW mJ eJ dG bT aG jC bL bY jD mLn oF rP dQ aJ aB bW bZ aR aE bI aW bU fJ dO bM bQ bO jY oX nG qO sW qQ uZ vY) -> va_S A s.heap H locs -> lv_has ls 9 [(0, .ref a_m), (1, .int x1), (2, .int x2), (3, .int x3)] -> W p l e aDt s m args below meth c H locs 0 0 (MQ below (aEa dC dI cI cC cZ cB cJ A a_m nY sJ eG iY lY jR jW jZ jO oQ bR aY jQ gY iJ mQ lJ jA bG mK jB mW mJ eJ dG bT aG aJ aB bW bZ aR aE bI aW bU fJ dO bM bQ bO jY oX nG qO qQ post) args s 0 0 A) (F0 m 41 ls []) := by
  obtain ⟨hx, hb, hr, hml, hown, hts, hlocks, hA, hK, hN, tL, tM, hZL, hTL, hZM, hTM, hZX⟩ := id C0
  intro x1 x2 x3 jC bL bY jD mLn oF rP dQ sW uZ vY H locs ls hp hP hD hS hl
  unfold ws_X10_grass_41 at hp
  refine lv_iload_n hx hb aSs.2.2.2.2.2.2.2.2.1 rfl (lv_at hl 3 rfl) ?_
  refine lv_if_eq (tgt := 93) hx hb aSs.2.2.2.2.2.2.2.2.2.1 (by decide) (fun hc => ?_) (fun hc => ?_)
  · have hp := hp.1 hc
    exact ks_X10_grass_93 C0 x1 x2 jC bL bY jD mLn oF rP dQ sW uZ vY H locs ls hp hP hD hS (lv_sub hl [0, 1, 2] rfl)
  · have hp := hp.2 hc
    refine lv_aload_n hx hb aSs.2.2.2.2.2.2.2.2.2.2.1 rfl (lv_at hl 0 rfl) ?_
    have hm := mgk (wc := (aVf cI cC cZ cB cJ a_m nY sJ eG iY lY jR jW jZ jO oQ bR aY jQ gY iJ mQ lJ jA bG mK jB mW mJ eJ dG bT aG jC bL bY jD mLn oF rP dQ aJ aB bW bZ aR aE bI aW bU fJ dO bM bQ bO jY oX)) hP mk_240 7 rfl rfl rfl
    refine yW hP hD hS hA (yS mk_240) (aAi mk_240) hm.1 hm.2 (aAk _) (zW _) (zF (As := []) (rest := []) C0 hP hD hS (yS mk_240) hm.1 (aAl _) 0 10 rfl rfl (c_X10_fine l dC dI cI cC cZ cB cJ a_m nY sJ eG iY lY jR jW jZ jO oQ bR aY jQ gY iJ mQ lJ jA bG mK jB mW mJ eJ dG H.size bT aG jC bL bY jD mLn oF rP dQ aJ aB bW bZ aR aE bI aW bU fJ dO bM bQ bO jY oX _ hp) q_650 q_653 q_651 q_652 aBL h_X10_fine rfl rfl ⟨lbz rfl, lbz rfl⟩ rfl rfl hl.1 rfl (lv_room (lbz rfl)) aSs.2.2.2.2.2.2.2.2.2.2.2.1 ⟨Nat.zero_le _, Nat.zero_le _⟩) (fun r_28 u H locs hp hP hD hS => ?_)
    have hPD := PDm (ws' := (aBY cI cC cZ cB cJ a_m nY sJ eG iY lY jR jW jZ jO oQ bR aY jQ gY iJ mQ lJ jA bG mK jB mW mJ eJ dG bT aG jC bL bY jD mLn oF rP dQ aJ aB bW bZ aR aE bI aW bU fJ dO bM bQ bO jY oX nG qO sW qQ uZ vY)) hP hD 7 rfl rfl rfl
    have hP := hPD.1
    have hD := hPD.2
    refine lv_if_eq (tgt := 93) hx hb aSs.2.2.2.2.2.2.2.2.2.2.2.2.1 (by decide) (fun hc => ?_) (fun hc => ?_)
    · have hp := hp.1 hc
      exact ks_X10_grass_93 C0 x1 x2 jC bL bY jD mLn oF rP dQ sW uZ vY H locs ls hp hP hD hS (lv_sub hl [0, 1, 2] rfl)
    · have hp := hp.2 hc
      refine lv_iload_n hx hb aSs.2.2.2.2.2.2.2.2.2.2.2.2.2.1 rfl (lv_at hl 2 rfl) ?_
      refine lv_bipush (v := 6) hx hb aSs.2.2.2.2.2.2.2.2.2.2.2.2.2.2.1 bp_6 ?_
      refine lv_icmp_ne (tgt := 69) hx hb aSs.2.2.2.2.2.2.2.2.2.2.2.2.2.2.2 (by decide) (fun hc => ?_) (fun hc => ?_)
      · have hp := hp.1 hc
        refine lv_aload_n hx hb aSt.2.2.2.2.2.1 rfl (lv_at hl 0 rfl) ?_
        refine va_get (D := (dC, dI)) (ci := 10) (v := .ref jB) (C := zX) (T := aBe) (N := 51) hx hb hts aAt hown hK hP 0 rfl rfl 44 (lbz rfl) (hts _ q_954) (fun _ h9 => h9) rfl aSt.2.2.2.2.2.2.1 ?_
        refine lv_iload_n hx hb aSt.2.2.2.2.2.2.2.1 rfl (lv_at hl 2 rfl) ?_
        refine lv_aload_n hx hb aSt.2.2.2.2.2.2.2.2.1 rfl (lv_at hl 0 rfl) ?_
        refine lv_iconst (v := 2) hx hb aSt.2.2.2.2.2.2.2.2.2.1 ic_2 ?_
        have hm := mgk (wc := (aG9 cI cC cZ cB cJ a_m nY sJ eG iY lY jR jW jZ jO oQ bR aY jQ gY iJ mQ lJ jA bG mK jB mW mJ eJ dG bT aG jC bL bY jD mLn oF rP dQ aJ aB bW bZ aR aE bI aW bU fJ dO bM bQ bO jY oX qO qQ)) hP mk_300 7 rfl rfl rfl
        refine yW hP hD hS hA (yS mk_300) (aAi mk_300) hm.1 hm.2 (aAk _) (zW _) (zF (As := [.int 2]) (rest := [.int x2, .ref jB]) C0 hP hD hS (yS mk_300) hm.1 (aAl _) 0 10 rfl rfl (c_X10_number l dC dI cI cC cZ cB cJ a_m nY sJ eG iY lY jR jW jZ jO oQ bR aY jQ gY iJ mQ lJ jA bG mK jB mW mJ eJ dG H.size 2 bT aG jC bL bY jD mLn oF rP dQ aJ aB bW bZ aR aE bI aW bU fJ dO bM bQ bO jY oX qO qQ _ hp) q_669 q_672 q_670 q_671 aBL h_X10_number rfl rfl ⟨lbz rfl, lbz rfl⟩ rfl rfl hl.1 rfl (lv_room (lbz rfl)) aSt.2.2.2.2.2.2.2.2.2.2.1 ⟨Nat.zero_le _, Nat.zero_le _⟩) (fun r_29 u H locs hp hP hD hS => ?_)
        obtain ⟨m_at_30, m_wrong_31⟩ := u
        have hPD := PDm (ws' := (aBY cI cC cZ cB cJ a_m nY sJ eG iY lY jR jW jZ jO oQ bR aY jQ gY iJ mQ lJ jA bG mK jB mW mJ eJ dG bT aG jC bL bY jD mLn oF m_at_30 m_wrong_31 aJ aB bW bZ aR aE bI aW bU fJ dO bM bQ bO jY oX nG qO sW qQ uZ vY)) hP hD 7 rfl rfl rfl
        have hP := hPD.1
        have hD := hPD.2
        have hin := hp.1
        have hp := hp.2
        refine va_iast hx hb hK hP hD hS 5 0 rfl rfl hin aSt.2.2.2.2.2.2.2.2.2.2.2.1 (fun H locs hP hD hS => ?_)
        have hPD := PDw (ws' := (aBY cI cC cZ cB cJ a_m nY sJ eG iY lY jR jW jZ jO oQ bR aY jQ gY iJ mQ lJ jA bG mK jB mW mJ eJ dG bT aG jC bL bY jD mLn oF m_at_30 m_wrong_31 aJ aB bW bZ aR aE bI aW bU fJ dO bM bQ bO jY oX nG qO sW qQ (upd uZ x2.toNatClampNeg r_29) vY)) hP hD rfl
        have hP := hPD.1
        have hD := hPD.2
        exact ks_X10_grass_80 C0 hKn x1 x2 jC bL bY jD mLn oF m_at_30 m_wrong_31 sW (upd uZ x2.toNatClampNeg r_29) vY H locs ls hp hP hD hS (lv_sub hl [0, 1, 2] rfl)
      · have hp := hp.2 hc
        refine lv_aload_n hx hb aSt.1 rfl (lv_at hl 0 rfl) ?_
        refine lv_aload_n hx hb aSt.2.1 rfl (lv_at hl 0 rfl) ?_
        refine va_get (D := (dC, dI)) (ci := 10) (v := .int rP) (C := zX) (T := aBe) (N := 51) hx hb hts aAt hown hK hP 0 rfl rfl 18 (lbz rfl) (hts _ q_648) (fun _ h9 => h9) rfl aSt.2.2.1 ?_
        have hm := mgk (wc := (aSM cI cC cZ cB cJ a_m nY sJ eG iY lY jR jW jZ jO oQ bR aY jQ gY iJ mQ lJ jA bG mK jB mW mJ eJ dG bT aG jC bL bY jD mLn oF rP dQ aJ aB bW bZ aR aE bI aW bU fJ dO bM bQ bO jY oX)) hP mk_240 7 rfl rfl rfl
        refine aBn hP hD hS hA (yS mk_240) (aAi mk_240) hm.1 hm.2 (aAk _) (zW _) (zF (As := [.int rP]) (rest := []) C0 hP hD hS (yS mk_240) hm.1 (aAl _) 0 10 rfl rfl (c_X10_fault l dC dI cI cC cZ cB cJ a_m nY sJ eG iY lY jR jW jZ jO oQ bR aY jQ gY iJ mQ lJ jA bG mK jB mW mJ eJ dG H.size rP bT aG jC bL bY jD mLn oF rP dQ aJ aB bW bZ aR aE bI aW bU fJ dO bM bQ bO jY oX _ hp) q_654 q_657 q_655 q_656 aBL h_X10_fault rfl rfl ⟨lbz rfl, lbz rfl⟩ rfl rfl hl.1 rfl (lv_room (lbz rfl)) aSt.2.2.2.1 ⟨Nat.zero_le _, Nat.zero_le _⟩) (fun u H locs hp hP hD hS => ?_)
        obtain ⟨m_wrong_35, rfl⟩ : ∃ z, z = u := ⟨_, rfl⟩
        have hPD := PDm (ws' := (aBY cI cC cZ cB cJ a_m nY sJ eG iY lY jR jW jZ jO oQ bR aY jQ gY iJ mQ lJ jA bG mK jB mW mJ eJ dG bT aG jC bL bY jD mLn oF rP m_wrong_35 aJ aB bW bZ aR aE bI aW bU fJ dO bM bQ bO jY oX nG qO sW qQ uZ vY)) hP hD 7 rfl rfl rfl
        have hP := hPD.1
        have hD := hPD.2
        refine lv_goto (tgt := 80) hx hb aSt.2.2.2.2.1 (by decide) ?_
        exact ks_X10_grass_80 C0 hKn x1 x2 jC bL bY jD mLn oF rP m_wrong_35 sW uZ vY H locs ls hp hP hD hS (lv_sub hl [0, 1, 2] rfl)
set_option maxHeartbeats 4000000 in
set_option maxRecDepth 100000 in
theorem kb_X10_grass_41 (C0 : gc aAu (some .int) 9 zX (dC, dI) (tyl cI cC cZ cB cJ) A p s m args meth c) : ∀ (n : Nat), ∀ (x1 x2 x3 jC bL bY : Int32) (jD : Nat) (mLn oF rP dQ : Int32) (sW uZ vY : Nat -> Int32) (H : Heap) (locs : List Loc) (ls : Array Slot), (wb_X10_grass_41 post aG nG qO qQ n) x1 x2 x3 jC bL bY jD mLn oF rP dQ sW uZ vY -> va_P (dC, dI) classes (aBY cI cC cZ cB cJ a_m nY sJ eG iY lY jR jW jZ jO oQ bR aY jQ gY iJ mQ lJ jA bG mK jB mW mJ eJ dG bT aG jC bL bY jD mLn oF rP dQ aJ aB bW bZ aR aE bI aW bU fJ dO bM bQ bO jY oX nG qO sW qQ uZ vY) H -> va_D A (aBY cI cC cZ cB cJ a_m nY sJ eG iY lY jR jW jZ jO oQ bR aY jQ gY iJ mQ lJ jA bG mK jB mW mJ eJ dG bT aG jC bL bY jD mLn oF rP dQ aJ aB bW bZ aR aE bI aW bU fJ dO bM bQ bO jY oX nG qO sW qQ uZ vY) -> va_S A s.heap H locs -> lv_has ls 9 [(0, .ref a_m), (1, .int x1), (2, .int x2), (3, .int x3)] -> W p l e aDt s m args below meth c H locs 0 0 (MQ below (aEa dC dI cI cC cZ cB cJ A a_m nY sJ eG iY lY jR jW jZ jO oQ bR aY jQ gY iJ mQ lJ jA bG mK jB mW mJ eJ dG bT aG aJ aB bW bZ aR aE bI aW bU fJ dO bM bQ bO jY oX nG qO qQ post) args s 0 0 A) (F0 m 41 ls []) := by
  intro n
  induction n with
  | zero =>
    intro x1 x2 x3 jC bL bY jD mLn oF rP dQ sW uZ vY H locs ls hp
    exact False.elim hp
  | succ n ih =>
    intro x1 x2 x3 jC bL bY jD mLn oF rP dQ sW uZ vY H locs ls hp
    exact ks_X10_grass_41 C0 ih x1 x2 x3 jC bL bY jD mLn oF rP dQ sW uZ vY H locs ls hp
end S_X10_grass
def wp_X10_grass (post : Int32 -> Int32 -> Int32 -> Int32 -> Nat -> Int32 -> Int32 -> Int32 -> Int32 -> (Nat -> Int32) -> (Nat -> Int32) -> (Nat -> Int32) -> Prop) (p0 aG jC bL bY : Int32) (jD : Nat) (mLn oF rP dQ : Int32) (nG qO sW qQ uZ vY : Nat -> Int32) : Prop := wp_X10_begin (fun aH5 aEf aKT aQ5 aGh => aJY (fun r_6 => (¬ r_6 = 0 -> ∃ n : Nat, wb_X10_grass_41 post aG nG qO qQ n p0 0 1 0 bL 0 aH5 aEf aKT aQ5 aGh sW uZ vY) /\ (r_6 = 0 -> post (-100) 0 bL 0 aH5 aEf aKT aQ5 aGh sW uZ vY)) p0 0 99) jC 80 jD mLn oF rP dQ
set_option maxHeartbeats 4000000 in
set_option maxRecDepth 100000 in
theorem c_X10_grass (l : Launch) (dC : Nat -> ClassId) (dI : Nat -> Nat -> Nat) (cI cC cZ cB cJ : ClassId) (a_m nY sJ eG iY lY jR jW jZ jO oQ bR aY jQ gY iJ mQ lJ jA bG mK jB mW mJ eJ dG sz : Nat) (p0 bT aG jC bL bY : Int32) (jD : Nat) (mLn oF rP dQ aJ aB bW bZ aR aE bI aW bU fJ dO bM bQ bO jY oX : Int32) (nG qO sW qQ uZ vY : Nat -> Int32) (post : Int32 -> Int32 -> Int32 -> Int32 -> Nat -> Int32 -> Int32 -> Int32 -> Int32 -> (Nat -> Int32) -> (Nat -> Int32) -> (Nat -> Int32) -> Prop) (hw : wp_X10_grass post p0 aG jC bL bY jD mLn oF rP dQ nG qO sW qQ uZ vY) : Met l yX10_grass (gw yX10_grass aAu 9 (some .int)) aDt (va_Pc [.ref a_m, .int p0] (gPre (dC, dI) (tyl cI cC cZ cB cJ) (aBY cI cC cZ cB cJ a_m nY sJ eG iY lY jR jW jZ jO oQ bR aY jQ gY iJ mQ lJ jA bG mK jB mW mJ eJ dG bT aG jC bL bY jD mLn oF rP dQ aJ aB bW bZ aR aE bI aW bU fJ dO bM bQ bO jY oX nG qO sW qQ uZ vY) sz)) (aEa dC dI cI cC cZ cB cJ (va_A (aBY cI cC cZ cB cJ a_m nY sJ eG iY lY jR jW jZ jO oQ bR aY jQ gY iJ mQ lJ jA bG mK jB mW mJ eJ dG bT aG jC bL bY jD mLn oF rP dQ aJ aB bW bZ aR aE bI aW bU fJ dO bM bQ bO jY oX nG qO sW qQ uZ vY) sz) a_m nY sJ eG iY lY jR jW jZ jO oQ bR aY jQ gY iJ mQ lJ jA bG mK jB mW mJ eJ dG bT aG aJ aB bW bZ aR aE bI aW bU fJ dO bM bQ bO jY oX nG qO qQ post) 0 0 (va_A (aBY cI cC cZ cB cJ a_m nY sJ eG iY lY jR jW jZ jO oQ bR aY jQ gY iJ mQ lJ jA bG mK jB mW mJ eJ dG bT aG jC bL bY jD mLn oF rP dQ aJ aB bW bZ aR aE bI aW bU fJ dO bM bQ bO jY oX nG qO sW qQ uZ vY) sz) := by
  refine aBJ (own := zX) (dC, dI) (tyl cI cC cZ cB cJ) (aBY cI cC cZ cB cJ a_m nY sJ eG iY lY jR jW jZ jO oQ bR aY jQ gY iJ mQ lJ jA bG mK jB mW mJ eJ dG bT aG jC bL bY jD mLn oF rP dQ aJ aB bW bZ aR aE bI aW bU fJ dO bM bQ bO jY oX nG qO sW qQ uZ vY) sz [.ref a_m, .int p0] (fun A => aEa dC dI cI cC cZ cB cJ A a_m nY sJ eG iY lY jR jW jZ jO oQ bR aY jQ gY iJ mQ lJ jA bG mK jB mW mJ eJ dG bT aG aJ aB bW bZ aR aE bI aW bU fJ dO bM bQ bO jY oX nG qO qQ post) aFY rfl (lbz rfl) ?_
  intro p e s m args below meth c A H locs ls C0 hP hD hS hl
  have hl : lv_has ls 9 [(0, .ref a_m), (1, .int p0)] := hl
  obtain ⟨hx, hb, hr, hml, hown, hts, hlocks, hA, hK, hN, tL, tM, hZL, hTL, hZM, hTM, hZX⟩ := id C0
  have hp := hw
  unfold wp_X10_grass at hp
  refine lv_aload_n hx hb aV7.1 rfl (lv_at hl 0 rfl) ?_
  refine lv_iconst (v := 0) hx hb aV7.2.1 aCi ?_
  refine va_put (D := (dC, dI)) (ci := 10) (v := .int 0) (ty := .int) (C := zX) (T := aBe) (N := 51) hx hb hts aAt aD2 aAa aEC hown hK hP hD hS 0 rfl rfl 14 (lbz rfl) (hts _ q_638) (fun _ h9 => h9) rfl (aAa 14 (lbz rfl)) rfl rfl (lbz rfl) aV7.2.2.1 (fun H locs hP hD hS => ?_)
  have hPD := PDw (ws' := (aBY cI cC cZ cB cJ a_m nY sJ eG iY lY jR jW jZ jO oQ bR aY jQ gY iJ mQ lJ jA bG mK jB mW mJ eJ dG bT aG jC bL 0 jD mLn oF rP dQ aJ aB bW bZ aR aE bI aW bU fJ dO bM bQ bO jY oX nG qO sW qQ uZ vY)) hP hD rfl
  have hP := hPD.1
  have hD := hPD.2
  refine lv_aload_n hx hb aV7.2.2.2.1 rfl (lv_at hl 0 rfl) ?_
  refine lv_aload_n hx hb aV7.2.2.2.2.1 rfl (lv_at hl 0 rfl) ?_
  refine va_get (D := (dC, dI)) (ci := 10) (v := .ref jO) (C := zX) (T := aBe) (N := 51) hx hb hts aAt hown hK hP 0 rfl rfl 10 (lbz rfl) (hts _ q_640) (fun _ h9 => h9) rfl aV7.2.2.2.2.2.1 ?_
  refine lv_aload_n hx hb aV7.2.2.2.2.2.2.1 rfl (lv_at hl 0 rfl) ?_
  refine va_get (D := (dC, dI)) (ci := 10) (v := .int jC) (C := zX) (T := aBe) (N := 51) hx hb hts aAt hown hK hP 0 rfl rfl 11 (lbz rfl) (hts _ q_639) (fun _ h9 => h9) rfl aV7.2.2.2.2.2.2.2.1 ?_
  refine lv_bipush (v := 80) hx hb aV7.2.2.2.2.2.2.2.2.1 bp_80 ?_
  have hm := mgk (wc := (aRM cI cC cZ cB cJ a_m nY sJ eG iY lY jR jW jZ jO oQ bR aY jQ gY iJ mQ lJ jA bG mK jB mW mJ eJ dG bT aG jC bL 0 jD mLn oF rP dQ aJ aB bW bZ aR aE bI aW bU fJ dO bM bQ bO jY oX)) hP mk_240 7 rfl rfl rfl
  refine aBn hP hD hS hA (yS mk_240) (aAi mk_240) hm.1 hm.2 (aAk _) (zW _) (zF (As := [.ref jO, .int jC, .int 80]) (rest := []) C0 hP hD hS (yS mk_240) hm.1 (aAl _) 0 10 rfl rfl (c_X10_begin l dC dI cI cC cZ cB cJ a_m nY sJ eG iY lY jR jW jZ jO oQ bR aY jQ gY iJ mQ lJ jA bG mK jB mW mJ eJ dG H.size jC 80 bT aG jC bL 0 jD mLn oF rP dQ aJ aB bW bZ aR aE bI aW bU fJ dO bM bQ bO jY oX _ hp) q_680 q_683 q_681 q_682 aBL h_X10_begin rfl rfl ⟨lbz rfl, lbz rfl⟩ rfl rfl hl.1 rfl (lv_room (lbz rfl)) aV7.2.2.2.2.2.2.2.2.2.1 ⟨Nat.zero_le _, Nat.zero_le _⟩) (fun u H locs hp hP hD hS => ?_)
  obtain ⟨aH5, aEf, aKT, aQ5, aGh⟩ := u
  have hPD := PDm (ws' := (aBY cI cC cZ cB cJ a_m nY sJ eG iY lY jR jW jZ jO oQ bR aY jQ gY iJ mQ lJ jA bG mK jB mW mJ eJ dG bT aG jC bL 0 aH5 aEf aKT aQ5 aGh aJ aB bW bZ aR aE bI aW bU fJ dO bM bQ bO jY oX nG qO sW qQ uZ vY)) hP hD 7 rfl rfl rfl
  have hP := hPD.1
  have hD := hPD.2
  refine lv_aload_n hx hb aV7.2.2.2.2.2.2.2.2.2.2.1 rfl (lv_at hl 0 rfl) ?_
  refine lv_iconst (v := 0) hx hb aV7.2.2.2.2.2.2.2.2.2.2.2.1 aCi ?_
  refine va_put (D := (dC, dI)) (ci := 10) (v := .int 0) (ty := .int) (C := zX) (T := aBe) (N := 51) hx hb hts aAt aD2 aAa aEC hown hK hP hD hS 0 rfl rfl 11 (lbz rfl) (hts _ q_639) (fun _ h9 => h9) rfl (aAa 11 (lbz rfl)) rfl rfl (lbz rfl) aV7.2.2.2.2.2.2.2.2.2.2.2.2.1 (fun H locs hP hD hS => ?_)
  have hPD := PDw (ws' := (aBY cI cC cZ cB cJ a_m nY sJ eG iY lY jR jW jZ jO oQ bR aY jQ gY iJ mQ lJ jA bG mK jB mW mJ eJ dG bT aG 0 bL 0 aH5 aEf aKT aQ5 aGh aJ aB bW bZ aR aE bI aW bU fJ dO bM bQ bO jY oX nG qO sW qQ uZ vY)) hP hD rfl
  have hP := hPD.1
  have hD := hPD.2
  refine lv_iload_n hx hb aV7.2.2.2.2.2.2.2.2.2.2.2.2.2.1 rfl (lv_at hl 1 rfl) ?_
  refine lv_iconst (v := 0) hx hb aV7.2.2.2.2.2.2.2.2.2.2.2.2.2.2.1 aCi ?_
  refine lv_bipush (v := 99) hx hb aV7.2.2.2.2.2.2.2.2.2.2.2.2.2.2.2 bp_99 ?_
  have hm := mgk (wc := (aKW cI cC cZ cB cJ)) hP mk_244 7 rfl rfl rfl
  refine yW hP hD hS hA (yS mk_244) (aAi mk_244) hm.1 hm.2 (aAk _) (zW _) (aDn (As := [.int p0, .int 0, .int 99]) (rest := []) C0 hP hD hS (yS mk_244) hm.1 (aAl _) (aRu l dC dI cI cC cZ cB cJ H.size p0 0 99 _ hp) q_641 q_644 q_643 aBL aRx rfl rfl ⟨lbz rfl, lbz rfl⟩ rfl rfl hl.1 rfl (lv_room (lbz rfl)) aSs.1 ⟨Nat.zero_le _, Nat.zero_le _⟩) (fun r_6 u H locs hp hP hD hS => ?_)
  have hPD := PDm (ws' := (aBY cI cC cZ cB cJ a_m nY sJ eG iY lY jR jW jZ jO oQ bR aY jQ gY iJ mQ lJ jA bG mK jB mW mJ eJ dG bT aG 0 bL 0 aH5 aEf aKT aQ5 aGh aJ aB bW bZ aR aE bI aW bU fJ dO bM bQ bO jY oX nG qO sW qQ uZ vY)) hP hD 7 rfl rfl rfl
  have hP := hPD.1
  have hD := hPD.2
  refine lv_if_ne (tgt := 37) hx hb aSs.2.1 (by decide) (fun hc => ?_) (fun hc => ?_)
  · have hp := hp.1 hc
    refine lv_iconst (v := 0) hx hb aSs.2.2.2.2.1 aCi ?_
    refine lv_istore_n (lv' := [(2, .int 0), (0, .ref a_m), (1, .int p0)]) hx hb aSs.2.2.2.2.2.1 rfl hl (by decide) rfl (fun ls hl => ?_)
    refine lv_iconst (v := 1) hx hb aSs.2.2.2.2.2.2.1 aDx ?_
    refine lv_istore_n (lv' := [(3, .int 1), (2, .int 0), (0, .ref a_m), (1, .int p0)]) hx hb aSs.2.2.2.2.2.2.2.1 rfl hl (by decide) rfl (fun ls hl => ?_)
    obtain ⟨n9, hp⟩ := hp
    exact kb_X10_grass_41 C0 n9 p0 0 1 0 bL 0 aH5 aEf aKT aQ5 aGh sW uZ vY H locs ls hp hP hD hS (lv_sub hl [2, 3, 1, 0] rfl)
  · have hp := hp.2 hc
    refine lv_bipush (v := (-100)) hx hb aSs.2.2.1 bp_m100 ?_
    exact W.iret (v := (-100)) hx hb hr (fun t ht hW => ⟨⟨(-100), (0, bL, 0, aH5, aEf, aKT, aQ5, aGh, sW, uZ, vY), rfl, hp, by rw [ht]; exact hP, va_K.moved hW.alike hK, hD⟩, hS.F ht⟩) hS.2.2 aSs.2.2.2.1
abbrev aPA (cI cC cZ cB cJ : ClassId) (a_m nY sJ eG iY lY jR jW jZ jO oQ bR aY jQ gY iJ mQ lJ jA bG mK jB mW mJ eJ dG : Nat) (bT aG jC bL bY : Int32) (jD : Nat) (mLn oF rP dQ aJ aB bW bZ aR aE bI aW bU fJ dO bM bQ bO jY oX : Int32) (nG : Nat -> Int32) : va_W := [(a_m, .inr (10, [.ref nY, .int bT, .ref sJ, .ref eG, .ref iY, .ref lY, .int aG, .ref jR, .ref jW, .ref jZ, .ref jO, .int jC, .ref oQ, .int bL, .int bY, rdv jO jQ jD, .int mLn, .int oF, .int rP, .int dQ, .ref bR, .ref aY, .int aJ, .int aB, .ref jQ, .int bW, .int bZ, .int aR, .int aE, .int bI, .int aW, .ref gY, .int bU, .ref iJ, .ref mQ, .int fJ, .ref lJ, .int dO, .ref jA, .ref bG, .int bM, .int bQ, .int bO, .ref mK, .ref jB, .ref mW, .int jY, .int oX, .ref mJ, .ref eJ, .ref dG])), (jR, .inl (cI, 8, .inl nG))]
abbrev q_X10_marks (dC : Nat -> ClassId) (dI : Nat -> Nat -> Nat) (cI cC cZ cB cJ : ClassId) (A : Nat -> Prop) (a_m nY sJ eG iY lY jR jW jZ jO oQ bR aY jQ gY iJ mQ lJ jA bG mK jB mW mJ eJ dG : Nat) (bT aG jC bL : Int32) (jD : Nat) (mLn oF rP dQ aJ aB bW bZ aR aE bI aW bU fJ dO bM bQ bO jY oX : Int32) (nG : Nat -> Int32) (post : Int32 -> Int32 -> Prop) : Array Value -> State -> Outcome -> State -> Prop := va_Qi (fun (r u : Int32) => post r u) (fun u t => gB (dC, dI) (tyl cI cC cZ cB cJ) A (aPA cI cC cZ cB cJ a_m nY sJ eG iY lY jR jW jZ jO oQ bR aY jQ gY iJ mQ lJ jA bG mK jB mW mJ eJ dG bT aG jC bL u jD mLn oF rP dQ aJ aB bW bZ aR aE bI aW bU fJ dO bM bQ bO jY oX nG) t) A
abbrev rm_X10_marks : Room := { frames := 1, cells := 0, slots := 0, locals := 22 }
section S_X10_marks
variable {p : Program} {l : Launch} {e : Env} {s : State} {m : MethodId} {args : Array Value} {below : List Frame} {meth : Method} {c : Code} {dC : Nat -> ClassId} {dI : Nat -> Nat -> Nat} {cI cC cZ cB cJ : ClassId} {A : Nat -> Prop} {a_m nY sJ eG iY lY jR jW jZ jO oQ bR aY jQ gY iJ mQ lJ jA bG mK jB mW mJ eJ dG : Nat} {bT aG jC bL : Int32} {jD : Nat} {mLn oF rP dQ aJ aB bW bZ aR aE bI aW bU fJ dO bM bQ bO jY oX : Int32} {nG : Nat -> Int32} {post : Int32 -> Int32 -> Prop}
def ws_X10_marks_66 (post : Int32 -> Int32 -> Prop) (K32 : Int32 -> Int32 -> Int32 -> Int32 -> Int32 -> Prop) (aG : Int32) (nG : Nat -> Int32) (x1 x2 x4 k0 k1 bY : Int32) : Prop := ∀ v_6 : Int32, v_6 = k0 ||| k1 -> ∀ v_7 : Int32, v_7 = x4 + 1 -> K32 x1 x2 v_6 v_7 bY
set_option maxHeartbeats 4000000 in
set_option maxRecDepth 100000 in
theorem ks_X10_marks_66 (C0 : gc aFu (some .int) 5 zX (dC, dI) (tyl cI cC cZ cB cJ) A p s m args meth c) {K32 : Int32 -> Int32 -> Int32 -> Int32 -> Int32 -> Prop} (hK32 : ∀ (x1 : Int32) (x2 : Int32) (x3 : Int32) (x4 : Int32) (bY : Int32) (H : Heap) (locs : List Loc) (ls : Array Slot), K32 x1 x2 x3 x4 bY -> va_P (dC, dI) classes (aPA cI cC cZ cB cJ a_m nY sJ eG iY lY jR jW jZ jO oQ bR aY jQ gY iJ mQ lJ jA bG mK jB mW mJ eJ dG bT aG jC bL bY jD mLn oF rP dQ aJ aB bW bZ aR aE bI aW bU fJ dO bM bQ bO jY oX nG) H -> va_D A (aPA cI cC cZ cB cJ a_m nY sJ eG iY lY jR jW jZ jO oQ bR aY jQ gY iJ mQ lJ jA bG mK jB mW mJ eJ dG bT aG jC bL bY jD mLn oF rP dQ aJ aB bW bZ aR aE bI aW bU fJ dO bM bQ bO jY oX nG) -> va_S A s.heap H locs -> lv_has ls 5 [(0, .ref a_m), (1, .int x1), (2, .int x2), (3, .int x3), (4, .int x4)] -> W p l e rm_X10_marks s m args below meth c H locs 0 0 (MQ below (q_X10_marks dC dI cI cC cZ cB cJ A a_m nY sJ eG iY lY jR jW jZ jO oQ bR aY jQ gY iJ mQ lJ jA bG mK jB mW mJ eJ dG bT aG jC bL jD mLn oF rP dQ aJ aB bW bZ aR aE bI aW bU fJ dO bM bQ bO jY oX nG post) args s 0 0 A) (F0 m 32 ls [])) : ∀ (x1 x2 x4 k0 k1 bY : Int32) (H : Heap) (locs : List Loc) (ls : Array Slot), (ws_X10_marks_66 post K32 aG nG) x1 x2 x4 k0 k1 bY -> va_P (dC, dI) classes (aPA cI cC cZ cB cJ a_m nY sJ eG iY lY jR jW jZ jO oQ bR aY jQ gY iJ mQ lJ jA bG mK jB mW mJ eJ dG bT aG jC bL bY jD mLn oF rP dQ aJ aB bW bZ aR aE bI aW bU fJ dO bM bQ bO jY oX nG) H -> va_D A (aPA cI cC cZ cB cJ a_m nY sJ eG iY lY jR jW jZ jO oQ bR aY jQ gY iJ mQ lJ jA bG mK jB mW mJ eJ dG bT aG jC bL bY jD mLn oF rP dQ aJ aB bW bZ aR aE bI aW bU fJ dO bM bQ bO jY oX nG) -> va_S A s.heap H locs -> lv_has ls 5 [(0, .ref a_m), (1, .int x1), (2, .int x2), (4, .int x4)] -> W p l e rm_X10_marks s m args below meth c H locs 0 0 (MQ below (q_X10_marks dC dI cI cC cZ cB cJ A a_m nY sJ eG iY lY jR jW jZ jO oQ bR aY jQ gY iJ mQ lJ jA bG mK jB mW mJ eJ dG bT aG jC bL jD mLn oF rP dQ aJ aB bW bZ aR aE bI aW bU fJ dO bM bQ bO jY oX nG post) args s 0 0 A) (F0 m 66 ls [.int k1, .int k0]) := by
  obtain ⟨hx, hb, hr, hml, hown, hts, hlocks, hA, hK, hN, tL, tM, hZL, hTL, hZM, hTM, hZX⟩ := id C0
  intro x1 x2 x4 k0 k1 bY H locs ls hp hP hD hS hl
  unfold ws_X10_marks_66 at hp
  refine lv_ior hx hb bB9.2.2.2.2.2.2.1 ?_
  refine lv_topi (fun v_6 ev_6 => ?_)
  have hp := hp v_6 ev_6
  refine lv_istore_n (lv' := [(3, .int v_6), (0, .ref a_m), (1, .int x1), (2, .int x2), (4, .int x4)]) hx hb bB9.2.2.2.2.2.2.2.1 rfl hl (by decide) rfl (fun ls hl => ?_)
  obtain ⟨v_7, ev_7⟩ : ∃ y : Int32, y = x4 + 1 := ⟨_, rfl⟩
  refine lv_iinc (v := v_7) (lv' := [(4, .int v_7), (3, .int v_6), (0, .ref a_m), (1, .int x1), (2, .int x2)]) hx hb bB9.2.2.2.2.2.2.2.2.1 hl (k := 4) rfl (by rw [ev_7]; rfl) (by decide) rfl (fun ls hl => ?_)
  have hp := hp v_7 ev_7
  refine lv_goto (tgt := 32) hx hb bB9.2.2.2.2.2.2.2.2.2.1 (by decide) ?_
  exact hK32 x1 x2 v_6 v_7 bY H locs ls hp hP hD hS (lv_sub hl [2, 3, 4, 1, 0] rfl)
def ws_X10_marks_32 (post : Int32 -> Int32 -> Prop) (next : Int32 -> Int32 -> Int32 -> Int32 -> Int32 -> Prop) (aG : Int32) (nG : Nat -> Int32) (x1 x2 x3 x4 bY : Int32) : Prop := (aG <= x4 -> post x3 bY) /\ (¬ aG <= x4 -> vp_in x4 8 /\ (∀ v_3 : Int32, v_3 = nG x4.toNatClampNeg -> ∀ v_4 : Int32, v_4 = v_3 - x1 -> ∀ v_5 : Int32, v_5 = (if 0 <= v_4 then v_4 else 0 - v_4) -> (x2 < v_5 -> ws_X10_marks_66 post next aG nG x1 x2 x4 x3 0 bY) /\ (¬ x2 < v_5 -> ∀ v_8 : Int32, v_8 = 1 <<< (x4 &&& 31) -> ws_X10_marks_66 post next aG nG x1 x2 x4 x3 v_8 bY)))
noncomputable def wb_X10_marks_32 (post : Int32 -> Int32 -> Prop) (aG : Int32) (nG : Nat -> Int32) : Nat -> Int32 -> Int32 -> Int32 -> Int32 -> Int32 -> Prop := fun n => Nat.rec (motive := fun _ => Int32 -> Int32 -> Int32 -> Int32 -> Int32 -> Prop) (fun _ _ _ _ _ => False) (fun _ ih => ws_X10_marks_32 post ih aG nG) n
set_option maxHeartbeats 4000000 in
set_option maxRecDepth 100000 in
theorem ks_X10_marks_32 (C0 : gc aFu (some .int) 5 zX (dC, dI) (tyl cI cC cZ cB cJ) A p s m args meth c) {next : Int32 -> Int32 -> Int32 -> Int32 -> Int32 -> Prop} (hKn : ∀ (x1 : Int32) (x2 : Int32) (x3 : Int32) (x4 : Int32) (bY : Int32) (H : Heap) (locs : List Loc) (ls : Array Slot), next x1 x2 x3 x4 bY -> va_P (dC, dI) classes (aPA cI cC cZ cB cJ a_m nY sJ eG iY lY jR jW jZ jO oQ bR aY jQ gY iJ mQ lJ jA bG mK jB mW mJ eJ dG bT aG jC bL bY jD mLn oF rP dQ aJ aB bW bZ aR aE bI aW bU fJ dO bM bQ bO jY oX nG) H -> va_D A (aPA cI cC cZ cB cJ a_m nY sJ eG iY lY jR jW jZ jO oQ bR aY jQ gY iJ mQ lJ jA bG mK jB mW mJ eJ dG bT aG jC bL bY jD mLn oF rP dQ aJ aB bW bZ aR aE bI aW bU fJ dO bM bQ bO jY oX nG) -> va_S A s.heap H locs -> lv_has ls 5 [(0, .ref a_m), (1, .int x1), (2, .int x2), (3, .int x3), (4, .int x4)] -> W p l e rm_X10_marks s m args below meth c H locs 0 0 (MQ below (q_X10_marks dC dI cI cC cZ cB cJ A a_m nY sJ eG iY lY jR jW jZ jO oQ bR aY jQ gY iJ mQ lJ jA bG mK jB mW mJ eJ dG bT aG jC bL jD mLn oF rP dQ aJ aB bW bZ aR aE bI aW bU fJ dO bM bQ bO jY oX nG post) args s 0 0 A) (F0 m 32 ls [])) : ∀ (x1 x2 x3 x4 bY : Int32) (H : Heap) (locs : List Loc) (ls : Array Slot), (ws_X10_marks_32 post next aG nG) x1 x2 x3 x4 bY -> va_P (dC, dI) classes (aPA cI cC cZ cB cJ a_m nY sJ eG iY lY jR jW jZ jO oQ bR aY jQ gY iJ mQ lJ jA bG mK jB mW mJ eJ dG bT aG jC bL bY jD mLn oF rP dQ aJ aB bW bZ aR aE bI aW bU fJ dO bM bQ bO jY oX nG) H -> va_D A (aPA cI cC cZ cB cJ a_m nY sJ eG iY lY jR jW jZ jO oQ bR aY jQ gY iJ mQ lJ jA bG mK jB mW mJ eJ dG bT aG jC bL bY jD mLn oF rP dQ aJ aB bW bZ aR aE bI aW bU fJ dO bM bQ bO jY oX nG) -> va_S A s.heap H locs -> lv_has ls 5 [(0, .ref a_m), (1, .int x1), (2, .int x2), (3, .int x3), (4, .int x4)] -> W p l e rm_X10_marks s m args below meth c H locs 0 0 (MQ below (q_X10_marks dC dI cI cC cZ cB cJ A a_m nY sJ eG iY lY jR jW jZ jO oQ bR aY jQ gY iJ mQ lJ jA bG mK jB mW mJ eJ dG bT aG jC bL jD mLn oF rP dQ aJ aB bW bZ aR aE bI aW bU fJ dO bM bQ bO jY oX nG post) args s 0 0 A) (F0 m 32 ls []) := by
  obtain ⟨hx, hb, hr, hml, hown, hts, hlocks, hA, hK, hN, tL, tM, hZL, hTL, hZM, hTM, hZX⟩ := id C0
  intro x1 x2 x3 x4 bY H locs ls hp hP hD hS hl
  unfold ws_X10_marks_32 at hp
  refine lv_iload hx hb aS6.2.2.2.1 (lv_at hl 4 rfl) ?_
  refine lv_aload_n hx hb aS6.2.2.2.2.1 rfl (lv_at hl 0 rfl) ?_
  refine va_get (D := (dC, dI)) (ci := 10) (v := .int aG) (C := zX) (T := aBe) (N := 51) hx hb hts aAt hown hK hP 0 rfl rfl 6 (lbz rfl) (hts _ q_666) (fun _ h9 => h9) rfl aS6.2.2.2.2.2.1 ?_
  refine lv_icmp_ge (tgt := 74) hx hb aS6.2.2.2.2.2.2.1 (by decide) (fun hc => ?_) (fun hc => ?_)
  · have hp := hp.1 hc
    refine lv_iload_n hx hb bB9.2.2.2.2.2.2.2.2.2.2.1 rfl (lv_at hl 3 rfl) ?_
    exact W.iret (v := x3) hx hb hr (fun t ht hW => ⟨⟨x3, bY, rfl, hp, by rw [ht]; exact hP, va_K.moved hW.alike hK, hD⟩, hS.F ht⟩) hS.2.2 bB9.2.2.2.2.2.2.2.2.2.2.2
  · have hp := hp.2 hc
    refine lv_iload_n hx hb aS6.2.2.2.2.2.2.2.1 rfl (lv_at hl 3 rfl) ?_
    refine lv_aload_n hx hb aS6.2.2.2.2.2.2.2.2.1 rfl (lv_at hl 0 rfl) ?_
    refine va_get (D := (dC, dI)) (ci := 10) (v := .ref jR) (C := zX) (T := aBe) (N := 51) hx hb hts aAt hown hK hP 0 rfl rfl 7 (lbz rfl) (hts _ q_686) (fun _ h9 => h9) rfl aS6.2.2.2.2.2.2.2.2.2.1 ?_
    refine lv_iload hx hb aS6.2.2.2.2.2.2.2.2.2.2.1 (lv_at hl 4 rfl) ?_
    have hin := hp.1
    have hp := hp.2
    refine va_iald hx hb hK hP 1 0 rfl rfl hin aS6.2.2.2.2.2.2.2.2.2.2.2.1 ?_
    refine lv_topi (fun v_3 aGW => ?_)
    have hp := hp v_3 aGW
    refine lv_iload_n hx hb aS6.2.2.2.2.2.2.2.2.2.2.2.2.1 rfl (lv_at hl 1 rfl) ?_
    refine lv_isub hx hb aS6.2.2.2.2.2.2.2.2.2.2.2.2.2.1 ?_
    refine lv_topi (fun v_4 aHM => ?_)
    have hp := hp v_4 aHM
    refine va_mabs hx hb (by rw [hml]; exact hl.1.symm) hown (hts _ q_698) (hts _ q_166) (hts _ q_16) (hts _ q_167) (lbz rfl) (lbz rfl) (Nat.zero_le _) (Nat.zero_le _) aS6.2.2.2.2.2.2.2.2.2.2.2.2.2.2.1 ?_
    refine lv_topi (fun v_5 aJD => ?_)
    have hp := hp v_5 aJD
    refine lv_iload_n hx hb aS6.2.2.2.2.2.2.2.2.2.2.2.2.2.2.2 rfl (lv_at hl 2 rfl) ?_
    refine lv_icmp_gt (tgt := 65) hx hb bB9.1 (by decide) (fun hc => ?_) (fun hc => ?_)
    · have hp := hp.1 hc
      refine lv_iconst (v := 0) hx hb bB9.2.2.2.2.2.1 aCi ?_
      exact ks_X10_marks_66 C0 hKn x1 x2 x4 x3 0 bY H locs ls hp hP hD hS (lv_sub hl [0, 1, 2, 4] rfl)
    · have hp := hp.2 hc
      refine lv_iconst (v := 1) hx hb bB9.2.1 aDx ?_
      refine lv_iload hx hb bB9.2.2.1 (lv_at hl 4 rfl) ?_
      refine lv_ishl hx hb bB9.2.2.2.1 ?_
      refine lv_topi (fun v_8 ev_8 => ?_)
      have hp := hp v_8 ev_8
      refine lv_goto (tgt := 66) hx hb bB9.2.2.2.2.1 (by decide) ?_
      exact ks_X10_marks_66 C0 hKn x1 x2 x4 x3 v_8 bY H locs ls hp hP hD hS (lv_sub hl [0, 1, 2, 4] rfl)
set_option maxHeartbeats 4000000 in
set_option maxRecDepth 100000 in
theorem kb_X10_marks_32 (C0 : gc aFu (some .int) 5 zX (dC, dI) (tyl cI cC cZ cB cJ) A p s m args meth c) : ∀ (n : Nat), ∀ (x1 x2 x3 x4 bY : Int32) (H : Heap) (locs : List Loc) (ls : Array Slot), (wb_X10_marks_32 post aG nG n) x1 x2 x3 x4 bY -> va_P (dC, dI) classes (aPA cI cC cZ cB cJ a_m nY sJ eG iY lY jR jW jZ jO oQ bR aY jQ gY iJ mQ lJ jA bG mK jB mW mJ eJ dG bT aG jC bL bY jD mLn oF rP dQ aJ aB bW bZ aR aE bI aW bU fJ dO bM bQ bO jY oX nG) H -> va_D A (aPA cI cC cZ cB cJ a_m nY sJ eG iY lY jR jW jZ jO oQ bR aY jQ gY iJ mQ lJ jA bG mK jB mW mJ eJ dG bT aG jC bL bY jD mLn oF rP dQ aJ aB bW bZ aR aE bI aW bU fJ dO bM bQ bO jY oX nG) -> va_S A s.heap H locs -> lv_has ls 5 [(0, .ref a_m), (1, .int x1), (2, .int x2), (3, .int x3), (4, .int x4)] -> W p l e rm_X10_marks s m args below meth c H locs 0 0 (MQ below (q_X10_marks dC dI cI cC cZ cB cJ A a_m nY sJ eG iY lY jR jW jZ jO oQ bR aY jQ gY iJ mQ lJ jA bG mK jB mW mJ eJ dG bT aG jC bL jD mLn oF rP dQ aJ aB bW bZ aR aE bI aW bU fJ dO bM bQ bO jY oX nG post) args s 0 0 A) (F0 m 32 ls []) := by
  intro n
  induction n with
  | zero =>
    intro x1 x2 x3 x4 bY H locs ls hp
    exact False.elim hp
  | succ n ih =>
    intro x1 x2 x3 x4 bY H locs ls hp
    exact ks_X10_marks_32 C0 ih x1 x2 x3 x4 bY H locs ls hp
end S_X10_marks
def wp_X10_marks (post : Int32 -> Int32 -> Prop) (p0 p1 aG bY : Int32) (nG : Nat -> Int32) : Prop := aJY (fun r_1 => (r_1 = 0 -> post (-1) 0) /\ (¬ r_1 = 0 -> aJY (fun r_2 => (¬ r_2 = 0 -> ∃ n : Nat, wb_X10_marks_32 post aG nG n p0 p1 0 0 0) /\ (r_2 = 0 -> post (-1) 0)) p1 0 99)) p0 0 99
set_option maxHeartbeats 4000000 in
set_option maxRecDepth 100000 in
theorem c_X10_marks (l : Launch) (dC : Nat -> ClassId) (dI : Nat -> Nat -> Nat) (cI cC cZ cB cJ : ClassId) (a_m nY sJ eG iY lY jR jW jZ jO oQ bR aY jQ gY iJ mQ lJ jA bG mK jB mW mJ eJ dG sz : Nat) (p0 p1 bT aG jC bL bY : Int32) (jD : Nat) (mLn oF rP dQ aJ aB bW bZ aR aE bI aW bU fJ dO bM bQ bO jY oX : Int32) (nG : Nat -> Int32) (post : Int32 -> Int32 -> Prop) (hw : wp_X10_marks post p0 p1 aG bY nG) : Met l yX10_marks (gw yX10_marks aFu 5 (some .int)) rm_X10_marks (va_Pc [.ref a_m, .int p0, .int p1] (gPre (dC, dI) (tyl cI cC cZ cB cJ) (aPA cI cC cZ cB cJ a_m nY sJ eG iY lY jR jW jZ jO oQ bR aY jQ gY iJ mQ lJ jA bG mK jB mW mJ eJ dG bT aG jC bL bY jD mLn oF rP dQ aJ aB bW bZ aR aE bI aW bU fJ dO bM bQ bO jY oX nG) sz)) (q_X10_marks dC dI cI cC cZ cB cJ (va_A (aPA cI cC cZ cB cJ a_m nY sJ eG iY lY jR jW jZ jO oQ bR aY jQ gY iJ mQ lJ jA bG mK jB mW mJ eJ dG bT aG jC bL bY jD mLn oF rP dQ aJ aB bW bZ aR aE bI aW bU fJ dO bM bQ bO jY oX nG) sz) a_m nY sJ eG iY lY jR jW jZ jO oQ bR aY jQ gY iJ mQ lJ jA bG mK jB mW mJ eJ dG bT aG jC bL jD mLn oF rP dQ aJ aB bW bZ aR aE bI aW bU fJ dO bM bQ bO jY oX nG post) 0 0 (va_A (aPA cI cC cZ cB cJ a_m nY sJ eG iY lY jR jW jZ jO oQ bR aY jQ gY iJ mQ lJ jA bG mK jB mW mJ eJ dG bT aG jC bL bY jD mLn oF rP dQ aJ aB bW bZ aR aE bI aW bU fJ dO bM bQ bO jY oX nG) sz) := by
  refine aBJ (own := zX) (dC, dI) (tyl cI cC cZ cB cJ) (aPA cI cC cZ cB cJ a_m nY sJ eG iY lY jR jW jZ jO oQ bR aY jQ gY iJ mQ lJ jA bG mK jB mW mJ eJ dG bT aG jC bL bY jD mLn oF rP dQ aJ aB bW bZ aR aE bI aW bU fJ dO bM bQ bO jY oX nG) sz [.ref a_m, .int p0, .int p1] (fun A => q_X10_marks dC dI cI cC cZ cB cJ A a_m nY sJ eG iY lY jR jW jZ jO oQ bR aY jQ gY iJ mQ lJ jA bG mK jB mW mJ eJ dG bT aG jC bL jD mLn oF rP dQ aJ aB bW bZ aR aE bI aW bU fJ dO bM bQ bO jY oX nG post) aFY rfl (lbz rfl) ?_
  intro p e s m args below meth c A H locs ls C0 hP hD hS hl
  have hl : lv_has ls 5 [(0, .ref a_m), (1, .int p0), (2, .int p1)] := hl
  obtain ⟨hx, hb, hr, hml, hown, hts, hlocks, hA, hK, hN, tL, tM, hZL, hTL, hZM, hTM, hZX⟩ := id C0
  have hp := hw
  unfold wp_X10_marks at hp
  refine lv_aload_n hx hb aSF.1 rfl (lv_at hl 0 rfl) ?_
  refine lv_iconst (v := 0) hx hb aSF.2.1 aCi ?_
  refine va_put (D := (dC, dI)) (ci := 10) (v := .int 0) (ty := .int) (C := zX) (T := aBe) (N := 51) hx hb hts aAt aD2 aAa aEC hown hK hP hD hS 0 rfl rfl 14 (lbz rfl) (hts _ q_638) (fun _ h9 => h9) rfl (aAa 14 (lbz rfl)) rfl rfl (lbz rfl) aSF.2.2.1 (fun H locs hP hD hS => ?_)
  have hPD := PDw (ws' := (aPA cI cC cZ cB cJ a_m nY sJ eG iY lY jR jW jZ jO oQ bR aY jQ gY iJ mQ lJ jA bG mK jB mW mJ eJ dG bT aG jC bL 0 jD mLn oF rP dQ aJ aB bW bZ aR aE bI aW bU fJ dO bM bQ bO jY oX nG)) hP hD rfl
  have hP := hPD.1
  have hD := hPD.2
  refine lv_iload_n hx hb aSF.2.2.2.1 rfl (lv_at hl 1 rfl) ?_
  refine lv_iconst (v := 0) hx hb aSF.2.2.2.2.1 aCi ?_
  refine lv_bipush (v := 99) hx hb aSF.2.2.2.2.2.1 bp_99 ?_
  refine yW (wc := (aKW cI cC cZ cB cJ)) hP hD hS hA [] [0, 1] rfl rfl rfl rfl (aDn (As := [.int p0, .int 0, .int 99]) (rest := []) C0 hP hD hS [] rfl rfl (aRu l dC dI cI cC cZ cB cJ H.size p0 0 99 _ hp) q_641 q_644 q_643 aBL aRx rfl rfl ⟨lbz rfl, lbz rfl⟩ rfl rfl hl.1 rfl (lv_room (lbz rfl)) aSF.2.2.2.2.2.2.1 ⟨Nat.zero_le _, Nat.zero_le _⟩) (fun r_1 u H locs hp hP hD hS => ?_)
  have hPD := PDs (ws' := (aPA cI cC cZ cB cJ a_m nY sJ eG iY lY jR jW jZ jO oQ bR aY jQ gY iJ mQ lJ jA bG mK jB mW mJ eJ dG bT aG jC bL 0 jD mLn oF rP dQ aJ aB bW bZ aR aE bI aW bU fJ dO bM bQ bO jY oX nG)) hP hD [0, 1] (by decide) rfl
  have hP := hPD.1
  have hD := hPD.2
  refine lv_if_eq (tgt := 25) hx hb aSF.2.2.2.2.2.2.2.1 (by decide) (fun hc => ?_) (fun hc => ?_)
  · have hp := hp.1 hc
    refine lv_iconst (v := (-1)) hx hb aSF.2.2.2.2.2.2.2.2.2.2.2.2.2.1 aEJ ?_
    exact W.iret (v := (-1)) hx hb hr (fun t ht hW => ⟨⟨(-1), 0, rfl, hp, by rw [ht]; exact hP, va_K.moved hW.alike hK, hD⟩, hS.F ht⟩) hS.2.2 aSF.2.2.2.2.2.2.2.2.2.2.2.2.2.2.1
  · have hp := hp.2 hc
    refine lv_iload_n hx hb aSF.2.2.2.2.2.2.2.2.1 rfl (lv_at hl 2 rfl) ?_
    refine lv_iconst (v := 0) hx hb aSF.2.2.2.2.2.2.2.2.2.1 aCi ?_
    refine lv_bipush (v := 99) hx hb aSF.2.2.2.2.2.2.2.2.2.2.1 bp_99 ?_
    refine yW (wc := (aKW cI cC cZ cB cJ)) hP hD hS hA [] [0, 1] rfl rfl rfl rfl (aDn (As := [.int p1, .int 0, .int 99]) (rest := []) C0 hP hD hS [] rfl rfl (aRu l dC dI cI cC cZ cB cJ H.size p1 0 99 _ hp) q_641 q_644 q_643 aBL aRx rfl rfl ⟨lbz rfl, lbz rfl⟩ rfl rfl hl.1 rfl (lv_room (lbz rfl)) aSF.2.2.2.2.2.2.2.2.2.2.2.1 ⟨Nat.zero_le _, Nat.zero_le _⟩) (fun r_2 u H locs hp hP hD hS => ?_)
    have hPD := PDs (ws' := (aPA cI cC cZ cB cJ a_m nY sJ eG iY lY jR jW jZ jO oQ bR aY jQ gY iJ mQ lJ jA bG mK jB mW mJ eJ dG bT aG jC bL 0 jD mLn oF rP dQ aJ aB bW bZ aR aE bI aW bU fJ dO bM bQ bO jY oX nG)) hP hD [0, 1] (by decide) rfl
    have hP := hPD.1
    have hD := hPD.2
    refine lv_if_ne (tgt := 27) hx hb aSF.2.2.2.2.2.2.2.2.2.2.2.2.1 (by decide) (fun hc => ?_) (fun hc => ?_)
    · have hp := hp.1 hc
      refine lv_iconst (v := 0) hx hb aSF.2.2.2.2.2.2.2.2.2.2.2.2.2.2.2 aCi ?_
      refine lv_istore_n (lv' := [(3, .int 0), (0, .ref a_m), (1, .int p0), (2, .int p1)]) hx hb aS6.1 rfl hl (by decide) rfl (fun ls hl => ?_)
      refine lv_iconst (v := 0) hx hb aS6.2.1 aCi ?_
      refine lv_istore (lv' := [(4, .int 0), (3, .int 0), (0, .ref a_m), (1, .int p0), (2, .int p1)]) hx hb aS6.2.2.1 hl (by decide) rfl (fun ls hl => ?_)
      obtain ⟨n9, hp⟩ := hp
      exact kb_X10_marks_32 C0 n9 p0 p1 0 0 0 H locs ls hp hP hD hS (lv_sub hl [2, 3, 4, 1, 0] rfl)
    · have hp := hp.2 hc
      refine lv_iconst (v := (-1)) hx hb aSF.2.2.2.2.2.2.2.2.2.2.2.2.2.1 aEJ ?_
      exact W.iret (v := (-1)) hx hb hr (fun t ht hW => ⟨⟨(-1), 0, rfl, hp, by rw [ht]; exact hP, va_K.moved hW.alike hK, hD⟩, hS.F ht⟩) hS.2.2 aSF.2.2.2.2.2.2.2.2.2.2.2.2.2.2.1
abbrev wd_X10_allFruits (cI cC cZ cB cJ : ClassId) (a_m nY sJ eG iY lY jR jW jZ jO oQ bR aY jQ gY iJ mQ lJ jA bG mK jB mW mJ eJ dG : Nat) (bT aG jC bL bY : Int32) (jD : Nat) (mLn oF rP dQ aJ aB bW bZ aR aE bI aW bU fJ dO bM bQ bO jY oX : Int32) : va_W := [(a_m, .inr (10, [.ref nY, .int bT, .ref sJ, .ref eG, .ref iY, .ref lY, .int aG, .ref jR, .ref jW, .ref jZ, .ref jO, .int jC, .ref oQ, .int bL, .int bY, rdv jO jQ jD, .int mLn, .int oF, .int rP, .int dQ, .ref bR, .ref aY, .int aJ, .int aB, .ref jQ, .int bW, .int bZ, .int aR, .int aE, .int bI, .int aW, .ref gY, .int bU, .ref iJ, .ref mQ, .int fJ, .ref lJ, .int dO, .ref jA, .ref bG, .int bM, .int bQ, .int bO, .ref mK, .ref jB, .ref mW, .int jY, .int oX, .ref mJ, .ref eJ, .ref dG]))]
abbrev q_X10_allFruits (dC : Nat -> ClassId) (dI : Nat -> Nat -> Nat) (cI cC cZ cB cJ : ClassId) (A : Nat -> Prop) (a_m nY sJ eG iY lY jR jW jZ jO oQ bR aY jQ gY iJ mQ lJ jA bG mK jB mW mJ eJ dG : Nat) (bT aG jC bL bY : Int32) (jD : Nat) (mLn oF rP dQ aJ aB bW bZ aR aE bI aW bU fJ dO bM bQ bO jY oX : Int32) (post : Int32 -> Prop) : Array Value -> State -> Outcome -> State -> Prop := va_Qi (fun (r : Int32) (u : Unit) => post r) (fun u t => gB (dC, dI) (tyl cI cC cZ cB cJ) A (wd_X10_allFruits cI cC cZ cB cJ a_m nY sJ eG iY lY jR jW jZ jO oQ bR aY jQ gY iJ mQ lJ jA bG mK jB mW mJ eJ dG bT aG jC bL bY jD mLn oF rP dQ aJ aB bW bZ aR aE bI aW bU fJ dO bM bQ bO jY oX) t) A
abbrev rm_X10_allFruits : Room := { frames := 0, cells := 0, slots := 0, locals := 0 }
def wp_X10_allFruits (post : Int32 -> Prop) (bT : Int32) : Prop := ∀ v_1 : Int32, v_1 = 1 <<< (bT &&& 31) -> post (v_1 - 1)
set_option maxHeartbeats 4000000 in
set_option maxRecDepth 100000 in
theorem c_X10_allFruits (l : Launch) (dC : Nat -> ClassId) (dI : Nat -> Nat -> Nat) (cI cC cZ cB cJ : ClassId) (a_m nY sJ eG iY lY jR jW jZ jO oQ bR aY jQ gY iJ mQ lJ jA bG mK jB mW mJ eJ dG sz : Nat) (bT aG jC bL bY : Int32) (jD : Nat) (mLn oF rP dQ aJ aB bW bZ aR aE bI aW bU fJ dO bM bQ bO jY oX : Int32) (post : Int32 -> Prop) (hw : wp_X10_allFruits post bT) : Met l bBy (gw bBy cX10_allFruits 1 (some .int)) rm_X10_allFruits (va_Pc [.ref a_m] (gPre (dC, dI) (tyl cI cC cZ cB cJ) (wd_X10_allFruits cI cC cZ cB cJ a_m nY sJ eG iY lY jR jW jZ jO oQ bR aY jQ gY iJ mQ lJ jA bG mK jB mW mJ eJ dG bT aG jC bL bY jD mLn oF rP dQ aJ aB bW bZ aR aE bI aW bU fJ dO bM bQ bO jY oX) sz)) (q_X10_allFruits dC dI cI cC cZ cB cJ (va_A (wd_X10_allFruits cI cC cZ cB cJ a_m nY sJ eG iY lY jR jW jZ jO oQ bR aY jQ gY iJ mQ lJ jA bG mK jB mW mJ eJ dG bT aG jC bL bY jD mLn oF rP dQ aJ aB bW bZ aR aE bI aW bU fJ dO bM bQ bO jY oX) sz) a_m nY sJ eG iY lY jR jW jZ jO oQ bR aY jQ gY iJ mQ lJ jA bG mK jB mW mJ eJ dG bT aG jC bL bY jD mLn oF rP dQ aJ aB bW bZ aR aE bI aW bU fJ dO bM bQ bO jY oX post) 0 0 (va_A (wd_X10_allFruits cI cC cZ cB cJ a_m nY sJ eG iY lY jR jW jZ jO oQ bR aY jQ gY iJ mQ lJ jA bG mK jB mW mJ eJ dG bT aG jC bL bY jD mLn oF rP dQ aJ aB bW bZ aR aE bI aW bU fJ dO bM bQ bO jY oX) sz) := by
  refine aBJ (own := zX) (dC, dI) (tyl cI cC cZ cB cJ) (wd_X10_allFruits cI cC cZ cB cJ a_m nY sJ eG iY lY jR jW jZ jO oQ bR aY jQ gY iJ mQ lJ jA bG mK jB mW mJ eJ dG bT aG jC bL bY jD mLn oF rP dQ aJ aB bW bZ aR aE bI aW bU fJ dO bM bQ bO jY oX) sz [.ref a_m] (fun A => q_X10_allFruits dC dI cI cC cZ cB cJ A a_m nY sJ eG iY lY jR jW jZ jO oQ bR aY jQ gY iJ mQ lJ jA bG mK jB mW mJ eJ dG bT aG jC bL bY jD mLn oF rP dQ aJ aB bW bZ aR aE bI aW bU fJ dO bM bQ bO jY oX post) aFY rfl (lbz rfl) ?_
  intro p e s m args below meth c A H locs ls C0 hP hD hS hl
  have hl : lv_has ls 1 [(0, .ref a_m)] := hl
  obtain ⟨hx, hb, hr, hml, hown, hts, hlocks, hA, hK, hN, tL, tM, hZL, hTL, hZM, hTM, hZX⟩ := id C0
  have hp := hw
  unfold wp_X10_allFruits at hp
  refine lv_iconst (v := 1) hx hb eX10_allFruits_0.1 aDx ?_
  refine lv_aload_n hx hb eX10_allFruits_0.2.1 rfl (lv_at hl 0 rfl) ?_
  refine va_get (D := (dC, dI)) (ci := 10) (v := .int bT) (C := zX) (T := aBe) (N := 51) hx hb hts aAt hown hK hP 0 rfl rfl 1 (lbz rfl) (hts _ q_677) (fun _ h9 => h9) rfl eX10_allFruits_0.2.2.1 ?_
  refine lv_ishl hx hb eX10_allFruits_0.2.2.2.1 ?_
  refine lv_topi (fun v_1 aFJ => ?_)
  have hp := hp v_1 aFJ
  refine lv_iconst (v := 1) hx hb eX10_allFruits_0.2.2.2.2.1 aDx ?_
  refine lv_isub hx hb eX10_allFruits_0.2.2.2.2.2.1 ?_
  exact W.iret (v := v_1 - 1) hx hb hr (fun t ht hW => ⟨⟨v_1 - 1, (), rfl, hp, by rw [ht]; exact hP, va_K.moved hW.alike hK, hD⟩, hS.F ht⟩) hS.2.2 eX10_allFruits_0.2.2.2.2.2.2
abbrev aEG (cI cC cZ cB cJ : ClassId) (a_m nY sJ eG iY lY jR jW jZ jO oQ bR aY jQ gY iJ mQ lJ jA bG mK jB mW mJ eJ dG : Nat) (bT aG jC bL bY : Int32) (jD : Nat) (mLn oF rP dQ aJ aB bW bZ aR aE bI aW bU fJ dO bM bQ bO jY oX : Int32) (qG m_x gR qR nG oO pJ sW sH : Nat -> Int32) : va_W := [(a_m, .inr (10, [.ref nY, .int bT, .ref sJ, .ref eG, .ref iY, .ref lY, .int aG, .ref jR, .ref jW, .ref jZ, .ref jO, .int jC, .ref oQ, .int bL, .int bY, rdv jO jQ jD, .int mLn, .int oF, .int rP, .int dQ, .ref bR, .ref aY, .int aJ, .int aB, .ref jQ, .int bW, .int bZ, .int aR, .int aE, .int bI, .int aW, .ref gY, .int bU, .ref iJ, .ref mQ, .int fJ, .ref lJ, .int dO, .ref jA, .ref bG, .int bM, .int bQ, .int bO, .ref mK, .ref jB, .ref mW, .int jY, .int oX, .ref mJ, .ref eJ, .ref dG])), (nY, .inl (cI, 21, .inl qG)), (sJ, .inl (cI, 16, .inl m_x)), (eG, .inl (cI, 16, .inl gR)), (lY, .inl (cI, 16, .inl qR)), (jR, .inl (cI, 8, .inl nG)), (jW, .inl (cI, 8, .inl oO)), (jZ, .inl (cI, 5, .inl pJ)), (oQ, .inl (cI, 32, .inl sW)), (lJ, .inl (cI, 8, .inl sH))]
abbrev bA1 (dC : Nat -> ClassId) (dI : Nat -> Nat -> Nat) (cI cC cZ cB cJ : ClassId) (A : Nat -> Prop) (a_m nY sJ eG iY lY jR jW jZ jO oQ bR aY jQ gY iJ mQ lJ jA bG mK jB mW mJ eJ dG : Nat) (bT aG jC : Int32) (jD : Nat) (mLn oF rP dQ aJ aB bW bZ aR aE bI aW bU fJ bM bQ bO jY oX : Int32) (qG m_x gR qR nG oO pJ : Nat -> Int32) (post : Int32 -> Int32 -> Int32 -> Int32 -> (Nat -> Int32) -> (Nat -> Int32) -> Prop) : Array Value -> State -> Outcome -> State -> Prop := va_Qi (fun (r : Int32) (u : Int32 × Int32 × Int32 × (Nat -> Int32) × (Nat -> Int32)) => post r u.1 u.2.1 u.2.2.1 u.2.2.2.1 u.2.2.2.2) (fun u t => gB (dC, dI) (tyl cI cC cZ cB cJ) A (aEG cI cC cZ cB cJ a_m nY sJ eG iY lY jR jW jZ jO oQ bR aY jQ gY iJ mQ lJ jA bG mK jB mW mJ eJ dG bT aG jC u.1 u.2.1 jD mLn oF rP dQ aJ aB bW bZ aR aE bI aW bU fJ u.2.2.1 bM bQ bO jY oX qG m_x gR qR nG oO pJ u.2.2.2.1 u.2.2.2.2) t) A
abbrev aYO : Room := { frames := 6, cells := 0, slots := 0, locals := 133 }
section S_X10_fits
variable {p : Program} {l : Launch} {e : Env} {s : State} {m : MethodId} {args : Array Value} {below : List Frame} {meth : Method} {c : Code} {dC : Nat -> ClassId} {dI : Nat -> Nat -> Nat} {cI cC cZ cB cJ : ClassId} {A : Nat -> Prop} {a_m nY sJ eG iY lY jR jW jZ jO oQ bR aY jQ gY iJ mQ lJ jA bG mK jB mW mJ eJ dG : Nat} {bT aG jC : Int32} {jD : Nat} {mLn oF rP dQ aJ aB bW bZ aR aE bI aW bU fJ bM bQ bO jY oX : Int32} {qG m_x gR qR nG oO pJ : Nat -> Int32} {post : Int32 -> Int32 -> Int32 -> Int32 -> (Nat -> Int32) -> (Nat -> Int32) -> Prop}
def ws_X10_fits_156 (post : Int32 -> Int32 -> Int32 -> Int32 -> (Nat -> Int32) -> (Nat -> Int32) -> Prop) (K73 : Int32 -> Int32 -> Int32 -> Int32 -> Int32 -> Int32 -> Int32 -> Int32 -> Int32 -> (Nat -> Int32) -> (Nat -> Int32) -> Prop) (bT aG : Int32) (qG m_x gR qR nG oO pJ : Nat -> Int32) (x1 x2 x3 x4 x5 x6 bL bY dO : Int32) (sW sH : Nat -> Int32) : Prop := ∀ aEr : Int32, aEr = x6 + 1 -> K73 x1 x2 x3 x4 x5 aEr bL bY dO sW sH
set_option maxHeartbeats 4000000 in
set_option maxRecDepth 100000 in
theorem ks_X10_fits_156 (C0 : gc aCU (some .int) 7 zX (dC, dI) (tyl cI cC cZ cB cJ) A p s m args meth c) {K73 : Int32 -> Int32 -> Int32 -> Int32 -> Int32 -> Int32 -> Int32 -> Int32 -> Int32 -> (Nat -> Int32) -> (Nat -> Int32) -> Prop} (hK73 : ∀ (x1 : Int32) (x2 : Int32) (x3 : Int32) (x4 : Int32) (x5 : Int32) (x6 : Int32) (bL : Int32) (bY : Int32) (dO : Int32) (sW : Nat -> Int32) (sH : Nat -> Int32) (H : Heap) (locs : List Loc) (ls : Array Slot), K73 x1 x2 x3 x4 x5 x6 bL bY dO sW sH -> va_P (dC, dI) classes (aEG cI cC cZ cB cJ a_m nY sJ eG iY lY jR jW jZ jO oQ bR aY jQ gY iJ mQ lJ jA bG mK jB mW mJ eJ dG bT aG jC bL bY jD mLn oF rP dQ aJ aB bW bZ aR aE bI aW bU fJ dO bM bQ bO jY oX qG m_x gR qR nG oO pJ sW sH) H -> va_D A (aEG cI cC cZ cB cJ a_m nY sJ eG iY lY jR jW jZ jO oQ bR aY jQ gY iJ mQ lJ jA bG mK jB mW mJ eJ dG bT aG jC bL bY jD mLn oF rP dQ aJ aB bW bZ aR aE bI aW bU fJ dO bM bQ bO jY oX qG m_x gR qR nG oO pJ sW sH) -> va_S A s.heap H locs -> lv_has ls 7 [(0, .ref a_m), (1, .int x1), (2, .int x2), (3, .int x3), (4, .int x4), (5, .int x5), (6, .int x6)] -> W p l e aYO s m args below meth c H locs 0 0 (MQ below (bA1 dC dI cI cC cZ cB cJ A a_m nY sJ eG iY lY jR jW jZ jO oQ bR aY jQ gY iJ mQ lJ jA bG mK jB mW mJ eJ dG bT aG jC jD mLn oF rP dQ aJ aB bW bZ aR aE bI aW bU fJ bM bQ bO jY oX qG m_x gR qR nG oO pJ post) args s 0 0 A) (F0 m 73 ls [])) : ∀ (x1 x2 x3 x4 x5 x6 bL bY dO : Int32) (sW sH : Nat -> Int32) (H : Heap) (locs : List Loc) (ls : Array Slot), (ws_X10_fits_156 post K73 bT aG qG m_x gR qR nG oO pJ) x1 x2 x3 x4 x5 x6 bL bY dO sW sH -> va_P (dC, dI) classes (aEG cI cC cZ cB cJ a_m nY sJ eG iY lY jR jW jZ jO oQ bR aY jQ gY iJ mQ lJ jA bG mK jB mW mJ eJ dG bT aG jC bL bY jD mLn oF rP dQ aJ aB bW bZ aR aE bI aW bU fJ dO bM bQ bO jY oX qG m_x gR qR nG oO pJ sW sH) H -> va_D A (aEG cI cC cZ cB cJ a_m nY sJ eG iY lY jR jW jZ jO oQ bR aY jQ gY iJ mQ lJ jA bG mK jB mW mJ eJ dG bT aG jC bL bY jD mLn oF rP dQ aJ aB bW bZ aR aE bI aW bU fJ dO bM bQ bO jY oX qG m_x gR qR nG oO pJ sW sH) -> va_S A s.heap H locs -> lv_has ls 7 [(0, .ref a_m), (1, .int x1), (2, .int x2), (3, .int x3), (4, .int x4), (5, .int x5), (6, .int x6)] -> W p l e aYO s m args below meth c H locs 0 0 (MQ below (bA1 dC dI cI cC cZ cB cJ A a_m nY sJ eG iY lY jR jW jZ jO oQ bR aY jQ gY iJ mQ lJ jA bG mK jB mW mJ eJ dG bT aG jC jD mLn oF rP dQ aJ aB bW bZ aR aE bI aW bU fJ bM bQ bO jY oX qG m_x gR qR nG oO pJ post) args s 0 0 A) (F0 m 156 ls []) := by
  obtain ⟨hx, hb, hr, hml, hown, hts, hlocks, hA, hK, hN, tL, tM, hZL, hTL, hZM, hTM, hZX⟩ := id C0
  intro x1 x2 x3 x4 x5 x6 bL bY dO sW sH H locs ls hp hP hD hS hl
  unfold ws_X10_fits_156 at hp
  obtain ⟨aEr, aNB⟩ : ∃ y : Int32, y = x6 + 1 := ⟨_, rfl⟩
  refine lv_iinc (v := aEr) (lv' := [(6, .int aEr), (0, .ref a_m), (1, .int x1), (2, .int x2), (3, .int x3), (4, .int x4), (5, .int x5)]) hx hb aSn.2.2.2.2.2.2.2.2.1 hl (k := 6) rfl (by rw [aNB]; rfl) (by decide) rfl (fun ls hl => ?_)
  have hp := hp aEr aNB
  refine lv_goto (tgt := 73) hx hb aSn.2.2.2.2.2.2.2.2.2.1 (by decide) ?_
  exact hK73 x1 x2 x3 x4 x5 aEr bL bY dO sW sH H locs ls hp hP hD hS (lv_sub hl [1, 2, 3, 4, 5, 6, 0] rfl)
def ws_X10_fits_152 (post : Int32 -> Int32 -> Int32 -> Int32 -> (Nat -> Int32) -> (Nat -> Int32) -> Prop) (K73 : Int32 -> Int32 -> Int32 -> Int32 -> Int32 -> Int32 -> Int32 -> Int32 -> Int32 -> (Nat -> Int32) -> (Nat -> Int32) -> Prop) (bT aG : Int32) (qG m_x gR qR nG oO pJ : Nat -> Int32) (x1 x2 x3 x4 x6 bL bY dO : Int32) (sW sH : Nat -> Int32) : Prop := ws_X10_fits_156 post K73 bT aG qG m_x gR qR nG oO pJ x1 x2 x3 x4 x6 x6 bL bY dO sW sH
set_option maxHeartbeats 4000000 in
set_option maxRecDepth 100000 in
theorem ks_X10_fits_152 (C0 : gc aCU (some .int) 7 zX (dC, dI) (tyl cI cC cZ cB cJ) A p s m args meth c) {K73 : Int32 -> Int32 -> Int32 -> Int32 -> Int32 -> Int32 -> Int32 -> Int32 -> Int32 -> (Nat -> Int32) -> (Nat -> Int32) -> Prop} (hK73 : ∀ (x1 : Int32) (x2 : Int32) (x3 : Int32) (x4 : Int32) (x5 : Int32) (x6 : Int32) (bL : Int32) (bY : Int32) (dO : Int32) (sW : Nat -> Int32) (sH : Nat -> Int32) (H : Heap) (locs : List Loc) (ls : Array Slot), K73 x1 x2 x3 x4 x5 x6 bL bY dO sW sH -> va_P (dC, dI) classes (aEG cI cC cZ cB cJ a_m nY sJ eG iY lY jR jW jZ jO oQ bR aY jQ gY iJ mQ lJ jA bG mK jB mW mJ eJ dG bT aG jC bL bY jD mLn oF rP dQ aJ aB bW bZ aR aE bI aW bU fJ dO bM bQ bO jY oX qG m_x gR qR nG oO pJ sW sH) H -> va_D A (aEG cI cC cZ cB cJ a_m nY sJ eG iY lY jR jW jZ jO oQ bR aY jQ gY iJ mQ lJ jA bG mK jB mW mJ eJ dG bT aG jC bL bY jD mLn oF rP dQ aJ aB bW bZ aR aE bI aW bU fJ dO bM bQ bO jY oX qG m_x gR qR nG oO pJ sW sH) -> va_S A s.heap H locs -> lv_has ls 7 [(0, .ref a_m), (1, .int x1), (2, .int x2), (3, .int x3), (4, .int x4), (5, .int x5), (6, .int x6)] -> W p l e aYO s m args below meth c H locs 0 0 (MQ below (bA1 dC dI cI cC cZ cB cJ A a_m nY sJ eG iY lY jR jW jZ jO oQ bR aY jQ gY iJ mQ lJ jA bG mK jB mW mJ eJ dG bT aG jC jD mLn oF rP dQ aJ aB bW bZ aR aE bI aW bU fJ bM bQ bO jY oX qG m_x gR qR nG oO pJ post) args s 0 0 A) (F0 m 73 ls [])) : ∀ (x1 x2 x3 x4 x6 bL bY dO : Int32) (sW sH : Nat -> Int32) (H : Heap) (locs : List Loc) (ls : Array Slot), (ws_X10_fits_152 post K73 bT aG qG m_x gR qR nG oO pJ) x1 x2 x3 x4 x6 bL bY dO sW sH -> va_P (dC, dI) classes (aEG cI cC cZ cB cJ a_m nY sJ eG iY lY jR jW jZ jO oQ bR aY jQ gY iJ mQ lJ jA bG mK jB mW mJ eJ dG bT aG jC bL bY jD mLn oF rP dQ aJ aB bW bZ aR aE bI aW bU fJ dO bM bQ bO jY oX qG m_x gR qR nG oO pJ sW sH) H -> va_D A (aEG cI cC cZ cB cJ a_m nY sJ eG iY lY jR jW jZ jO oQ bR aY jQ gY iJ mQ lJ jA bG mK jB mW mJ eJ dG bT aG jC bL bY jD mLn oF rP dQ aJ aB bW bZ aR aE bI aW bU fJ dO bM bQ bO jY oX qG m_x gR qR nG oO pJ sW sH) -> va_S A s.heap H locs -> lv_has ls 7 [(0, .ref a_m), (1, .int x1), (2, .int x2), (3, .int x3), (4, .int x4), (6, .int x6)] -> W p l e aYO s m args below meth c H locs 0 0 (MQ below (bA1 dC dI cI cC cZ cB cJ A a_m nY sJ eG iY lY jR jW jZ jO oQ bR aY jQ gY iJ mQ lJ jA bG mK jB mW mJ eJ dG bT aG jC jD mLn oF rP dQ aJ aB bW bZ aR aE bI aW bU fJ bM bQ bO jY oX qG m_x gR qR nG oO pJ post) args s 0 0 A) (F0 m 152 ls []) := by
  obtain ⟨hx, hb, hr, hml, hown, hts, hlocks, hA, hK, hN, tL, tM, hZL, hTL, hZM, hTM, hZX⟩ := id C0
  intro x1 x2 x3 x4 x6 bL bY dO sW sH H locs ls hp hP hD hS hl
  unfold ws_X10_fits_152 at hp
  refine lv_iload hx hb aSn.2.2.2.2.2.2.1 (lv_at hl 5 rfl) ?_
  refine lv_istore (lv' := [(5, .int x6), (0, .ref a_m), (1, .int x1), (2, .int x2), (3, .int x3), (4, .int x4), (6, .int x6)]) hx hb aSn.2.2.2.2.2.2.2.1 hl (by decide) rfl (fun ls hl => ?_)
  exact ks_X10_fits_156 C0 hK73 x1 x2 x3 x4 x6 x6 bL bY dO sW sH H locs ls hp hP hD hS (lv_sub hl [1, 2, 3, 4, 5, 0, 6] rfl)
def ws_X10_fits_133 (post : Int32 -> Int32 -> Int32 -> Int32 -> (Nat -> Int32) -> (Nat -> Int32) -> Prop) (K73 : Int32 -> Int32 -> Int32 -> Int32 -> Int32 -> Int32 -> Int32 -> Int32 -> Int32 -> (Nat -> Int32) -> (Nat -> Int32) -> Prop) (bT aG : Int32) (qG m_x gR qR nG oO pJ : Nat -> Int32) (x1 x2 x3 x4 x5 x6 bL bY dO : Int32) (sW sH : Nat -> Int32) : Prop := (x5 = (-1) -> ws_X10_fits_152 post K73 bT aG qG m_x gR qR nG oO pJ x1 x2 x3 x4 x6 bL bY dO sW sH) /\ (¬ x5 = (-1) -> aBb (fun r_13 => aBb (fun r_14 => (r_13 <= r_14 -> ws_X10_fits_156 post K73 bT aG qG m_x gR qR nG oO pJ x1 x2 x3 x4 x5 x6 bL bY dO sW sH) /\ (¬ r_13 <= r_14 -> ws_X10_fits_152 post K73 bT aG qG m_x gR qR nG oO pJ x1 x2 x3 x4 x6 bL bY dO sW sH)) x5) x6)
set_option maxHeartbeats 4000000 in
set_option maxRecDepth 100000 in
theorem ks_X10_fits_133 (C0 : gc aCU (some .int) 7 zX (dC, dI) (tyl cI cC cZ cB cJ) A p s m args meth c) {K73 : Int32 -> Int32 -> Int32 -> Int32 -> Int32 -> Int32 -> Int32 -> Int32 -> Int32 -> (Nat -> Int32) -> (Nat -> Int32) -> Prop} (hK73 : ∀ (x1 : Int32) (x2 : Int32) (x3 : Int32) (x4 : Int32) (x5 : Int32) (x6 : Int32) (bL : Int32) (bY : Int32) (dO : Int32) (sW : Nat -> Int32) (sH : Nat -> Int32) (H : Heap) (locs : List Loc) (ls : Array Slot), K73 x1 x2 x3 x4 x5 x6 bL bY dO sW sH -> va_P (dC, dI) classes (aEG cI cC cZ cB cJ a_m nY sJ eG iY lY jR jW jZ jO oQ bR aY jQ gY iJ mQ lJ jA bG mK jB mW mJ eJ dG bT aG jC bL bY jD mLn oF rP dQ aJ aB bW bZ aR aE bI aW bU fJ dO bM bQ bO jY oX qG m_x gR qR nG oO pJ sW sH) H -> va_D A (aEG cI cC cZ cB cJ a_m nY sJ eG iY lY jR jW jZ jO oQ bR aY jQ gY iJ mQ lJ jA bG mK jB mW mJ eJ dG bT aG jC bL bY jD mLn oF rP dQ aJ aB bW bZ aR aE bI aW bU fJ dO bM bQ bO jY oX qG m_x gR qR nG oO pJ sW sH) -> va_S A s.heap H locs -> lv_has ls 7 [(0, .ref a_m), (1, .int x1), (2, .int x2), (3, .int x3), (4, .int x4), (5, .int x5), (6, .int x6)] -> W p l e aYO s m args below meth c H locs 0 0 (MQ below (bA1 dC dI cI cC cZ cB cJ A a_m nY sJ eG iY lY jR jW jZ jO oQ bR aY jQ gY iJ mQ lJ jA bG mK jB mW mJ eJ dG bT aG jC jD mLn oF rP dQ aJ aB bW bZ aR aE bI aW bU fJ bM bQ bO jY oX qG m_x gR qR nG oO pJ post) args s 0 0 A) (F0 m 73 ls [])) : ∀ (x1 x2 x3 x4 x5 x6 bL bY dO : Int32) (sW sH : Nat -> Int32) (H : Heap) (locs : List Loc) (ls : Array Slot), (ws_X10_fits_133 post K73 bT aG qG m_x gR qR nG oO pJ) x1 x2 x3 x4 x5 x6 bL bY dO sW sH -> va_P (dC, dI) classes (aEG cI cC cZ cB cJ a_m nY sJ eG iY lY jR jW jZ jO oQ bR aY jQ gY iJ mQ lJ jA bG mK jB mW mJ eJ dG bT aG jC bL bY jD mLn oF rP dQ aJ aB bW bZ aR aE bI aW bU fJ dO bM bQ bO jY oX qG m_x gR qR nG oO pJ sW sH) H -> va_D A (aEG cI cC cZ cB cJ a_m nY sJ eG iY lY jR jW jZ jO oQ bR aY jQ gY iJ mQ lJ jA bG mK jB mW mJ eJ dG bT aG jC bL bY jD mLn oF rP dQ aJ aB bW bZ aR aE bI aW bU fJ dO bM bQ bO jY oX qG m_x gR qR nG oO pJ sW sH) -> va_S A s.heap H locs -> lv_has ls 7 [(0, .ref a_m), (1, .int x1), (2, .int x2), (3, .int x3), (4, .int x4), (5, .int x5), (6, .int x6)] -> W p l e aYO s m args below meth c H locs 0 0 (MQ below (bA1 dC dI cI cC cZ cB cJ A a_m nY sJ eG iY lY jR jW jZ jO oQ bR aY jQ gY iJ mQ lJ jA bG mK jB mW mJ eJ dG bT aG jC jD mLn oF rP dQ aJ aB bW bZ aR aE bI aW bU fJ bM bQ bO jY oX qG m_x gR qR nG oO pJ post) args s 0 0 A) (F0 m 133 ls []) := by
  obtain ⟨hx, hb, hr, hml, hown, hts, hlocks, hA, hK, hN, tL, tM, hZL, hTL, hZM, hTM, hZX⟩ := id C0
  intro x1 x2 x3 x4 x5 x6 bL bY dO sW sH H locs ls hp hP hD hS hl
  unfold ws_X10_fits_133 at hp
  refine lv_iload hx hb aSm.2.2.2.2.2.2.2.2.2.2.2.2.2.2.1 (lv_at hl 5 rfl) ?_
  refine lv_iconst (v := (-1)) hx hb aSm.2.2.2.2.2.2.2.2.2.2.2.2.2.2.2 aEJ ?_
  refine lv_icmp_eq (tgt := 152) hx hb aSn.1 (by decide) (fun hc => ?_) (fun hc => ?_)
  · have hp := hp.1 hc
    exact ks_X10_fits_152 C0 hK73 x1 x2 x3 x4 x6 bL bY dO sW sH H locs ls hp hP hD hS (lv_sub hl [0, 1, 2, 3, 4, 6] rfl)
  · have hp := hp.2 hc
    refine lv_iload hx hb aSn.2.1 (lv_at hl 6 rfl) ?_
    have hm := mgk (wc := (aBh cI cC cZ cB cJ)) hP aGk 10 rfl rfl rfl
    refine yW hP hD hS hA (yS aGk) (aAi aGk) hm.1 hm.2 (aAk _) (zW _) (aDn (As := [.int x6]) (rest := []) C0 hP hD hS (yS aGk) hm.1 (aAl _) (aBv l dC dI cI cC cZ cB cJ H.size x6 _ hp) q_320 q_803 q_322 q_321 aBw rfl rfl ⟨lbz rfl, lbz rfl⟩ rfl rfl hl.1 rfl (lv_room (lbz rfl)) aSn.2.2.1 ⟨Nat.zero_le _, Nat.zero_le _⟩) (fun r_13 u H locs hp hP hD hS => ?_)
    have hPD := PDm (ws' := (aEG cI cC cZ cB cJ a_m nY sJ eG iY lY jR jW jZ jO oQ bR aY jQ gY iJ mQ lJ jA bG mK jB mW mJ eJ dG bT aG jC bL bY jD mLn oF rP dQ aJ aB bW bZ aR aE bI aW bU fJ dO bM bQ bO jY oX qG m_x gR qR nG oO pJ sW sH)) hP hD 10 rfl rfl rfl
    have hP := hPD.1
    have hD := hPD.2
    refine lv_iload hx hb aSn.2.2.2.1 (lv_at hl 5 rfl) ?_
    have hm := mgk (wc := (aBh cI cC cZ cB cJ)) hP aGk 10 rfl rfl rfl
    refine yW hP hD hS hA (yS aGk) (aAi aGk) hm.1 hm.2 (aAk _) (zW _) (aDn (As := [.int x5]) (rest := [.int r_13]) C0 hP hD hS (yS aGk) hm.1 (aAl _) (aBv l dC dI cI cC cZ cB cJ H.size x5 _ hp) q_320 q_803 q_322 q_321 aBw rfl rfl ⟨lbz rfl, lbz rfl⟩ rfl rfl hl.1 rfl (lv_room (lbz rfl)) aSn.2.2.2.2.1 ⟨Nat.zero_le _, Nat.zero_le _⟩) (fun r_14 u H locs hp hP hD hS => ?_)
    have hPD := PDm (ws' := (aEG cI cC cZ cB cJ a_m nY sJ eG iY lY jR jW jZ jO oQ bR aY jQ gY iJ mQ lJ jA bG mK jB mW mJ eJ dG bT aG jC bL bY jD mLn oF rP dQ aJ aB bW bZ aR aE bI aW bU fJ dO bM bQ bO jY oX qG m_x gR qR nG oO pJ sW sH)) hP hD 10 rfl rfl rfl
    have hP := hPD.1
    have hD := hPD.2
    refine lv_icmp_le (tgt := 156) hx hb aSn.2.2.2.2.2.1 (by decide) (fun hc => ?_) (fun hc => ?_)
    · have hp := hp.1 hc
      exact ks_X10_fits_156 C0 hK73 x1 x2 x3 x4 x5 x6 bL bY dO sW sH H locs ls hp hP hD hS (lv_sub hl [0, 1, 2, 3, 4, 5, 6] rfl)
    · have hp := hp.2 hc
      exact ks_X10_fits_152 C0 hK73 x1 x2 x3 x4 x6 bL bY dO sW sH H locs ls hp hP hD hS (lv_sub hl [0, 1, 2, 3, 4, 6] rfl)
def ws_X10_fits_129 (post : Int32 -> Int32 -> Int32 -> Int32 -> (Nat -> Int32) -> (Nat -> Int32) -> Prop) (K73 : Int32 -> Int32 -> Int32 -> Int32 -> Int32 -> Int32 -> Int32 -> Int32 -> Int32 -> (Nat -> Int32) -> (Nat -> Int32) -> Prop) (bT aG : Int32) (qG m_x gR qR nG oO pJ : Nat -> Int32) (x1 x2 x3 x5 x6 bL bY dO : Int32) (sW sH : Nat -> Int32) : Prop := ws_X10_fits_133 post K73 bT aG qG m_x gR qR nG oO pJ x1 x2 x3 x6 x5 x6 bL bY dO sW sH
set_option maxHeartbeats 4000000 in
set_option maxRecDepth 100000 in
theorem ks_X10_fits_129 (C0 : gc aCU (some .int) 7 zX (dC, dI) (tyl cI cC cZ cB cJ) A p s m args meth c) {K73 : Int32 -> Int32 -> Int32 -> Int32 -> Int32 -> Int32 -> Int32 -> Int32 -> Int32 -> (Nat -> Int32) -> (Nat -> Int32) -> Prop} (hK73 : ∀ (x1 : Int32) (x2 : Int32) (x3 : Int32) (x4 : Int32) (x5 : Int32) (x6 : Int32) (bL : Int32) (bY : Int32) (dO : Int32) (sW : Nat -> Int32) (sH : Nat -> Int32) (H : Heap) (locs : List Loc) (ls : Array Slot), K73 x1 x2 x3 x4 x5 x6 bL bY dO sW sH -> va_P (dC, dI) classes (aEG cI cC cZ cB cJ a_m nY sJ eG iY lY jR jW jZ jO oQ bR aY jQ gY iJ mQ lJ jA bG mK jB mW mJ eJ dG bT aG jC bL bY jD mLn oF rP dQ aJ aB bW bZ aR aE bI aW bU fJ dO bM bQ bO jY oX qG m_x gR qR nG oO pJ sW sH) H -> va_D A (aEG cI cC cZ cB cJ a_m nY sJ eG iY lY jR jW jZ jO oQ bR aY jQ gY iJ mQ lJ jA bG mK jB mW mJ eJ dG bT aG jC bL bY jD mLn oF rP dQ aJ aB bW bZ aR aE bI aW bU fJ dO bM bQ bO jY oX qG m_x gR qR nG oO pJ sW sH) -> va_S A s.heap H locs -> lv_has ls 7 [(0, .ref a_m), (1, .int x1), (2, .int x2), (3, .int x3), (4, .int x4), (5, .int x5), (6, .int x6)] -> W p l e aYO s m args below meth c H locs 0 0 (MQ below (bA1 dC dI cI cC cZ cB cJ A a_m nY sJ eG iY lY jR jW jZ jO oQ bR aY jQ gY iJ mQ lJ jA bG mK jB mW mJ eJ dG bT aG jC jD mLn oF rP dQ aJ aB bW bZ aR aE bI aW bU fJ bM bQ bO jY oX qG m_x gR qR nG oO pJ post) args s 0 0 A) (F0 m 73 ls [])) : ∀ (x1 x2 x3 x5 x6 bL bY dO : Int32) (sW sH : Nat -> Int32) (H : Heap) (locs : List Loc) (ls : Array Slot), (ws_X10_fits_129 post K73 bT aG qG m_x gR qR nG oO pJ) x1 x2 x3 x5 x6 bL bY dO sW sH -> va_P (dC, dI) classes (aEG cI cC cZ cB cJ a_m nY sJ eG iY lY jR jW jZ jO oQ bR aY jQ gY iJ mQ lJ jA bG mK jB mW mJ eJ dG bT aG jC bL bY jD mLn oF rP dQ aJ aB bW bZ aR aE bI aW bU fJ dO bM bQ bO jY oX qG m_x gR qR nG oO pJ sW sH) H -> va_D A (aEG cI cC cZ cB cJ a_m nY sJ eG iY lY jR jW jZ jO oQ bR aY jQ gY iJ mQ lJ jA bG mK jB mW mJ eJ dG bT aG jC bL bY jD mLn oF rP dQ aJ aB bW bZ aR aE bI aW bU fJ dO bM bQ bO jY oX qG m_x gR qR nG oO pJ sW sH) -> va_S A s.heap H locs -> lv_has ls 7 [(0, .ref a_m), (1, .int x1), (2, .int x2), (3, .int x3), (5, .int x5), (6, .int x6)] -> W p l e aYO s m args below meth c H locs 0 0 (MQ below (bA1 dC dI cI cC cZ cB cJ A a_m nY sJ eG iY lY jR jW jZ jO oQ bR aY jQ gY iJ mQ lJ jA bG mK jB mW mJ eJ dG bT aG jC jD mLn oF rP dQ aJ aB bW bZ aR aE bI aW bU fJ bM bQ bO jY oX qG m_x gR qR nG oO pJ post) args s 0 0 A) (F0 m 129 ls []) := by
  obtain ⟨hx, hb, hr, hml, hown, hts, hlocks, hA, hK, hN, tL, tM, hZL, hTL, hZM, hTM, hZX⟩ := id C0
  intro x1 x2 x3 x5 x6 bL bY dO sW sH H locs ls hp hP hD hS hl
  unfold ws_X10_fits_129 at hp
  refine lv_iload hx hb aSm.2.2.2.2.2.2.2.2.2.2.2.2.1 (lv_at hl 5 rfl) ?_
  refine lv_istore (lv' := [(4, .int x6), (0, .ref a_m), (1, .int x1), (2, .int x2), (3, .int x3), (5, .int x5), (6, .int x6)]) hx hb aSm.2.2.2.2.2.2.2.2.2.2.2.2.2.1 hl (by decide) rfl (fun ls hl => ?_)
  exact ks_X10_fits_133 C0 hK73 x1 x2 x3 x6 x5 x6 bL bY dO sW sH H locs ls hp hP hD hS (lv_sub hl [1, 2, 3, 4, 0, 5, 6] rfl)
def ws_X10_fits_73 (post : Int32 -> Int32 -> Int32 -> Int32 -> (Nat -> Int32) -> (Nat -> Int32) -> Prop) (next : Int32 -> Int32 -> Int32 -> Int32 -> Int32 -> Int32 -> Int32 -> Int32 -> Int32 -> (Nat -> Int32) -> (Nat -> Int32) -> Prop) (bT aG : Int32) (qG m_x gR qR nG oO pJ : Nat -> Int32) (x1 x2 x3 x4 x5 x6 bL bY dO : Int32) (sW sH : Nat -> Int32) : Prop := aGu (fun r_5 => (r_5 < x6 -> aDs (fun aVd m_row_7 => aDs (fun aG6 aUs => post x3 aG6 bY dO aUs sH) x5 aVd m_row_7) x4 0 sW) /\ (¬ r_5 < x6 -> (¬ (x6 &&& (x2 ^^^ (-1))) = 0 -> ws_X10_fits_156 post next bT aG qG m_x gR qR nG oO pJ x1 x2 x3 x4 x5 x6 bL bY dO sW sH) /\ ((x6 &&& (x2 ^^^ (-1))) = 0 -> aRt (fun r_11 => ((x1 &&& (r_11 ^^^ (-1))) = 0 -> ∀ aEp : Int32, aEp = x3 + 1 -> (x4 = (-1) -> ws_X10_fits_129 post next bT aG qG m_x gR qR nG oO pJ x1 x2 aEp x5 x6 bL bY dO sW sH) /\ (¬ x4 = (-1) -> aBb (fun r_15 => aBb (fun r_16 => (r_16 <= r_15 -> ws_X10_fits_133 post next bT aG qG m_x gR qR nG oO pJ x1 x2 aEp x4 x5 x6 bL bY dO sW sH) /\ (¬ r_16 <= r_15 -> ws_X10_fits_129 post next bT aG qG m_x gR qR nG oO pJ x1 x2 aEp x5 x6 bL bY dO sW sH)) x4) x6)) /\ (¬ (x1 &&& (r_11 ^^^ (-1))) = 0 -> ws_X10_fits_156 post next bT aG qG m_x gR qR nG oO pJ x1 x2 x3 x4 x5 x6 bL bY dO sW sH)) x6 aG sH))) aG
noncomputable def wb_X10_fits_73 (post : Int32 -> Int32 -> Int32 -> Int32 -> (Nat -> Int32) -> (Nat -> Int32) -> Prop) (bT aG : Int32) (qG m_x gR qR nG oO pJ : Nat -> Int32) : Nat -> Int32 -> Int32 -> Int32 -> Int32 -> Int32 -> Int32 -> Int32 -> Int32 -> Int32 -> (Nat -> Int32) -> (Nat -> Int32) -> Prop := fun n => Nat.rec (motive := fun _ => Int32 -> Int32 -> Int32 -> Int32 -> Int32 -> Int32 -> Int32 -> Int32 -> Int32 -> (Nat -> Int32) -> (Nat -> Int32) -> Prop) (fun _ _ _ _ _ _ _ _ _ _ _ => False) (fun _ ih => ws_X10_fits_73 post ih bT aG qG m_x gR qR nG oO pJ) n
set_option maxHeartbeats 4000000 in
set_option maxRecDepth 100000 in
theorem ks_X10_fits_73 (C0 : gc aCU (some .int) 7 zX (dC, dI) (tyl cI cC cZ cB cJ) A p s m args meth c) {next : Int32 -> Int32 -> Int32 -> Int32 -> Int32 -> Int32 -> Int32 -> Int32 -> Int32 -> (Nat -> Int32) -> (Nat -> Int32) -> Prop} (hKn : ∀ (x1 : Int32) (x2 : Int32) (x3 : Int32) (x4 : Int32) (x5 : Int32) (x6 : Int32) (bL : Int32) (bY : Int32) (dO : Int32) (sW : Nat -> Int32) (sH : Nat -> Int32) (H : Heap) (locs : List Loc) (ls : Array Slot), next x1 x2 x3 x4 x5 x6 bL bY dO sW sH -> va_P (dC, dI) classes (aEG cI cC cZ cB cJ a_m nY sJ eG iY lY jR jW jZ jO oQ bR aY jQ gY iJ mQ lJ jA bG mK jB mW mJ eJ dG bT aG jC bL bY jD mLn oF rP dQ aJ aB bW bZ aR aE bI aW bU fJ dO bM bQ bO jY oX qG m_x gR qR nG oO pJ sW sH) H -> va_D A (aEG cI cC cZ cB cJ a_m nY sJ eG iY lY jR jW jZ jO oQ bR aY jQ gY iJ mQ lJ jA bG mK jB mW mJ eJ dG bT aG jC bL bY jD mLn oF rP dQ aJ aB bW bZ aR aE bI aW bU fJ dO bM bQ bO jY oX qG m_x gR qR nG oO pJ sW sH) -> va_S A s.heap H locs -> lv_has ls 7 [(0, .ref a_m), (1, .int x1), (2, .int x2), (3, .int x3), (4, .int x4), (5, .int x5), (6, .int x6)] -> W p l e aYO s m args below meth c H locs 0 0 (MQ below (bA1 dC dI cI cC cZ cB cJ A a_m nY sJ eG iY lY jR jW jZ jO oQ bR aY jQ gY iJ mQ lJ jA bG mK jB mW mJ eJ dG bT aG jC jD mLn oF rP dQ aJ aB bW bZ aR aE bI aW bU fJ bM bQ bO jY oX qG m_x gR qR nG oO pJ post) args s 0 0 A) (F0 m 73 ls [])) : ∀ (x1 x2 x3 x4 x5 x6 bL bY dO : Int32) (sW sH : Nat -> Int32) (H : Heap) (locs : List Loc) (ls : Array Slot), (ws_X10_fits_73 post next bT aG qG m_x gR qR nG oO pJ) x1 x2 x3 x4 x5 x6 bL bY dO sW sH -> va_P (dC, dI) classes (aEG cI cC cZ cB cJ a_m nY sJ eG iY lY jR jW jZ jO oQ bR aY jQ gY iJ mQ lJ jA bG mK jB mW mJ eJ dG bT aG jC bL bY jD mLn oF rP dQ aJ aB bW bZ aR aE bI aW bU fJ dO bM bQ bO jY oX qG m_x gR qR nG oO pJ sW sH) H -> va_D A (aEG cI cC cZ cB cJ a_m nY sJ eG iY lY jR jW jZ jO oQ bR aY jQ gY iJ mQ lJ jA bG mK jB mW mJ eJ dG bT aG jC bL bY jD mLn oF rP dQ aJ aB bW bZ aR aE bI aW bU fJ dO bM bQ bO jY oX qG m_x gR qR nG oO pJ sW sH) -> va_S A s.heap H locs -> lv_has ls 7 [(0, .ref a_m), (1, .int x1), (2, .int x2), (3, .int x3), (4, .int x4), (5, .int x5), (6, .int x6)] -> W p l e aYO s m args below meth c H locs 0 0 (MQ below (bA1 dC dI cI cC cZ cB cJ A a_m nY sJ eG iY lY jR jW jZ jO oQ bR aY jQ gY iJ mQ lJ jA bG mK jB mW mJ eJ dG bT aG jC jD mLn oF rP dQ aJ aB bW bZ aR aE bI aW bU fJ bM bQ bO jY oX qG m_x gR qR nG oO pJ post) args s 0 0 A) (F0 m 73 ls []) := by
  obtain ⟨hx, hb, hr, hml, hown, hts, hlocks, hA, hK, hN, tL, tM, hZL, hTL, hZM, hTM, hZX⟩ := id C0
  intro x1 x2 x3 x4 x5 x6 bL bY dO sW sH H locs ls hp hP hD hS hl
  unfold ws_X10_fits_73 at hp
  refine lv_iload hx hb aV4.1 (lv_at hl 6 rfl) ?_
  refine lv_aload_n hx hb aV4.2.1 rfl (lv_at hl 0 rfl) ?_
  have hm := mgk (wc := (aGj cI cC cZ cB cJ a_m nY sJ eG iY lY jR jW jZ jO oQ bR aY jQ gY iJ mQ lJ jA bG mK jB mW mJ eJ dG bT aG jC bL bY jD mLn oF rP dQ aJ aB bW bZ aR aE bI aW bU fJ dO bM bQ bO jY oX)) hP aRf 10 rfl rfl rfl
  refine yW hP hD hS hA (yS aRf) (aAi aRf) hm.1 hm.2 (aAk _) (zW _) (zF (As := []) (rest := [.int x6]) C0 hP hD hS (yS aRf) hm.1 (aAl _) 0 10 rfl rfl (aKY l dC dI cI cC cZ cB cJ a_m nY sJ eG iY lY jR jW jZ jO oQ bR aY jQ gY iJ mQ lJ jA bG mK jB mW mJ eJ dG H.size bT aG jC bL bY jD mLn oF rP dQ aJ aB bW bZ aR aE bI aW bU fJ dO bM bQ bO jY oX _ hp) q_870 q_873 q_871 q_872 aBL aKa rfl rfl ⟨lbz rfl, lbz rfl⟩ rfl rfl hl.1 rfl (lv_room (lbz rfl)) aV4.2.2.1 ⟨Nat.zero_le _, Nat.zero_le _⟩) (fun r_5 u H locs hp hP hD hS => ?_)
  have hPD := PDm (ws' := (aEG cI cC cZ cB cJ a_m nY sJ eG iY lY jR jW jZ jO oQ bR aY jQ gY iJ mQ lJ jA bG mK jB mW mJ eJ dG bT aG jC bL bY jD mLn oF rP dQ aJ aB bW bZ aR aE bI aW bU fJ dO bM bQ bO jY oX qG m_x gR qR nG oO pJ sW sH)) hP hD 10 rfl rfl rfl
  have hP := hPD.1
  have hD := hPD.2
  refine lv_icmp_gt (tgt := 162) hx hb aV4.2.2.2.1 (by decide) (fun hc => ?_) (fun hc => ?_)
  · have hp := hp.1 hc
    refine lv_aload_n hx hb aSn.2.2.2.2.2.2.2.2.2.2.1 rfl (lv_at hl 0 rfl) ?_
    refine lv_iconst (v := 0) hx hb aSn.2.2.2.2.2.2.2.2.2.2.2.1 aCi ?_
    refine va_put (D := (dC, dI)) (ci := 10) (v := .int 0) (ty := .int) (C := zX) (T := aBe) (N := 51) hx hb hts aAt aD2 aAa aEC hown hK hP hD hS 0 rfl rfl 13 (lbz rfl) (hts _ q_847) (fun _ h9 => h9) rfl (aAa 13 (lbz rfl)) rfl rfl (lbz rfl) aSn.2.2.2.2.2.2.2.2.2.2.2.2.1 (fun H locs hP hD hS => ?_)
    have hPD := PDw (ws' := (aEG cI cC cZ cB cJ a_m nY sJ eG iY lY jR jW jZ jO oQ bR aY jQ gY iJ mQ lJ jA bG mK jB mW mJ eJ dG bT aG jC 0 bY jD mLn oF rP dQ aJ aB bW bZ aR aE bI aW bU fJ dO bM bQ bO jY oX qG m_x gR qR nG oO pJ sW sH)) hP hD rfl
    have hP := hPD.1
    have hD := hPD.2
    refine lv_aload_n hx hb aSn.2.2.2.2.2.2.2.2.2.2.2.2.2.1 rfl (lv_at hl 0 rfl) ?_
    refine lv_iload hx hb aSn.2.2.2.2.2.2.2.2.2.2.2.2.2.2.1 (lv_at hl 4 rfl) ?_
    have hm := mgk (wc := (aD0 cI cC cZ cB cJ a_m nY sJ eG iY lY jR jW jZ jO oQ bR aY jQ gY iJ mQ lJ jA bG mK jB mW mJ eJ dG bT aG jC 0 bY jD mLn oF rP dQ aJ aB bW bZ aR aE bI aW bU fJ dO bM bQ bO jY oX sW)) hP aOv 10 rfl rfl rfl
    refine aBn hP hD hS hA (yS aOv) (aAi aOv) hm.1 hm.2 (aAk _) (zW _) (zF (As := [.int x4]) (rest := []) C0 hP hD hS (yS aOv) hm.1 (aAl _) 0 10 rfl rfl (aGE l dC dI cI cC cZ cB cJ a_m nY sJ eG iY lY jR jW jZ jO oQ bR aY jQ gY iJ mQ lJ jA bG mK jB mW mJ eJ dG H.size x4 bT aG jC 0 bY jD mLn oF rP dQ aJ aB bW bZ aR aE bI aW bU fJ dO bM bQ bO jY oX sW _ hp) q_849 q_852 q_850 q_851 aBL aGF rfl rfl ⟨lbz rfl, lbz rfl⟩ rfl rfl hl.1 rfl (lv_room (lbz rfl)) aSn.2.2.2.2.2.2.2.2.2.2.2.2.2.2.2 ⟨Nat.zero_le _, Nat.zero_le _⟩) (fun u H locs hp hP hD hS => ?_)
    obtain ⟨aVd, m_row_7⟩ := u
    have hPD := PDm (ws' := (aEG cI cC cZ cB cJ a_m nY sJ eG iY lY jR jW jZ jO oQ bR aY jQ gY iJ mQ lJ jA bG mK jB mW mJ eJ dG bT aG jC aVd bY jD mLn oF rP dQ aJ aB bW bZ aR aE bI aW bU fJ dO bM bQ bO jY oX qG m_x gR qR nG oO pJ m_row_7 sH)) hP hD 10 rfl rfl rfl
    have hP := hPD.1
    have hD := hPD.2
    refine lv_aload_n hx hb eX10_fits_173.1 rfl (lv_at hl 0 rfl) ?_
    refine lv_iload hx hb eX10_fits_173.2.1 (lv_at hl 5 rfl) ?_
    have hm := mgk (wc := (aD0 cI cC cZ cB cJ a_m nY sJ eG iY lY jR jW jZ jO oQ bR aY jQ gY iJ mQ lJ jA bG mK jB mW mJ eJ dG bT aG jC aVd bY jD mLn oF rP dQ aJ aB bW bZ aR aE bI aW bU fJ dO bM bQ bO jY oX m_row_7)) hP aOv 10 rfl rfl rfl
    refine aBn hP hD hS hA (yS aOv) (aAi aOv) hm.1 hm.2 (aAk _) (zW _) (zF (As := [.int x5]) (rest := []) C0 hP hD hS (yS aOv) hm.1 (aAl _) 0 10 rfl rfl (aGE l dC dI cI cC cZ cB cJ a_m nY sJ eG iY lY jR jW jZ jO oQ bR aY jQ gY iJ mQ lJ jA bG mK jB mW mJ eJ dG H.size x5 bT aG jC aVd bY jD mLn oF rP dQ aJ aB bW bZ aR aE bI aW bU fJ dO bM bQ bO jY oX m_row_7 _ hp) q_849 q_852 q_850 q_851 aBL aGF rfl rfl ⟨lbz rfl, lbz rfl⟩ rfl rfl hl.1 rfl (lv_room (lbz rfl)) eX10_fits_173.2.2.1 ⟨Nat.zero_le _, Nat.zero_le _⟩) (fun u H locs hp hP hD hS => ?_)
    obtain ⟨aG6, aUs⟩ := u
    have hPD := PDm (ws' := (aEG cI cC cZ cB cJ a_m nY sJ eG iY lY jR jW jZ jO oQ bR aY jQ gY iJ mQ lJ jA bG mK jB mW mJ eJ dG bT aG jC aG6 bY jD mLn oF rP dQ aJ aB bW bZ aR aE bI aW bU fJ dO bM bQ bO jY oX qG m_x gR qR nG oO pJ aUs sH)) hP hD 10 rfl rfl rfl
    have hP := hPD.1
    have hD := hPD.2
    refine lv_iload_n hx hb eX10_fits_173.2.2.2.1 rfl (lv_at hl 3 rfl) ?_
    exact W.iret (v := x3) hx hb hr (fun t ht hW => ⟨⟨x3, (aG6, bY, dO, aUs, sH), rfl, hp, by rw [ht]; exact hP, va_K.moved hW.alike hK, hD⟩, hS.F ht⟩) hS.2.2 eX10_fits_173.2.2.2.2
  · have hp := hp.2 hc
    refine lv_iload hx hb aV4.2.2.2.2.1 (lv_at hl 6 rfl) ?_
    refine lv_iload_n hx hb aV4.2.2.2.2.2.1 rfl (lv_at hl 2 rfl) ?_
    refine lv_iconst (v := (-1)) hx hb aV4.2.2.2.2.2.2.1 aEJ ?_
    refine lv_ixor hx hb aV4.2.2.2.2.2.2.2.1 ?_
    refine lv_iand hx hb aV4.2.2.2.2.2.2.2.2.1 ?_
    refine lv_if_ne (tgt := 156) hx hb aV4.2.2.2.2.2.2.2.2.2.1 (by decide) (fun hc => ?_) (fun hc => ?_)
    · have hp := hp.1 hc
      exact ks_X10_fits_156 C0 hKn x1 x2 x3 x4 x5 x6 bL bY dO sW sH H locs ls hp hP hD hS (lv_sub hl [0, 1, 2, 3, 4, 5, 6] rfl)
    · have hp := hp.2 hc
      refine lv_iload_n hx hb aV4.2.2.2.2.2.2.2.2.2.2.1 rfl (lv_at hl 1 rfl) ?_
      refine lv_aload_n hx hb aV4.2.2.2.2.2.2.2.2.2.2.2.1 rfl (lv_at hl 0 rfl) ?_
      refine lv_iload hx hb aV4.2.2.2.2.2.2.2.2.2.2.2.2.1 (lv_at hl 6 rfl) ?_
      have hm := mgk (wc := (aH9 cI cC cZ cB cJ a_m nY sJ eG iY lY jR jW jZ jO oQ bR aY jQ gY iJ mQ lJ jA bG mK jB mW mJ eJ dG bT aG jC bL bY jD mLn oF rP dQ aJ aB bW bZ aR aE bI aW bU fJ dO bM bQ bO jY oX sH)) hP mk_284 10 rfl rfl rfl
      refine yW hP hD hS hA (yS mk_284) (aAi mk_284) hm.1 hm.2 (aAk _) (zW _) (zF (As := [.int x6]) (rest := [.int x1]) C0 hP hD hS (yS mk_284) hm.1 (aAl _) 0 10 rfl rfl (c_X10_handOf l dC dI cI cC cZ cB cJ a_m nY sJ eG iY lY jR jW jZ jO oQ bR aY jQ gY iJ mQ lJ jA bG mK jB mW mJ eJ dG H.size x6 bT aG jC bL bY jD mLn oF rP dQ aJ aB bW bZ aR aE bI aW bU fJ dO bM bQ bO jY oX sH _ hp) q_874 q_877 q_875 q_876 aBL h_X10_handOf rfl rfl ⟨lbz rfl, lbz rfl⟩ rfl rfl hl.1 rfl (lv_room (lbz rfl)) aV4.2.2.2.2.2.2.2.2.2.2.2.2.2.1 ⟨Nat.zero_le _, Nat.zero_le _⟩) (fun r_11 u H locs hp hP hD hS => ?_)
      have hPD := PDm (ws' := (aEG cI cC cZ cB cJ a_m nY sJ eG iY lY jR jW jZ jO oQ bR aY jQ gY iJ mQ lJ jA bG mK jB mW mJ eJ dG bT aG jC bL bY jD mLn oF rP dQ aJ aB bW bZ aR aE bI aW bU fJ dO bM bQ bO jY oX qG m_x gR qR nG oO pJ sW sH)) hP hD 10 rfl rfl rfl
      have hP := hPD.1
      have hD := hPD.2
      refine lv_iconst (v := (-1)) hx hb aV4.2.2.2.2.2.2.2.2.2.2.2.2.2.2.1 aEJ ?_
      refine lv_ixor hx hb aV4.2.2.2.2.2.2.2.2.2.2.2.2.2.2.2 ?_
      refine lv_iand hx hb aSm.1 ?_
      refine lv_if_eq (tgt := 107) hx hb aSm.2.1 (by decide) (fun hc => ?_) (fun hc => ?_)
      · have hp := hp.1 hc
        obtain ⟨aEp, ev_12⟩ : ∃ y : Int32, y = x3 + 1 := ⟨_, rfl⟩
        refine lv_iinc (v := aEp) (lv' := [(3, .int aEp), (0, .ref a_m), (1, .int x1), (2, .int x2), (4, .int x4), (5, .int x5), (6, .int x6)]) hx hb aSm.2.2.2.1 hl (k := 3) rfl (by rw [ev_12]; rfl) (by decide) rfl (fun ls hl => ?_)
        have hp := hp aEp ev_12
        refine lv_iload hx hb aSm.2.2.2.2.1 (lv_at hl 4 rfl) ?_
        refine lv_iconst (v := (-1)) hx hb aSm.2.2.2.2.2.1 aEJ ?_
        refine lv_icmp_eq (tgt := 129) hx hb aSm.2.2.2.2.2.2.1 (by decide) (fun hc => ?_) (fun hc => ?_)
        · have hp := hp.1 hc
          exact ks_X10_fits_129 C0 hKn x1 x2 aEp x5 x6 bL bY dO sW sH H locs ls hp hP hD hS (lv_sub hl [1, 2, 3, 0, 5, 6] rfl)
        · have hp := hp.2 hc
          refine lv_iload hx hb aSm.2.2.2.2.2.2.2.1 (lv_at hl 6 rfl) ?_
          have hm := mgk (wc := (aBh cI cC cZ cB cJ)) hP aGk 10 rfl rfl rfl
          refine yW hP hD hS hA (yS aGk) (aAi aGk) hm.1 hm.2 (aAk _) (zW _) (aDn (As := [.int x6]) (rest := []) C0 hP hD hS (yS aGk) hm.1 (aAl _) (aBv l dC dI cI cC cZ cB cJ H.size x6 _ hp) q_320 q_803 q_322 q_321 aBw rfl rfl ⟨lbz rfl, lbz rfl⟩ rfl rfl hl.1 rfl (lv_room (lbz rfl)) aSm.2.2.2.2.2.2.2.2.1 ⟨Nat.zero_le _, Nat.zero_le _⟩) (fun r_15 u H locs hp hP hD hS => ?_)
          have hPD := PDm (ws' := (aEG cI cC cZ cB cJ a_m nY sJ eG iY lY jR jW jZ jO oQ bR aY jQ gY iJ mQ lJ jA bG mK jB mW mJ eJ dG bT aG jC bL bY jD mLn oF rP dQ aJ aB bW bZ aR aE bI aW bU fJ dO bM bQ bO jY oX qG m_x gR qR nG oO pJ sW sH)) hP hD 10 rfl rfl rfl
          have hP := hPD.1
          have hD := hPD.2
          refine lv_iload hx hb aSm.2.2.2.2.2.2.2.2.2.1 (lv_at hl 4 rfl) ?_
          have hm := mgk (wc := (aBh cI cC cZ cB cJ)) hP aGk 10 rfl rfl rfl
          refine yW hP hD hS hA (yS aGk) (aAi aGk) hm.1 hm.2 (aAk _) (zW _) (aDn (As := [.int x4]) (rest := [.int r_15]) C0 hP hD hS (yS aGk) hm.1 (aAl _) (aBv l dC dI cI cC cZ cB cJ H.size x4 _ hp) q_320 q_803 q_322 q_321 aBw rfl rfl ⟨lbz rfl, lbz rfl⟩ rfl rfl hl.1 rfl (lv_room (lbz rfl)) aSm.2.2.2.2.2.2.2.2.2.2.1 ⟨Nat.zero_le _, Nat.zero_le _⟩) (fun r_16 u H locs hp hP hD hS => ?_)
          have hPD := PDm (ws' := (aEG cI cC cZ cB cJ a_m nY sJ eG iY lY jR jW jZ jO oQ bR aY jQ gY iJ mQ lJ jA bG mK jB mW mJ eJ dG bT aG jC bL bY jD mLn oF rP dQ aJ aB bW bZ aR aE bI aW bU fJ dO bM bQ bO jY oX qG m_x gR qR nG oO pJ sW sH)) hP hD 10 rfl rfl rfl
          have hP := hPD.1
          have hD := hPD.2
          refine lv_icmp_ge (tgt := 133) hx hb aSm.2.2.2.2.2.2.2.2.2.2.2.1 (by decide) (fun hc => ?_) (fun hc => ?_)
          · have hp := hp.1 hc
            exact ks_X10_fits_133 C0 hKn x1 x2 aEp x4 x5 x6 bL bY dO sW sH H locs ls hp hP hD hS (lv_sub hl [1, 2, 3, 0, 4, 5, 6] rfl)
          · have hp := hp.2 hc
            exact ks_X10_fits_129 C0 hKn x1 x2 aEp x5 x6 bL bY dO sW sH H locs ls hp hP hD hS (lv_sub hl [1, 2, 3, 0, 5, 6] rfl)
      · have hp := hp.2 hc
        refine lv_goto (tgt := 156) hx hb aSm.2.2.1 (by decide) ?_
        exact ks_X10_fits_156 C0 hKn x1 x2 x3 x4 x5 x6 bL bY dO sW sH H locs ls hp hP hD hS (lv_sub hl [0, 1, 2, 3, 4, 5, 6] rfl)
set_option maxHeartbeats 4000000 in
set_option maxRecDepth 100000 in
theorem kb_X10_fits_73 (C0 : gc aCU (some .int) 7 zX (dC, dI) (tyl cI cC cZ cB cJ) A p s m args meth c) : ∀ (n : Nat), ∀ (x1 x2 x3 x4 x5 x6 bL bY dO : Int32) (sW sH : Nat -> Int32) (H : Heap) (locs : List Loc) (ls : Array Slot), (wb_X10_fits_73 post bT aG qG m_x gR qR nG oO pJ n) x1 x2 x3 x4 x5 x6 bL bY dO sW sH -> va_P (dC, dI) classes (aEG cI cC cZ cB cJ a_m nY sJ eG iY lY jR jW jZ jO oQ bR aY jQ gY iJ mQ lJ jA bG mK jB mW mJ eJ dG bT aG jC bL bY jD mLn oF rP dQ aJ aB bW bZ aR aE bI aW bU fJ dO bM bQ bO jY oX qG m_x gR qR nG oO pJ sW sH) H -> va_D A (aEG cI cC cZ cB cJ a_m nY sJ eG iY lY jR jW jZ jO oQ bR aY jQ gY iJ mQ lJ jA bG mK jB mW mJ eJ dG bT aG jC bL bY jD mLn oF rP dQ aJ aB bW bZ aR aE bI aW bU fJ dO bM bQ bO jY oX qG m_x gR qR nG oO pJ sW sH) -> va_S A s.heap H locs -> lv_has ls 7 [(0, .ref a_m), (1, .int x1), (2, .int x2), (3, .int x3), (4, .int x4), (5, .int x5), (6, .int x6)] -> W p l e aYO s m args below meth c H locs 0 0 (MQ below (bA1 dC dI cI cC cZ cB cJ A a_m nY sJ eG iY lY jR jW jZ jO oQ bR aY jQ gY iJ mQ lJ jA bG mK jB mW mJ eJ dG bT aG jC jD mLn oF rP dQ aJ aB bW bZ aR aE bI aW bU fJ bM bQ bO jY oX qG m_x gR qR nG oO pJ post) args s 0 0 A) (F0 m 73 ls []) := by
  intro n
  induction n with
  | zero =>
    intro x1 x2 x3 x4 x5 x6 bL bY dO sW sH H locs ls hp
    exact False.elim hp
  | succ n ih =>
    intro x1 x2 x3 x4 x5 x6 bL bY dO sW sH H locs ls hp
    exact ks_X10_fits_73 C0 ih x1 x2 x3 x4 x5 x6 bL bY dO sW sH H locs ls hp
def ws_X10_fits_54 (post : Int32 -> Int32 -> Int32 -> Int32 -> (Nat -> Int32) -> (Nat -> Int32) -> Prop) (K27 : Int32 -> Int32 -> Int32 -> Int32 -> Int32 -> Int32 -> (Nat -> Int32) -> (Nat -> Int32) -> Prop) (bT aG : Int32) (qG m_x gR qR nG oO pJ : Nat -> Int32) (x1 x3 k0 k1 bL bY dO : Int32) (sW sH : Nat -> Int32) : Prop := ∀ v_18 : Int32, v_18 = k0 ||| k1 -> ∀ v_19 : Int32, v_19 = x3 + 1 -> K27 x1 v_18 v_19 bL bY dO sW sH
set_option maxHeartbeats 4000000 in
set_option maxRecDepth 100000 in
theorem ks_X10_fits_54 (C0 : gc aCU (some .int) 7 zX (dC, dI) (tyl cI cC cZ cB cJ) A p s m args meth c) {K27 : Int32 -> Int32 -> Int32 -> Int32 -> Int32 -> Int32 -> (Nat -> Int32) -> (Nat -> Int32) -> Prop} (hK27 : ∀ (x1 : Int32) (x2 : Int32) (x3 : Int32) (bL : Int32) (bY : Int32) (dO : Int32) (sW : Nat -> Int32) (sH : Nat -> Int32) (H : Heap) (locs : List Loc) (ls : Array Slot), K27 x1 x2 x3 bL bY dO sW sH -> va_P (dC, dI) classes (aEG cI cC cZ cB cJ a_m nY sJ eG iY lY jR jW jZ jO oQ bR aY jQ gY iJ mQ lJ jA bG mK jB mW mJ eJ dG bT aG jC bL bY jD mLn oF rP dQ aJ aB bW bZ aR aE bI aW bU fJ dO bM bQ bO jY oX qG m_x gR qR nG oO pJ sW sH) H -> va_D A (aEG cI cC cZ cB cJ a_m nY sJ eG iY lY jR jW jZ jO oQ bR aY jQ gY iJ mQ lJ jA bG mK jB mW mJ eJ dG bT aG jC bL bY jD mLn oF rP dQ aJ aB bW bZ aR aE bI aW bU fJ dO bM bQ bO jY oX qG m_x gR qR nG oO pJ sW sH) -> va_S A s.heap H locs -> lv_has ls 7 [(0, .ref a_m), (1, .int x1), (2, .int x2), (3, .int x3)] -> W p l e aYO s m args below meth c H locs 0 0 (MQ below (bA1 dC dI cI cC cZ cB cJ A a_m nY sJ eG iY lY jR jW jZ jO oQ bR aY jQ gY iJ mQ lJ jA bG mK jB mW mJ eJ dG bT aG jC jD mLn oF rP dQ aJ aB bW bZ aR aE bI aW bU fJ bM bQ bO jY oX qG m_x gR qR nG oO pJ post) args s 0 0 A) (F0 m 27 ls [])) : ∀ (x1 x3 k0 k1 bL bY dO : Int32) (sW sH : Nat -> Int32) (H : Heap) (locs : List Loc) (ls : Array Slot), (ws_X10_fits_54 post K27 bT aG qG m_x gR qR nG oO pJ) x1 x3 k0 k1 bL bY dO sW sH -> va_P (dC, dI) classes (aEG cI cC cZ cB cJ a_m nY sJ eG iY lY jR jW jZ jO oQ bR aY jQ gY iJ mQ lJ jA bG mK jB mW mJ eJ dG bT aG jC bL bY jD mLn oF rP dQ aJ aB bW bZ aR aE bI aW bU fJ dO bM bQ bO jY oX qG m_x gR qR nG oO pJ sW sH) H -> va_D A (aEG cI cC cZ cB cJ a_m nY sJ eG iY lY jR jW jZ jO oQ bR aY jQ gY iJ mQ lJ jA bG mK jB mW mJ eJ dG bT aG jC bL bY jD mLn oF rP dQ aJ aB bW bZ aR aE bI aW bU fJ dO bM bQ bO jY oX qG m_x gR qR nG oO pJ sW sH) -> va_S A s.heap H locs -> lv_has ls 7 [(0, .ref a_m), (1, .int x1), (3, .int x3)] -> W p l e aYO s m args below meth c H locs 0 0 (MQ below (bA1 dC dI cI cC cZ cB cJ A a_m nY sJ eG iY lY jR jW jZ jO oQ bR aY jQ gY iJ mQ lJ jA bG mK jB mW mJ eJ dG bT aG jC jD mLn oF rP dQ aJ aB bW bZ aR aE bI aW bU fJ bM bQ bO jY oX qG m_x gR qR nG oO pJ post) args s 0 0 A) (F0 m 54 ls [.int k1, .int k0]) := by
  obtain ⟨hx, hb, hr, hml, hown, hts, hlocks, hA, hK, hN, tL, tM, hZL, hTL, hZM, hTM, hZX⟩ := id C0
  intro x1 x3 k0 k1 bL bY dO sW sH H locs ls hp hP hD hS hl
  unfold ws_X10_fits_54 at hp
  refine lv_ior hx hb bA9.2.2.1 ?_
  refine lv_topi (fun v_18 ev_18 => ?_)
  have hp := hp v_18 ev_18
  refine lv_istore_n (lv' := [(2, .int v_18), (0, .ref a_m), (1, .int x1), (3, .int x3)]) hx hb bA9.2.2.2.1 rfl hl (by decide) rfl (fun ls hl => ?_)
  obtain ⟨v_19, ev_19⟩ : ∃ y : Int32, y = x3 + 1 := ⟨_, rfl⟩
  refine lv_iinc (v := v_19) (lv' := [(3, .int v_19), (2, .int v_18), (0, .ref a_m), (1, .int x1)]) hx hb bA9.2.2.2.2.1 hl (k := 3) rfl (by rw [ev_19]; rfl) (by decide) rfl (fun ls hl => ?_)
  have hp := hp v_19 ev_19
  refine lv_goto (tgt := 27) hx hb bA9.2.2.2.2.2.1 (by decide) ?_
  exact hK27 x1 v_18 v_19 bL bY dO sW sH H locs ls hp hP hD hS (lv_sub hl [2, 3, 1, 0] rfl)
def ws_X10_fits_27 (post : Int32 -> Int32 -> Int32 -> Int32 -> (Nat -> Int32) -> (Nat -> Int32) -> Prop) (next : Int32 -> Int32 -> Int32 -> Int32 -> Int32 -> Int32 -> (Nat -> Int32) -> (Nat -> Int32) -> Prop) (bT aG : Int32) (qG m_x gR qR nG oO pJ : Nat -> Int32) (x1 x2 x3 bL bY dO : Int32) (sW sH : Nat -> Int32) : Prop := (aG <= x3 -> ∃ n : Nat, wb_X10_fits_73 post bT aG qG m_x gR qR nG oO pJ n x1 x2 0 (-1) (-1) 0 bL bY dO sW sH) /\ (¬ aG <= x3 -> vp_in x3 8 /\ (∀ v_17 : Int32, v_17 = sH x3.toNatClampNeg -> ((v_17 &&& x1) = 0 -> ws_X10_fits_54 post next bT aG qG m_x gR qR nG oO pJ x1 x3 x2 0 bL bY dO sW sH) /\ (¬ (v_17 &&& x1) = 0 -> ∀ v_20 : Int32, v_20 = 1 <<< (x3 &&& 31) -> ws_X10_fits_54 post next bT aG qG m_x gR qR nG oO pJ x1 x3 x2 v_20 bL bY dO sW sH)))
noncomputable def wb_X10_fits_27 (post : Int32 -> Int32 -> Int32 -> Int32 -> (Nat -> Int32) -> (Nat -> Int32) -> Prop) (bT aG : Int32) (qG m_x gR qR nG oO pJ : Nat -> Int32) : Nat -> Int32 -> Int32 -> Int32 -> Int32 -> Int32 -> Int32 -> (Nat -> Int32) -> (Nat -> Int32) -> Prop := fun n => Nat.rec (motive := fun _ => Int32 -> Int32 -> Int32 -> Int32 -> Int32 -> Int32 -> (Nat -> Int32) -> (Nat -> Int32) -> Prop) (fun _ _ _ _ _ _ _ _ => False) (fun _ ih => ws_X10_fits_27 post ih bT aG qG m_x gR qR nG oO pJ) n
set_option maxHeartbeats 4000000 in
set_option maxRecDepth 100000 in
theorem ks_X10_fits_27 (C0 : gc aCU (some .int) 7 zX (dC, dI) (tyl cI cC cZ cB cJ) A p s m args meth c) {next : Int32 -> Int32 -> Int32 -> Int32 -> Int32 -> Int32 -> (Nat -> Int32) -> (Nat -> Int32) -> Prop} (hKn : ∀ (x1 : Int32) (x2 : Int32) (x3 : Int32) (bL : Int32) (bY : Int32) (dO : Int32) (sW : Nat -> Int32) (sH : Nat -> Int32) (H : Heap) (locs : List Loc) (ls : Array Slot), next x1 x2 x3 bL bY dO sW sH -> va_P (dC, dI) classes (aEG cI cC cZ cB cJ a_m nY sJ eG iY lY jR jW jZ jO oQ bR aY jQ gY iJ mQ lJ jA bG mK jB mW mJ eJ dG bT aG jC bL bY jD mLn oF rP dQ aJ aB bW bZ aR aE bI aW bU fJ dO bM bQ bO jY oX qG m_x gR qR nG oO pJ sW sH) H -> va_D A (aEG cI cC cZ cB cJ a_m nY sJ eG iY lY jR jW jZ jO oQ bR aY jQ gY iJ mQ lJ jA bG mK jB mW mJ eJ dG bT aG jC bL bY jD mLn oF rP dQ aJ aB bW bZ aR aE bI aW bU fJ dO bM bQ bO jY oX qG m_x gR qR nG oO pJ sW sH) -> va_S A s.heap H locs -> lv_has ls 7 [(0, .ref a_m), (1, .int x1), (2, .int x2), (3, .int x3)] -> W p l e aYO s m args below meth c H locs 0 0 (MQ below (bA1 dC dI cI cC cZ cB cJ A a_m nY sJ eG iY lY jR jW jZ jO oQ bR aY jQ gY iJ mQ lJ jA bG mK jB mW mJ eJ dG bT aG jC jD mLn oF rP dQ aJ aB bW bZ aR aE bI aW bU fJ bM bQ bO jY oX qG m_x gR qR nG oO pJ post) args s 0 0 A) (F0 m 27 ls [])) : ∀ (x1 x2 x3 bL bY dO : Int32) (sW sH : Nat -> Int32) (H : Heap) (locs : List Loc) (ls : Array Slot), (ws_X10_fits_27 post next bT aG qG m_x gR qR nG oO pJ) x1 x2 x3 bL bY dO sW sH -> va_P (dC, dI) classes (aEG cI cC cZ cB cJ a_m nY sJ eG iY lY jR jW jZ jO oQ bR aY jQ gY iJ mQ lJ jA bG mK jB mW mJ eJ dG bT aG jC bL bY jD mLn oF rP dQ aJ aB bW bZ aR aE bI aW bU fJ dO bM bQ bO jY oX qG m_x gR qR nG oO pJ sW sH) H -> va_D A (aEG cI cC cZ cB cJ a_m nY sJ eG iY lY jR jW jZ jO oQ bR aY jQ gY iJ mQ lJ jA bG mK jB mW mJ eJ dG bT aG jC bL bY jD mLn oF rP dQ aJ aB bW bZ aR aE bI aW bU fJ dO bM bQ bO jY oX qG m_x gR qR nG oO pJ sW sH) -> va_S A s.heap H locs -> lv_has ls 7 [(0, .ref a_m), (1, .int x1), (2, .int x2), (3, .int x3)] -> W p l e aYO s m args below meth c H locs 0 0 (MQ below (bA1 dC dI cI cC cZ cB cJ A a_m nY sJ eG iY lY jR jW jZ jO oQ bR aY jQ gY iJ mQ lJ jA bG mK jB mW mJ eJ dG bT aG jC jD mLn oF rP dQ aJ aB bW bZ aR aE bI aW bU fJ bM bQ bO jY oX qG m_x gR qR nG oO pJ post) args s 0 0 A) (F0 m 27 ls []) := by
  obtain ⟨hx, hb, hr, hml, hown, hts, hlocks, hA, hK, hN, tL, tM, hZL, hTL, hZM, hTM, hZX⟩ := id C0
  intro x1 x2 x3 bL bY dO sW sH H locs ls hp hP hD hS hl
  unfold ws_X10_fits_27 at hp
  refine lv_iload_n hx hb aV3.2.1 rfl (lv_at hl 3 rfl) ?_
  refine lv_aload_n hx hb aV3.2.2.1 rfl (lv_at hl 0 rfl) ?_
  refine va_get (D := (dC, dI)) (ci := 10) (v := .int aG) (C := zX) (T := aBe) (N := 51) hx hb hts aAt hown hK hP 0 rfl rfl 6 (lbz rfl) (hts _ q_666) (fun _ h9 => h9) rfl aV3.2.2.2.1 ?_
  refine lv_icmp_ge (tgt := 62) hx hb aV3.2.2.2.2.1 (by decide) (fun hc => ?_) (fun hc => ?_)
  · have hp := hp.1 hc
    refine lv_iconst (v := 0) hx hb bA9.2.2.2.2.2.2.1 aCi ?_
    refine lv_istore_n (lv' := [(3, .int 0), (0, .ref a_m), (1, .int x1), (2, .int x2)]) hx hb bA9.2.2.2.2.2.2.2.1 rfl hl (by decide) rfl (fun ls hl => ?_)
    refine lv_iconst (v := (-1)) hx hb bA9.2.2.2.2.2.2.2.2.1 aEJ ?_
    refine lv_istore (lv' := [(4, .int (-1)), (3, .int 0), (0, .ref a_m), (1, .int x1), (2, .int x2)]) hx hb bA9.2.2.2.2.2.2.2.2.2.1 hl (by decide) rfl (fun ls hl => ?_)
    refine lv_iconst (v := (-1)) hx hb bA9.2.2.2.2.2.2.2.2.2.2.1 aEJ ?_
    refine lv_istore (lv' := [(5, .int (-1)), (4, .int (-1)), (3, .int 0), (0, .ref a_m), (1, .int x1), (2, .int x2)]) hx hb bA9.2.2.2.2.2.2.2.2.2.2.2.1 hl (by decide) rfl (fun ls hl => ?_)
    refine lv_iconst (v := 0) hx hb bA9.2.2.2.2.2.2.2.2.2.2.2.2.1 aCi ?_
    refine lv_istore (lv' := [(6, .int 0), (5, .int (-1)), (4, .int (-1)), (3, .int 0), (0, .ref a_m), (1, .int x1), (2, .int x2)]) hx hb bA9.2.2.2.2.2.2.2.2.2.2.2.2.2 hl (by decide) rfl (fun ls hl => ?_)
    obtain ⟨n9, hp⟩ := hp
    exact kb_X10_fits_73 C0 n9 x1 x2 0 (-1) (-1) 0 bL bY dO sW sH H locs ls hp hP hD hS (lv_sub hl [4, 5, 6, 3, 2, 1, 0] rfl)
  · have hp := hp.2 hc
    refine lv_iload_n hx hb aV3.2.2.2.2.2.1 rfl (lv_at hl 2 rfl) ?_
    refine lv_aload_n hx hb aV3.2.2.2.2.2.2.1 rfl (lv_at hl 0 rfl) ?_
    refine va_get (D := (dC, dI)) (ci := 10) (v := .ref lJ) (C := zX) (T := aBe) (N := 51) hx hb hts aAt hown hK hP 0 rfl rfl 36 (lbz rfl) (hts _ q_869) (fun _ h9 => h9) rfl aV3.2.2.2.2.2.2.2.1 ?_
    refine lv_iload_n hx hb aV3.2.2.2.2.2.2.2.2.1 rfl (lv_at hl 3 rfl) ?_
    have hin := hp.1
    have hp := hp.2
    refine va_iald hx hb hK hP 9 0 rfl rfl hin aV3.2.2.2.2.2.2.2.2.2.1 ?_
    refine lv_topi (fun v_17 ev_17 => ?_)
    have hp := hp v_17 ev_17
    refine lv_iload_n hx hb aV3.2.2.2.2.2.2.2.2.2.2.1 rfl (lv_at hl 1 rfl) ?_
    refine lv_iand hx hb aV3.2.2.2.2.2.2.2.2.2.2.2.1 ?_
    refine lv_if_eq (tgt := 53) hx hb aV3.2.2.2.2.2.2.2.2.2.2.2.2.1 (by decide) (fun hc => ?_) (fun hc => ?_)
    · have hp := hp.1 hc
      refine lv_iconst (v := 0) hx hb bA9.2.1 aCi ?_
      exact ks_X10_fits_54 C0 hKn x1 x3 x2 0 bL bY dO sW sH H locs ls hp hP hD hS (lv_sub hl [0, 1, 3] rfl)
    · have hp := hp.2 hc
      refine lv_iconst (v := 1) hx hb aV3.2.2.2.2.2.2.2.2.2.2.2.2.2.1 aDx ?_
      refine lv_iload_n hx hb aV3.2.2.2.2.2.2.2.2.2.2.2.2.2.2.1 rfl (lv_at hl 3 rfl) ?_
      refine lv_ishl hx hb aV3.2.2.2.2.2.2.2.2.2.2.2.2.2.2.2 ?_
      refine lv_topi (fun v_20 ev_20 => ?_)
      have hp := hp v_20 ev_20
      refine lv_goto (tgt := 54) hx hb bA9.1 (by decide) ?_
      exact ks_X10_fits_54 C0 hKn x1 x3 x2 v_20 bL bY dO sW sH H locs ls hp hP hD hS (lv_sub hl [0, 1, 3] rfl)
set_option maxHeartbeats 4000000 in
set_option maxRecDepth 100000 in
theorem kb_X10_fits_27 (C0 : gc aCU (some .int) 7 zX (dC, dI) (tyl cI cC cZ cB cJ) A p s m args meth c) : ∀ (n : Nat), ∀ (x1 x2 x3 bL bY dO : Int32) (sW sH : Nat -> Int32) (H : Heap) (locs : List Loc) (ls : Array Slot), (wb_X10_fits_27 post bT aG qG m_x gR qR nG oO pJ n) x1 x2 x3 bL bY dO sW sH -> va_P (dC, dI) classes (aEG cI cC cZ cB cJ a_m nY sJ eG iY lY jR jW jZ jO oQ bR aY jQ gY iJ mQ lJ jA bG mK jB mW mJ eJ dG bT aG jC bL bY jD mLn oF rP dQ aJ aB bW bZ aR aE bI aW bU fJ dO bM bQ bO jY oX qG m_x gR qR nG oO pJ sW sH) H -> va_D A (aEG cI cC cZ cB cJ a_m nY sJ eG iY lY jR jW jZ jO oQ bR aY jQ gY iJ mQ lJ jA bG mK jB mW mJ eJ dG bT aG jC bL bY jD mLn oF rP dQ aJ aB bW bZ aR aE bI aW bU fJ dO bM bQ bO jY oX qG m_x gR qR nG oO pJ sW sH) -> va_S A s.heap H locs -> lv_has ls 7 [(0, .ref a_m), (1, .int x1), (2, .int x2), (3, .int x3)] -> W p l e aYO s m args below meth c H locs 0 0 (MQ below (bA1 dC dI cI cC cZ cB cJ A a_m nY sJ eG iY lY jR jW jZ jO oQ bR aY jQ gY iJ mQ lJ jA bG mK jB mW mJ eJ dG bT aG jC jD mLn oF rP dQ aJ aB bW bZ aR aE bI aW bU fJ bM bQ bO jY oX qG m_x gR qR nG oO pJ post) args s 0 0 A) (F0 m 27 ls []) := by
  intro n
  induction n with
  | zero =>
    intro x1 x2 x3 bL bY dO sW sH H locs ls hp
    exact False.elim hp
  | succ n ih =>
    intro x1 x2 x3 bL bY dO sW sH H locs ls hp
    exact ks_X10_fits_27 C0 ih x1 x2 x3 bL bY dO sW sH H locs ls hp
end S_X10_fits
def wp_X10_fits (post : Int32 -> Int32 -> Int32 -> Int32 -> (Nat -> Int32) -> (Nat -> Int32) -> Prop) (p0 bT aG bL bY dO : Int32) (qG m_x gR qR nG oO pJ sW sH : Nat -> Int32) : Prop := wp_X10_allFruits (fun r_1 => aJY (fun r_2 => (¬ r_2 = 0 -> aJm (fun aC5 aF5 => ∃ n : Nat, wb_X10_fits_27 post bT aG qG m_x gR qR nG oO pJ n p0 0 0 bL 0 aC5 sW aF5) bT aG dO qG m_x gR qR nG oO pJ sH) /\ (r_2 = 0 -> post (-1) bL 0 dO sW sH)) p0 0 r_1) bT
set_option maxHeartbeats 4000000 in
set_option maxRecDepth 100000 in
theorem c_X10_fits (l : Launch) (dC : Nat -> ClassId) (dI : Nat -> Nat -> Nat) (cI cC cZ cB cJ : ClassId) (a_m nY sJ eG iY lY jR jW jZ jO oQ bR aY jQ gY iJ mQ lJ jA bG mK jB mW mJ eJ dG sz : Nat) (p0 bT aG jC bL bY : Int32) (jD : Nat) (mLn oF rP dQ aJ aB bW bZ aR aE bI aW bU fJ dO bM bQ bO jY oX : Int32) (qG m_x gR qR nG oO pJ sW sH : Nat -> Int32) (post : Int32 -> Int32 -> Int32 -> Int32 -> (Nat -> Int32) -> (Nat -> Int32) -> Prop) (hw : wp_X10_fits post p0 bT aG bL bY dO qG m_x gR qR nG oO pJ sW sH) : Met l yX10_fits (gw yX10_fits aCU 7 (some .int)) aYO (va_Pc [.ref a_m, .int p0] (gPre (dC, dI) (tyl cI cC cZ cB cJ) (aEG cI cC cZ cB cJ a_m nY sJ eG iY lY jR jW jZ jO oQ bR aY jQ gY iJ mQ lJ jA bG mK jB mW mJ eJ dG bT aG jC bL bY jD mLn oF rP dQ aJ aB bW bZ aR aE bI aW bU fJ dO bM bQ bO jY oX qG m_x gR qR nG oO pJ sW sH) sz)) (bA1 dC dI cI cC cZ cB cJ (va_A (aEG cI cC cZ cB cJ a_m nY sJ eG iY lY jR jW jZ jO oQ bR aY jQ gY iJ mQ lJ jA bG mK jB mW mJ eJ dG bT aG jC bL bY jD mLn oF rP dQ aJ aB bW bZ aR aE bI aW bU fJ dO bM bQ bO jY oX qG m_x gR qR nG oO pJ sW sH) sz) a_m nY sJ eG iY lY jR jW jZ jO oQ bR aY jQ gY iJ mQ lJ jA bG mK jB mW mJ eJ dG bT aG jC jD mLn oF rP dQ aJ aB bW bZ aR aE bI aW bU fJ bM bQ bO jY oX qG m_x gR qR nG oO pJ post) 0 0 (va_A (aEG cI cC cZ cB cJ a_m nY sJ eG iY lY jR jW jZ jO oQ bR aY jQ gY iJ mQ lJ jA bG mK jB mW mJ eJ dG bT aG jC bL bY jD mLn oF rP dQ aJ aB bW bZ aR aE bI aW bU fJ dO bM bQ bO jY oX qG m_x gR qR nG oO pJ sW sH) sz) := by
  refine aBJ (own := zX) (dC, dI) (tyl cI cC cZ cB cJ) (aEG cI cC cZ cB cJ a_m nY sJ eG iY lY jR jW jZ jO oQ bR aY jQ gY iJ mQ lJ jA bG mK jB mW mJ eJ dG bT aG jC bL bY jD mLn oF rP dQ aJ aB bW bZ aR aE bI aW bU fJ dO bM bQ bO jY oX qG m_x gR qR nG oO pJ sW sH) sz [.ref a_m, .int p0] (fun A => bA1 dC dI cI cC cZ cB cJ A a_m nY sJ eG iY lY jR jW jZ jO oQ bR aY jQ gY iJ mQ lJ jA bG mK jB mW mJ eJ dG bT aG jC jD mLn oF rP dQ aJ aB bW bZ aR aE bI aW bU fJ bM bQ bO jY oX qG m_x gR qR nG oO pJ post) aFY rfl (lbz rfl) ?_
  intro p e s m args below meth c A H locs ls C0 hP hD hS hl
  have hl : lv_has ls 7 [(0, .ref a_m), (1, .int p0)] := hl
  obtain ⟨hx, hb, hr, hml, hown, hts, hlocks, hA, hK, hN, tL, tM, hZL, hTL, hZM, hTM, hZX⟩ := id C0
  have hp := hw
  unfold wp_X10_fits at hp
  refine lv_aload_n hx hb bAC.1 rfl (lv_at hl 0 rfl) ?_
  refine lv_iconst (v := 0) hx hb bAC.2.1 aCi ?_
  refine va_put (D := (dC, dI)) (ci := 10) (v := .int 0) (ty := .int) (C := zX) (T := aBe) (N := 51) hx hb hts aAt aD2 aAa aEC hown hK hP hD hS 0 rfl rfl 14 (lbz rfl) (hts _ q_638) (fun _ h9 => h9) rfl (aAa 14 (lbz rfl)) rfl rfl (lbz rfl) bAC.2.2.1 (fun H locs hP hD hS => ?_)
  have hPD := PDw (ws' := (aEG cI cC cZ cB cJ a_m nY sJ eG iY lY jR jW jZ jO oQ bR aY jQ gY iJ mQ lJ jA bG mK jB mW mJ eJ dG bT aG jC bL 0 jD mLn oF rP dQ aJ aB bW bZ aR aE bI aW bU fJ dO bM bQ bO jY oX qG m_x gR qR nG oO pJ sW sH)) hP hD rfl
  have hP := hPD.1
  have hD := hPD.2
  refine lv_iload_n hx hb bAC.2.2.2.1 rfl (lv_at hl 1 rfl) ?_
  refine lv_iconst (v := 0) hx hb bAC.2.2.2.2.1 aCi ?_
  refine lv_aload_n hx hb bAC.2.2.2.2.2.1 rfl (lv_at hl 0 rfl) ?_
  have hm := mgk (wc := (wd_X10_allFruits cI cC cZ cB cJ a_m nY sJ eG iY lY jR jW jZ jO oQ bR aY jQ gY iJ mQ lJ jA bG mK jB mW mJ eJ dG bT aG jC bL 0 jD mLn oF rP dQ aJ aB bW bZ aR aE bI aW bU fJ dO bM bQ bO jY oX)) hP aRf 10 rfl rfl rfl
  refine yW hP hD hS hA (yS aRf) (aAi aRf) hm.1 hm.2 (aAk _) (zW _) (zF (As := []) (rest := [.int 0, .int p0]) C0 hP hD hS (yS aRf) hm.1 (aAl _) 0 10 rfl rfl (c_X10_allFruits l dC dI cI cC cZ cB cJ a_m nY sJ eG iY lY jR jW jZ jO oQ bR aY jQ gY iJ mQ lJ jA bG mK jB mW mJ eJ dG H.size bT aG jC bL 0 jD mLn oF rP dQ aJ aB bW bZ aR aE bI aW bU fJ dO bM bQ bO jY oX _ hp) q_955 q_958 q_956 q_957 aBL h_X10_allFruits rfl rfl ⟨lbz rfl, lbz rfl⟩ rfl rfl hl.1 rfl (lv_room (lbz rfl)) bAC.2.2.2.2.2.2.1 ⟨Nat.zero_le _, Nat.zero_le _⟩) (fun r_1 u H locs hp hP hD hS => ?_)
  have hPD := PDm (ws' := (aEG cI cC cZ cB cJ a_m nY sJ eG iY lY jR jW jZ jO oQ bR aY jQ gY iJ mQ lJ jA bG mK jB mW mJ eJ dG bT aG jC bL 0 jD mLn oF rP dQ aJ aB bW bZ aR aE bI aW bU fJ dO bM bQ bO jY oX qG m_x gR qR nG oO pJ sW sH)) hP hD 10 rfl rfl rfl
  have hP := hPD.1
  have hD := hPD.2
  have hm := mgk (wc := (aKW cI cC cZ cB cJ)) hP aGk 10 rfl rfl rfl
  refine yW hP hD hS hA (yS aGk) (aAi aGk) hm.1 hm.2 (aAk _) (zW _) (aDn (As := [.int p0, .int 0, .int r_1]) (rest := []) C0 hP hD hS (yS aGk) hm.1 (aAl _) (aRu l dC dI cI cC cZ cB cJ H.size p0 0 r_1 _ hp) q_641 q_644 q_643 aBL aRx rfl rfl ⟨lbz rfl, lbz rfl⟩ rfl rfl hl.1 rfl (lv_room (lbz rfl)) bAC.2.2.2.2.2.2.2.1 ⟨Nat.zero_le _, Nat.zero_le _⟩) (fun r_2 u H locs hp hP hD hS => ?_)
  have hPD := PDm (ws' := (aEG cI cC cZ cB cJ a_m nY sJ eG iY lY jR jW jZ jO oQ bR aY jQ gY iJ mQ lJ jA bG mK jB mW mJ eJ dG bT aG jC bL 0 jD mLn oF rP dQ aJ aB bW bZ aR aE bI aW bU fJ dO bM bQ bO jY oX qG m_x gR qR nG oO pJ sW sH)) hP hD 10 rfl rfl rfl
  have hP := hPD.1
  have hD := hPD.2
  refine lv_if_ne (tgt := 19) hx hb bAC.2.2.2.2.2.2.2.2.1 (by decide) (fun hc => ?_) (fun hc => ?_)
  · have hp := hp.1 hc
    refine lv_aload_n hx hb bAC.2.2.2.2.2.2.2.2.2.2.2.1 rfl (lv_at hl 0 rfl) ?_
    have hm := mgk (wc := (aIe cI cC cZ cB cJ a_m nY sJ eG iY lY jR jW jZ jO oQ bR aY jQ gY iJ mQ lJ jA bG mK jB mW mJ eJ dG bT aG jC bL 0 jD mLn oF rP dQ aJ aB bW bZ aR aE bI aW bU fJ dO bM bQ bO jY oX qG m_x gR qR nG oO pJ sH)) hP aUv 10 rfl rfl rfl
    refine aBn hP hD hS hA (yS aUv) (aAi aUv) hm.1 hm.2 (aAk _) (zW _) (zF (As := []) (rest := []) C0 hP hD hS (yS aUv) hm.1 (aAl _) 0 10 rfl rfl (aPr l dC dI cI cC cZ cB cJ a_m nY sJ eG iY lY jR jW jZ jO oQ bR aY jQ gY iJ mQ lJ jA bG mK jB mW mJ eJ dG H.size bT aG jC bL 0 jD mLn oF rP dQ aJ aB bW bZ aR aE bI aW bU fJ dO bM bQ bO jY oX qG m_x gR qR nG oO pJ sH _ hp) q_883 q_886 q_884 q_885 aBL aQ3 rfl rfl ⟨lbz rfl, lbz rfl⟩ rfl rfl hl.1 rfl (lv_room (lbz rfl)) bAC.2.2.2.2.2.2.2.2.2.2.2.2.1 ⟨Nat.zero_le _, Nat.zero_le _⟩) (fun u H locs hp hP hD hS => ?_)
    obtain ⟨aC5, aF5⟩ := u
    have hPD := PDm (ws' := (aEG cI cC cZ cB cJ a_m nY sJ eG iY lY jR jW jZ jO oQ bR aY jQ gY iJ mQ lJ jA bG mK jB mW mJ eJ dG bT aG jC bL 0 jD mLn oF rP dQ aJ aB bW bZ aR aE bI aW bU fJ aC5 bM bQ bO jY oX qG m_x gR qR nG oO pJ sW aF5)) hP hD 10 rfl rfl rfl
    have hP := hPD.1
    have hD := hPD.2
    refine lv_iconst (v := 0) hx hb bAC.2.2.2.2.2.2.2.2.2.2.2.2.2.1 aCi ?_
    refine lv_istore_n (lv' := [(2, .int 0), (0, .ref a_m), (1, .int p0)]) hx hb bAC.2.2.2.2.2.2.2.2.2.2.2.2.2.2.1 rfl hl (by decide) rfl (fun ls hl => ?_)
    refine lv_iconst (v := 0) hx hb bAC.2.2.2.2.2.2.2.2.2.2.2.2.2.2.2 aCi ?_
    refine lv_istore_n (lv' := [(3, .int 0), (2, .int 0), (0, .ref a_m), (1, .int p0)]) hx hb aV3.1 rfl hl (by decide) rfl (fun ls hl => ?_)
    obtain ⟨n9, hp⟩ := hp
    exact kb_X10_fits_27 C0 n9 p0 0 0 bL 0 aC5 sW aF5 H locs ls hp hP hD hS (lv_sub hl [2, 3, 1, 0] rfl)
  · have hp := hp.2 hc
    refine lv_iconst (v := (-1)) hx hb bAC.2.2.2.2.2.2.2.2.2.1 aEJ ?_
    exact W.iret (v := (-1)) hx hb hr (fun t ht hW => ⟨⟨(-1), (bL, 0, dO, sW, sH), rfl, hp, by rw [ht]; exact hP, va_K.moved hW.alike hK, hD⟩, hS.F ht⟩) hS.2.2 bAC.2.2.2.2.2.2.2.2.2.2.1
