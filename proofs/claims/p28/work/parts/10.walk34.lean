abbrev wd_X10_shake (cI cC cZ cB cJ : ClassId) (a_m nY sJ eG iY lY jR jW jZ jO oQ bR aY jQ gY iJ mQ lJ jA bG mK jB mW mJ eJ dG : Nat) (bT aG jC bL bY : Int32) (jD : Nat) (mLn oF rP dQ aJ aB bW bZ aR aE bI aW bU fJ dO bM bQ bO jY oX : Int32) (qG m_x gR qR nG oO pJ uL : Nat -> Int32) : va_W := [(a_m, .inr (10, [.ref nY, .int bT, .ref sJ, .ref eG, .ref iY, .ref lY, .int aG, .ref jR, .ref jW, .ref jZ, .ref jO, .int jC, .ref oQ, .int bL, .int bY, rdv jO jQ jD, .int mLn, .int oF, .int rP, .int dQ, .ref bR, .ref aY, .int aJ, .int aB, .ref jQ, .int bW, .int bZ, .int aR, .int aE, .int bI, .int aW, .ref gY, .int bU, .ref iJ, .ref mQ, .int fJ, .ref lJ, .int dO, .ref jA, .ref bG, .int bM, .int bQ, .int bO, .ref mK, .ref jB, .ref mW, .int jY, .int oX, .ref mJ, .ref eJ, .ref dG])), (nY, .inl (cI, 21, .inl qG)), (sJ, .inl (cI, 16, .inl m_x)), (eG, .inl (cI, 16, .inl gR)), (lY, .inl (cI, 16, .inl qR)), (jR, .inl (cI, 8, .inl nG)), (jW, .inl (cI, 8, .inl oO)), (jZ, .inl (cI, 5, .inl pJ)), (gY, .inl (cI, 252, .inl uL))]
abbrev q_X10_shake (dC : Nat -> ClassId) (dI : Nat -> Nat -> Nat) (cI cC cZ cB cJ : ClassId) (A : Nat -> Prop) (a_m nY sJ eG iY lY jR jW jZ jO oQ bR aY jQ gY iJ mQ lJ jA bG mK jB mW mJ eJ dG : Nat) (bT aG jC bL : Int32) (jD : Nat) (mLn oF rP dQ aJ aB bW bZ aR aE bI aW fJ dO bM bQ bO jY oX : Int32) (m_x gR qR nG oO pJ : Nat -> Int32) (post : Int32 -> Int32 -> Int32 -> (Nat -> Int32) -> (Nat -> Int32) -> Prop) : Array Value -> State -> Outcome -> State -> Prop := va_Qi (fun (r : Int32) (u : Int32 × Int32 × (Nat -> Int32) × (Nat -> Int32)) => post r u.1 u.2.1 u.2.2.1 u.2.2.2) (fun u t => gB (dC, dI) (tyl cI cC cZ cB cJ) A (wd_X10_shake cI cC cZ cB cJ a_m nY sJ eG iY lY jR jW jZ jO oQ bR aY jQ gY iJ mQ lJ jA bG mK jB mW mJ eJ dG bT aG jC bL u.1 jD mLn oF rP dQ aJ aB bW bZ aR aE bI aW u.2.1 fJ dO bM bQ bO jY oX u.2.2.1 m_x gR qR nG oO pJ u.2.2.2) t) A
abbrev rm_X10_shake : Room := { frames := 6, cells := 0, slots := 0, locals := 135 }
def wp_X10_shake (post : Int32 -> Int32 -> Int32 -> (Nat -> Int32) -> (Nat -> Int32) -> Prop) (bT bY bU : Int32) (qG m_x gR qR nG oO pJ uL : Nat -> Int32) : Prop := ∀ v_1 : Int32, v_1 = qG (17 : Int32).toNatClampNeg -> (¬ v_1 = (-1) -> aUa (fun aEX aJk => wp_X10_goShake (fun r_4 aX3 => post r_4 0 aEX aX3 aJk) bT qG m_x gR qR nG oO pJ) bU qG uL) /\ (v_1 = (-1) -> post (-2) 0 bU qG uL)
set_option maxHeartbeats 4000000 in
set_option maxRecDepth 100000 in
theorem c_X10_shake (l : Launch) (dC : Nat -> ClassId) (dI : Nat -> Nat -> Nat) (cI cC cZ cB cJ : ClassId) (a_m nY sJ eG iY lY jR jW jZ jO oQ bR aY jQ gY iJ mQ lJ jA bG mK jB mW mJ eJ dG sz : Nat) (bT aG jC bL bY : Int32) (jD : Nat) (mLn oF rP dQ aJ aB bW bZ aR aE bI aW bU fJ dO bM bQ bO jY oX : Int32) (qG m_x gR qR nG oO pJ uL : Nat -> Int32) (post : Int32 -> Int32 -> Int32 -> (Nat -> Int32) -> (Nat -> Int32) -> Prop) (hw : wp_X10_shake post bT bY bU qG m_x gR qR nG oO pJ uL) : Met l yX10_shake (gw yX10_shake aXS 1 (some .int)) rm_X10_shake (va_Pc [.ref a_m] (gPre (dC, dI) (tyl cI cC cZ cB cJ) (wd_X10_shake cI cC cZ cB cJ a_m nY sJ eG iY lY jR jW jZ jO oQ bR aY jQ gY iJ mQ lJ jA bG mK jB mW mJ eJ dG bT aG jC bL bY jD mLn oF rP dQ aJ aB bW bZ aR aE bI aW bU fJ dO bM bQ bO jY oX qG m_x gR qR nG oO pJ uL) sz)) (q_X10_shake dC dI cI cC cZ cB cJ (va_A (wd_X10_shake cI cC cZ cB cJ a_m nY sJ eG iY lY jR jW jZ jO oQ bR aY jQ gY iJ mQ lJ jA bG mK jB mW mJ eJ dG bT aG jC bL bY jD mLn oF rP dQ aJ aB bW bZ aR aE bI aW bU fJ dO bM bQ bO jY oX qG m_x gR qR nG oO pJ uL) sz) a_m nY sJ eG iY lY jR jW jZ jO oQ bR aY jQ gY iJ mQ lJ jA bG mK jB mW mJ eJ dG bT aG jC bL jD mLn oF rP dQ aJ aB bW bZ aR aE bI aW fJ dO bM bQ bO jY oX m_x gR qR nG oO pJ post) 0 0 (va_A (wd_X10_shake cI cC cZ cB cJ a_m nY sJ eG iY lY jR jW jZ jO oQ bR aY jQ gY iJ mQ lJ jA bG mK jB mW mJ eJ dG bT aG jC bL bY jD mLn oF rP dQ aJ aB bW bZ aR aE bI aW bU fJ dO bM bQ bO jY oX qG m_x gR qR nG oO pJ uL) sz) := by
  refine aBJ (own := zX) (dC, dI) (tyl cI cC cZ cB cJ) (wd_X10_shake cI cC cZ cB cJ a_m nY sJ eG iY lY jR jW jZ jO oQ bR aY jQ gY iJ mQ lJ jA bG mK jB mW mJ eJ dG bT aG jC bL bY jD mLn oF rP dQ aJ aB bW bZ aR aE bI aW bU fJ dO bM bQ bO jY oX qG m_x gR qR nG oO pJ uL) sz [.ref a_m] (fun A => q_X10_shake dC dI cI cC cZ cB cJ A a_m nY sJ eG iY lY jR jW jZ jO oQ bR aY jQ gY iJ mQ lJ jA bG mK jB mW mJ eJ dG bT aG jC bL jD mLn oF rP dQ aJ aB bW bZ aR aE bI aW fJ dO bM bQ bO jY oX m_x gR qR nG oO pJ post) aFY rfl (lbz rfl) ?_
  intro p e s m args below meth c A H locs ls C0 hP hD hS hl
  have hl : lv_has ls 1 [(0, .ref a_m)] := hl
  obtain ⟨hx, hb, hr, hml, hown, hts, hlocks, hA, hK, hN, tL, tM, hZL, hTL, hZM, hTM, hZX⟩ := id C0
  have hp := hw
  unfold wp_X10_shake at hp
  refine lv_aload_n hx hb aWQ.1 rfl (lv_at hl 0 rfl) ?_
  refine lv_iconst (v := 0) hx hb aWQ.2.1 aCi ?_
  refine va_put (D := (dC, dI)) (ci := 10) (v := .int 0) (ty := .int) (C := zX) (T := aBe) (N := 51) hx hb hts aAt aD2 aAa aEC hown hK hP hD hS 0 rfl rfl 14 (lbz rfl) (hts _ q_638) (fun _ h9 => h9) rfl (aAa 14 (lbz rfl)) rfl rfl (lbz rfl) aWQ.2.2.1 (fun H locs hP hD hS => ?_)
  have hPD := PDw (ws' := (wd_X10_shake cI cC cZ cB cJ a_m nY sJ eG iY lY jR jW jZ jO oQ bR aY jQ gY iJ mQ lJ jA bG mK jB mW mJ eJ dG bT aG jC bL 0 jD mLn oF rP dQ aJ aB bW bZ aR aE bI aW bU fJ dO bM bQ bO jY oX qG m_x gR qR nG oO pJ uL)) hP hD rfl
  have hP := hPD.1
  have hD := hPD.2
  refine lv_aload_n hx hb aWQ.2.2.2.1 rfl (lv_at hl 0 rfl) ?_
  refine va_get (D := (dC, dI)) (ci := 10) (v := .ref nY) (C := zX) (T := aBe) (N := 51) hx hb hts aAt hown hK hP 0 rfl rfl 0 (lbz rfl) (hts _ aHO) (fun _ h9 => h9) rfl aWQ.2.2.2.2.1 ?_
  refine lv_bipush (v := 17) hx hb aWQ.2.2.2.2.2.1 bp_17 ?_
  refine va_iald hx hb hK hP 1 0 rfl rfl (g_in rfl) aWQ.2.2.2.2.2.2.1 ?_
  refine lv_topi (fun v_1 aFJ => ?_)
  have hp := hp v_1 aFJ
  refine lv_iconst (v := (-1)) hx hb aWQ.2.2.2.2.2.2.2.1 aEJ ?_
  refine lv_icmp_ne (tgt := 19) hx hb aWQ.2.2.2.2.2.2.2.2.1 (by decide) (fun hc => ?_) (fun hc => ?_)
  · have hp := hp.1 hc
    refine lv_aload_n hx hb aWQ.2.2.2.2.2.2.2.2.2.2.2.1 rfl (lv_at hl 0 rfl) ?_
    refine lv_aload_n hx hb aWQ.2.2.2.2.2.2.2.2.2.2.2.2.1 rfl (lv_at hl 0 rfl) ?_
    refine va_get (D := (dC, dI)) (ci := 10) (v := .ref nY) (C := zX) (T := aBe) (N := 51) hx hb hts aAt hown hK hP 0 rfl rfl 0 (lbz rfl) (hts _ aHO) (fun _ h9 => h9) rfl aWQ.2.2.2.2.2.2.2.2.2.2.2.2.2.1 ?_
    have hm := mgk (wc := (aGw cI cC cZ cB cJ a_m nY sJ eG iY lY jR jW jZ jO oQ bR aY jQ gY iJ mQ lJ jA bG mK jB mW mJ eJ dG bT aG jC bL 0 jD mLn oF rP dQ aJ aB bW bZ aR aE bI aW bU fJ dO bM bQ bO jY oX qG uL)) hP mk_73 9 rfl rfl rfl
    refine aBn hP hD hS hA (yS mk_73) (aAi mk_73) hm.1 hm.2 (aAk _) (zW _) (zF (As := [.ref nY]) (rest := []) C0 hP hD hS (yS mk_73) hm.1 (aAl _) 0 10 rfl rfl (c_X10_remember l dC dI cI cC cZ cB cJ a_m nY sJ eG iY lY jR jW jZ jO oQ bR aY jQ gY iJ mQ lJ jA bG mK jB mW mJ eJ dG H.size bT aG jC bL 0 jD mLn oF rP dQ aJ aB bW bZ aR aE bI aW bU fJ dO bM bQ bO jY oX qG uL _ hp) q_787 q_790 q_788 q_789 aBL h_X10_remember rfl rfl ⟨lbz rfl, lbz rfl⟩ rfl rfl hl.1 rfl (lv_room (lbz rfl)) aWQ.2.2.2.2.2.2.2.2.2.2.2.2.2.2.1 ⟨Nat.zero_le _, Nat.zero_le _⟩) (fun u H locs hp hP hD hS => ?_)
    obtain ⟨aEX, aJk⟩ := u
    have hPD := PDm (ws' := (wd_X10_shake cI cC cZ cB cJ a_m nY sJ eG iY lY jR jW jZ jO oQ bR aY jQ gY iJ mQ lJ jA bG mK jB mW mJ eJ dG bT aG jC bL 0 jD mLn oF rP dQ aJ aB bW bZ aR aE bI aW aEX fJ dO bM bQ bO jY oX qG m_x gR qR nG oO pJ aJk)) hP hD 9 rfl rfl rfl
    have hP := hPD.1
    have hD := hPD.2
    refine lv_aload_n hx hb aWQ.2.2.2.2.2.2.2.2.2.2.2.2.2.2.2 rfl (lv_at hl 0 rfl) ?_
    have hm := mgk (wc := (aGf cI cC cZ cB cJ a_m nY sJ eG iY lY jR jW jZ jO oQ bR aY jQ gY iJ mQ lJ jA bG mK jB mW mJ eJ dG bT aG jC bL 0 jD mLn oF rP dQ aJ aB bW bZ aR aE bI aW aEX fJ dO bM bQ bO jY oX qG m_x gR qR nG oO pJ)) hP mk_227 9 rfl rfl rfl
    refine yW hP hD hS hA (yS mk_227) (aAi mk_227) hm.1 hm.2 (aAk _) (zW _) (zF (As := []) (rest := []) C0 hP hD hS (yS mk_227) hm.1 (aAl _) 0 10 rfl rfl (c_X10_goShake l dC dI cI cC cZ cB cJ a_m nY sJ eG iY lY jR jW jZ jO oQ bR aY jQ gY iJ mQ lJ jA bG mK jB mW mJ eJ dG H.size bT aG jC bL 0 jD mLn oF rP dQ aJ aB bW bZ aR aE bI aW aEX fJ dO bM bQ bO jY oX qG m_x gR qR nG oO pJ _ hp) q_836 q_839 q_837 q_838 aBL h_X10_goShake rfl rfl ⟨lbz rfl, lbz rfl⟩ rfl rfl hl.1 rfl (lv_room (lbz rfl)) eX10_shake_28.1 ⟨Nat.zero_le _, Nat.zero_le _⟩) (fun r_4 u H locs hp hP hD hS => ?_)
    obtain ⟨aX3, rfl⟩ : ∃ z, z = u := ⟨_, rfl⟩
    have hPD := PDm (ws' := (wd_X10_shake cI cC cZ cB cJ a_m nY sJ eG iY lY jR jW jZ jO oQ bR aY jQ gY iJ mQ lJ jA bG mK jB mW mJ eJ dG bT aG jC bL 0 jD mLn oF rP dQ aJ aB bW bZ aR aE bI aW aEX fJ dO bM bQ bO jY oX aX3 m_x gR qR nG oO pJ aJk)) hP hD 9 rfl rfl rfl
    have hP := hPD.1
    have hD := hPD.2
    exact W.iret (v := r_4) hx hb hr (fun t ht hW => ⟨⟨r_4, (0, aEX, aX3, aJk), rfl, hp, by rw [ht]; exact hP, va_K.moved hW.alike hK, hD⟩, hS.F ht⟩) hS.2.2 eX10_shake_28.2
  · have hp := hp.2 hc
    refine lv_bipush (v := (-2)) hx hb aWQ.2.2.2.2.2.2.2.2.2.1 bp_m2 ?_
    exact W.iret (v := (-2)) hx hb hr (fun t ht hW => ⟨⟨(-2), (0, bU, qG, uL), rfl, hp, by rw [ht]; exact hP, va_K.moved hW.alike hK, hD⟩, hS.F ht⟩) hS.2.2 aWQ.2.2.2.2.2.2.2.2.2.2.1
abbrev aU2 (cI cC cZ cB cJ : ClassId) (a_m nY sJ eG iY lY jR jW jZ jO oQ bR aY jQ gY iJ mQ lJ jA bG mK jB mW mJ eJ dG : Nat) (bT aG jC bL bY : Int32) (jD : Nat) (mLn oF rP dQ aJ aB bW bZ aR aE bI aW bU fJ dO bM bQ bO jY oX : Int32) (qG : Nat -> Int32) : va_W := [(a_m, .inr (10, [.ref nY, .int bT, .ref sJ, .ref eG, .ref iY, .ref lY, .int aG, .ref jR, .ref jW, .ref jZ, .ref jO, .int jC, .ref oQ, .int bL, .int bY, rdv jO jQ jD, .int mLn, .int oF, .int rP, .int dQ, .ref bR, .ref aY, .int aJ, .int aB, .ref jQ, .int bW, .int bZ, .int aR, .int aE, .int bI, .int aW, .ref gY, .int bU, .ref iJ, .ref mQ, .int fJ, .ref lJ, .int dO, .ref jA, .ref bG, .int bM, .int bQ, .int bO, .ref mK, .ref jB, .ref mW, .int jY, .int oX, .ref mJ, .ref eJ, .ref dG])), (nY, .inl (cI, 21, .inl qG))]
abbrev q_X10_goSleep (dC : Nat -> ClassId) (dI : Nat -> Nat -> Nat) (cI cC cZ cB cJ : ClassId) (A : Nat -> Prop) (a_m nY sJ eG iY lY jR jW jZ jO oQ bR aY jQ gY iJ mQ lJ jA bG mK jB mW mJ eJ dG : Nat) (bT aG jC bL bY : Int32) (jD : Nat) (mLn oF rP dQ aJ aB bW bZ aR aE bI aW bU fJ dO bM bQ bO jY oX : Int32) (post : Int32 -> (Nat -> Int32) -> Prop) : Array Value -> State -> Outcome -> State -> Prop := va_Qi (fun (r : Int32) (u : (Nat -> Int32)) => post r u) (fun u t => gB (dC, dI) (tyl cI cC cZ cB cJ) A (aU2 cI cC cZ cB cJ a_m nY sJ eG iY lY jR jW jZ jO oQ bR aY jQ gY iJ mQ lJ jA bG mK jB mW mJ eJ dG bT aG jC bL bY jD mLn oF rP dQ aJ aB bW bZ aR aE bI aW bU fJ dO bM bQ bO jY oX u) t) A
abbrev rm_X10_goSleep : Room := { frames := 1, cells := 0, slots := 0, locals := 22 }
def wp_X10_goSleep (post : Int32 -> (Nat -> Int32) -> Prop) (bT : Int32) (qG : Nat -> Int32) : Prop := wp_X10_empty (fun r_1 m_now_2 => ∀ v_3 : Int32, v_3 = (upd (upd m_now_2 (17 : Int32).toNatClampNeg (-1)) (20 : Int32).toNatClampNeg 0) (19 : Int32).toNatClampNeg -> ∀ v_4 : Int32, v_4 = v_3 + 1 -> ∀ v_5 : Int32, v_5 = (upd (upd (upd m_now_2 (17 : Int32).toNatClampNeg (-1)) (20 : Int32).toNatClampNeg 0) (19 : Int32).toNatClampNeg v_4) (19 : Int32).toNatClampNeg -> post v_5 (upd (upd (upd m_now_2 (17 : Int32).toNatClampNeg (-1)) (20 : Int32).toNatClampNeg 0) (19 : Int32).toNatClampNeg v_4)) bT qG
set_option maxHeartbeats 4000000 in
set_option maxRecDepth 100000 in
theorem c_X10_goSleep (l : Launch) (dC : Nat -> ClassId) (dI : Nat -> Nat -> Nat) (cI cC cZ cB cJ : ClassId) (a_m nY sJ eG iY lY jR jW jZ jO oQ bR aY jQ gY iJ mQ lJ jA bG mK jB mW mJ eJ dG sz : Nat) (bT aG jC bL bY : Int32) (jD : Nat) (mLn oF rP dQ aJ aB bW bZ aR aE bI aW bU fJ dO bM bQ bO jY oX : Int32) (qG : Nat -> Int32) (post : Int32 -> (Nat -> Int32) -> Prop) (hw : wp_X10_goSleep post bT qG) : Met l yX10_goSleep (gw yX10_goSleep aIn 1 (some .int)) rm_X10_goSleep (va_Pc [.ref a_m] (gPre (dC, dI) (tyl cI cC cZ cB cJ) (aU2 cI cC cZ cB cJ a_m nY sJ eG iY lY jR jW jZ jO oQ bR aY jQ gY iJ mQ lJ jA bG mK jB mW mJ eJ dG bT aG jC bL bY jD mLn oF rP dQ aJ aB bW bZ aR aE bI aW bU fJ dO bM bQ bO jY oX qG) sz)) (q_X10_goSleep dC dI cI cC cZ cB cJ (va_A (aU2 cI cC cZ cB cJ a_m nY sJ eG iY lY jR jW jZ jO oQ bR aY jQ gY iJ mQ lJ jA bG mK jB mW mJ eJ dG bT aG jC bL bY jD mLn oF rP dQ aJ aB bW bZ aR aE bI aW bU fJ dO bM bQ bO jY oX qG) sz) a_m nY sJ eG iY lY jR jW jZ jO oQ bR aY jQ gY iJ mQ lJ jA bG mK jB mW mJ eJ dG bT aG jC bL bY jD mLn oF rP dQ aJ aB bW bZ aR aE bI aW bU fJ dO bM bQ bO jY oX post) 0 0 (va_A (aU2 cI cC cZ cB cJ a_m nY sJ eG iY lY jR jW jZ jO oQ bR aY jQ gY iJ mQ lJ jA bG mK jB mW mJ eJ dG bT aG jC bL bY jD mLn oF rP dQ aJ aB bW bZ aR aE bI aW bU fJ dO bM bQ bO jY oX qG) sz) := by
  refine aBJ (own := zX) (dC, dI) (tyl cI cC cZ cB cJ) (aU2 cI cC cZ cB cJ a_m nY sJ eG iY lY jR jW jZ jO oQ bR aY jQ gY iJ mQ lJ jA bG mK jB mW mJ eJ dG bT aG jC bL bY jD mLn oF rP dQ aJ aB bW bZ aR aE bI aW bU fJ dO bM bQ bO jY oX qG) sz [.ref a_m] (fun A => q_X10_goSleep dC dI cI cC cZ cB cJ A a_m nY sJ eG iY lY jR jW jZ jO oQ bR aY jQ gY iJ mQ lJ jA bG mK jB mW mJ eJ dG bT aG jC bL bY jD mLn oF rP dQ aJ aB bW bZ aR aE bI aW bU fJ dO bM bQ bO jY oX post) aFY rfl (lbz rfl) ?_
  intro p e s m args below meth c A H locs ls C0 hP hD hS hl
  have hl : lv_has ls 1 [(0, .ref a_m)] := hl
  obtain ⟨hx, hb, hr, hml, hown, hts, hlocks, hA, hK, hN, tL, tM, hZL, hTL, hZM, hTM, hZX⟩ := id C0
  have hp := hw
  unfold wp_X10_goSleep at hp
  refine lv_aload_n hx hb aP8.1 rfl (lv_at hl 0 rfl) ?_
  refine yW (wc := (aO8 cI cC cZ cB cJ a_m nY sJ eG iY lY jR jW jZ jO oQ bR aY jQ gY iJ mQ lJ jA bG mK jB mW mJ eJ dG bT aG jC bL bY jD mLn oF rP dQ aJ aB bW bZ aR aE bI aW bU fJ dO bM bQ bO jY oX qG)) hP hD hS hA [0, 1] [] rfl rfl rfl rfl (zF (As := []) (rest := []) C0 hP hD hS [0, 1] rfl rfl 0 10 rfl rfl (c_X10_empty l dC dI cI cC cZ cB cJ a_m nY sJ eG iY lY jR jW jZ jO oQ bR aY jQ gY iJ mQ lJ jA bG mK jB mW mJ eJ dG H.size bT aG jC bL bY jD mLn oF rP dQ aJ aB bW bZ aR aE bI aW bU fJ dO bM bQ bO jY oX qG _ hp) q_775 q_778 q_776 q_777 aBL h_X10_empty rfl rfl ⟨lbz rfl, lbz rfl⟩ rfl rfl hl.1 rfl (lv_room (lbz rfl)) aP8.2.1 ⟨Nat.zero_le _, Nat.zero_le _⟩) (fun r_1 u H locs hp hP hD hS => ?_)
  obtain ⟨m_now_2, rfl⟩ : ∃ z, z = u := ⟨_, rfl⟩
  have hPD := PDs (ws' := (aU2 cI cC cZ cB cJ a_m nY sJ eG iY lY jR jW jZ jO oQ bR aY jQ gY iJ mQ lJ jA bG mK jB mW mJ eJ dG bT aG jC bL bY jD mLn oF rP dQ aJ aB bW bZ aR aE bI aW bU fJ dO bM bQ bO jY oX m_now_2)) hP hD [0, 1] (by decide) rfl
  have hP := hPD.1
  have hD := hPD.2
  refine lv_pop hx hb aP8.2.2.1 rfl ?_
  refine lv_aload_n hx hb aP8.2.2.2.1 rfl (lv_at hl 0 rfl) ?_
  refine va_get (D := (dC, dI)) (ci := 10) (v := .ref nY) (C := zX) (T := aBe) (N := 51) hx hb hts aAt hown hK hP 0 rfl rfl 0 (lbz rfl) (hts _ aHO) (fun _ h9 => h9) rfl aP8.2.2.2.2.1 ?_
  refine lv_bipush (v := 17) hx hb aP8.2.2.2.2.2.1 bp_17 ?_
  refine lv_iconst (v := (-1)) hx hb aP8.2.2.2.2.2.2.1 aEJ ?_
  refine va_iast hx hb hK hP hD hS 1 0 rfl rfl (g_in rfl) aP8.2.2.2.2.2.2.2.1 (fun H locs hP hD hS => ?_)
  have hPD := PDw (ws' := (aU2 cI cC cZ cB cJ a_m nY sJ eG iY lY jR jW jZ jO oQ bR aY jQ gY iJ mQ lJ jA bG mK jB mW mJ eJ dG bT aG jC bL bY jD mLn oF rP dQ aJ aB bW bZ aR aE bI aW bU fJ dO bM bQ bO jY oX (upd m_now_2 (17 : Int32).toNatClampNeg (-1)))) hP hD rfl
  have hP := hPD.1
  have hD := hPD.2
  refine lv_aload_n hx hb aP8.2.2.2.2.2.2.2.2.1 rfl (lv_at hl 0 rfl) ?_
  refine va_get (D := (dC, dI)) (ci := 10) (v := .ref nY) (C := zX) (T := aBe) (N := 51) hx hb hts aAt hown hK hP 0 rfl rfl 0 (lbz rfl) (hts _ aHO) (fun _ h9 => h9) rfl aP8.2.2.2.2.2.2.2.2.2.1 ?_
  refine lv_bipush (v := 20) hx hb aP8.2.2.2.2.2.2.2.2.2.2.1 bp_20 ?_
  refine lv_iconst (v := 0) hx hb aP8.2.2.2.2.2.2.2.2.2.2.2.1 aCi ?_
  refine va_iast hx hb hK hP hD hS 1 0 rfl rfl (g_in rfl) aP8.2.2.2.2.2.2.2.2.2.2.2.2.1 (fun H locs hP hD hS => ?_)
  have hPD := PDw (ws' := (aU2 cI cC cZ cB cJ a_m nY sJ eG iY lY jR jW jZ jO oQ bR aY jQ gY iJ mQ lJ jA bG mK jB mW mJ eJ dG bT aG jC bL bY jD mLn oF rP dQ aJ aB bW bZ aR aE bI aW bU fJ dO bM bQ bO jY oX (upd (upd m_now_2 (17 : Int32).toNatClampNeg (-1)) (20 : Int32).toNatClampNeg 0))) hP hD rfl
  have hP := hPD.1
  have hD := hPD.2
  refine lv_aload_n hx hb aP8.2.2.2.2.2.2.2.2.2.2.2.2.2.1 rfl (lv_at hl 0 rfl) ?_
  refine va_get (D := (dC, dI)) (ci := 10) (v := .ref nY) (C := zX) (T := aBe) (N := 51) hx hb hts aAt hown hK hP 0 rfl rfl 0 (lbz rfl) (hts _ aHO) (fun _ h9 => h9) rfl aP8.2.2.2.2.2.2.2.2.2.2.2.2.2.2.1 ?_
  refine lv_bipush (v := 19) hx hb aP8.2.2.2.2.2.2.2.2.2.2.2.2.2.2.2 bp_19 ?_
  refine lv_dup2_11 hx hb bB8.1 rfl rfl ?_
  refine va_iald hx hb hK hP 1 0 rfl rfl (g_in rfl) bB8.2.1 ?_
  refine lv_topi (fun v_3 aGW => ?_)
  have hp := hp v_3 aGW
  refine lv_iconst (v := 1) hx hb bB8.2.2.1 aDx ?_
  refine lv_iadd hx hb bB8.2.2.2.1 ?_
  refine lv_topi (fun v_4 aHM => ?_)
  have hp := hp v_4 aHM
  refine va_iast hx hb hK hP hD hS 1 0 rfl rfl (g_in rfl) bB8.2.2.2.2.1 (fun H locs hP hD hS => ?_)
  have hPD := PDw (ws' := (aU2 cI cC cZ cB cJ a_m nY sJ eG iY lY jR jW jZ jO oQ bR aY jQ gY iJ mQ lJ jA bG mK jB mW mJ eJ dG bT aG jC bL bY jD mLn oF rP dQ aJ aB bW bZ aR aE bI aW bU fJ dO bM bQ bO jY oX (upd (upd (upd m_now_2 (17 : Int32).toNatClampNeg (-1)) (20 : Int32).toNatClampNeg 0) (19 : Int32).toNatClampNeg v_4))) hP hD rfl
  have hP := hPD.1
  have hD := hPD.2
  refine lv_aload_n hx hb bB8.2.2.2.2.2.1 rfl (lv_at hl 0 rfl) ?_
  refine va_get (D := (dC, dI)) (ci := 10) (v := .ref nY) (C := zX) (T := aBe) (N := 51) hx hb hts aAt hown hK hP 0 rfl rfl 0 (lbz rfl) (hts _ aHO) (fun _ h9 => h9) rfl bB8.2.2.2.2.2.2.1 ?_
  refine lv_bipush (v := 19) hx hb bB8.2.2.2.2.2.2.2.1 bp_19 ?_
  refine va_iald hx hb hK hP 1 0 rfl rfl (g_in rfl) bB8.2.2.2.2.2.2.2.2.1 ?_
  refine lv_topi (fun v_5 aJD => ?_)
  have hp := hp v_5 aJD
  exact W.iret (v := v_5) hx hb hr (fun t ht hW => ⟨⟨v_5, (upd (upd (upd m_now_2 (17 : Int32).toNatClampNeg (-1)) (20 : Int32).toNatClampNeg 0) (19 : Int32).toNatClampNeg v_4), rfl, hp, by rw [ht]; exact hP, va_K.moved hW.alike hK, hD⟩, hS.F ht⟩) hS.2.2 bB8.2.2.2.2.2.2.2.2.2
abbrev wd_X10_sleep (cI cC cZ cB cJ : ClassId) (a_m nY sJ eG iY lY jR jW jZ jO oQ bR aY jQ gY iJ mQ lJ jA bG mK jB mW mJ eJ dG : Nat) (bT aG jC bL bY : Int32) (jD : Nat) (mLn oF rP dQ aJ aB bW bZ aR aE bI aW bU fJ dO bM bQ bO jY oX : Int32) (qG uL : Nat -> Int32) : va_W := [(a_m, .inr (10, [.ref nY, .int bT, .ref sJ, .ref eG, .ref iY, .ref lY, .int aG, .ref jR, .ref jW, .ref jZ, .ref jO, .int jC, .ref oQ, .int bL, .int bY, rdv jO jQ jD, .int mLn, .int oF, .int rP, .int dQ, .ref bR, .ref aY, .int aJ, .int aB, .ref jQ, .int bW, .int bZ, .int aR, .int aE, .int bI, .int aW, .ref gY, .int bU, .ref iJ, .ref mQ, .int fJ, .ref lJ, .int dO, .ref jA, .ref bG, .int bM, .int bQ, .int bO, .ref mK, .ref jB, .ref mW, .int jY, .int oX, .ref mJ, .ref eJ, .ref dG])), (nY, .inl (cI, 21, .inl qG)), (gY, .inl (cI, 252, .inl uL))]
abbrev q_X10_sleep (dC : Nat -> ClassId) (dI : Nat -> Nat -> Nat) (cI cC cZ cB cJ : ClassId) (A : Nat -> Prop) (a_m nY sJ eG iY lY jR jW jZ jO oQ bR aY jQ gY iJ mQ lJ jA bG mK jB mW mJ eJ dG : Nat) (bT aG jC bL : Int32) (jD : Nat) (mLn oF rP dQ aJ aB bW bZ aR aE bI aW fJ dO bM bQ bO jY oX : Int32) (post : Int32 -> Int32 -> Int32 -> (Nat -> Int32) -> (Nat -> Int32) -> Prop) : Array Value -> State -> Outcome -> State -> Prop := va_Qi (fun (r : Int32) (u : Int32 × Int32 × (Nat -> Int32) × (Nat -> Int32)) => post r u.1 u.2.1 u.2.2.1 u.2.2.2) (fun u t => gB (dC, dI) (tyl cI cC cZ cB cJ) A (wd_X10_sleep cI cC cZ cB cJ a_m nY sJ eG iY lY jR jW jZ jO oQ bR aY jQ gY iJ mQ lJ jA bG mK jB mW mJ eJ dG bT aG jC bL u.1 jD mLn oF rP dQ aJ aB bW bZ aR aE bI aW u.2.1 fJ dO bM bQ bO jY oX u.2.2.1 u.2.2.2) t) A
abbrev rm_X10_sleep : Room := { frames := 2, cells := 0, slots := 0, locals := 45 }
def wp_X10_sleep (post : Int32 -> Int32 -> Int32 -> (Nat -> Int32) -> (Nat -> Int32) -> Prop) (bT bY bU : Int32) (qG uL : Nat -> Int32) : Prop := ∀ v_1 : Int32, v_1 = qG (19 : Int32).toNatClampNeg -> (¬ v_1 = 9 -> aUa (fun aEX aJk => wp_X10_goSleep (fun r_4 aX3 => post r_4 0 aEX aX3 aJk) bT qG) bU qG uL) /\ (v_1 = 9 -> post (-1) 0 bU qG uL)
set_option maxHeartbeats 4000000 in
set_option maxRecDepth 100000 in
theorem c_X10_sleep (l : Launch) (dC : Nat -> ClassId) (dI : Nat -> Nat -> Nat) (cI cC cZ cB cJ : ClassId) (a_m nY sJ eG iY lY jR jW jZ jO oQ bR aY jQ gY iJ mQ lJ jA bG mK jB mW mJ eJ dG sz : Nat) (bT aG jC bL bY : Int32) (jD : Nat) (mLn oF rP dQ aJ aB bW bZ aR aE bI aW bU fJ dO bM bQ bO jY oX : Int32) (qG uL : Nat -> Int32) (post : Int32 -> Int32 -> Int32 -> (Nat -> Int32) -> (Nat -> Int32) -> Prop) (hw : wp_X10_sleep post bT bY bU qG uL) : Met l yX10_sleep (gw yX10_sleep aXT 1 (some .int)) rm_X10_sleep (va_Pc [.ref a_m] (gPre (dC, dI) (tyl cI cC cZ cB cJ) (wd_X10_sleep cI cC cZ cB cJ a_m nY sJ eG iY lY jR jW jZ jO oQ bR aY jQ gY iJ mQ lJ jA bG mK jB mW mJ eJ dG bT aG jC bL bY jD mLn oF rP dQ aJ aB bW bZ aR aE bI aW bU fJ dO bM bQ bO jY oX qG uL) sz)) (q_X10_sleep dC dI cI cC cZ cB cJ (va_A (wd_X10_sleep cI cC cZ cB cJ a_m nY sJ eG iY lY jR jW jZ jO oQ bR aY jQ gY iJ mQ lJ jA bG mK jB mW mJ eJ dG bT aG jC bL bY jD mLn oF rP dQ aJ aB bW bZ aR aE bI aW bU fJ dO bM bQ bO jY oX qG uL) sz) a_m nY sJ eG iY lY jR jW jZ jO oQ bR aY jQ gY iJ mQ lJ jA bG mK jB mW mJ eJ dG bT aG jC bL jD mLn oF rP dQ aJ aB bW bZ aR aE bI aW fJ dO bM bQ bO jY oX post) 0 0 (va_A (wd_X10_sleep cI cC cZ cB cJ a_m nY sJ eG iY lY jR jW jZ jO oQ bR aY jQ gY iJ mQ lJ jA bG mK jB mW mJ eJ dG bT aG jC bL bY jD mLn oF rP dQ aJ aB bW bZ aR aE bI aW bU fJ dO bM bQ bO jY oX qG uL) sz) := by
  refine aBJ (own := zX) (dC, dI) (tyl cI cC cZ cB cJ) (wd_X10_sleep cI cC cZ cB cJ a_m nY sJ eG iY lY jR jW jZ jO oQ bR aY jQ gY iJ mQ lJ jA bG mK jB mW mJ eJ dG bT aG jC bL bY jD mLn oF rP dQ aJ aB bW bZ aR aE bI aW bU fJ dO bM bQ bO jY oX qG uL) sz [.ref a_m] (fun A => q_X10_sleep dC dI cI cC cZ cB cJ A a_m nY sJ eG iY lY jR jW jZ jO oQ bR aY jQ gY iJ mQ lJ jA bG mK jB mW mJ eJ dG bT aG jC bL jD mLn oF rP dQ aJ aB bW bZ aR aE bI aW fJ dO bM bQ bO jY oX post) aFY rfl (lbz rfl) ?_
  intro p e s m args below meth c A H locs ls C0 hP hD hS hl
  have hl : lv_has ls 1 [(0, .ref a_m)] := hl
  obtain ⟨hx, hb, hr, hml, hown, hts, hlocks, hA, hK, hN, tL, tM, hZL, hTL, hZM, hTM, hZX⟩ := id C0
  have hp := hw
  unfold wp_X10_sleep at hp
  refine lv_aload_n hx hb aWV.1 rfl (lv_at hl 0 rfl) ?_
  refine lv_iconst (v := 0) hx hb aWV.2.1 aCi ?_
  refine va_put (D := (dC, dI)) (ci := 10) (v := .int 0) (ty := .int) (C := zX) (T := aBe) (N := 51) hx hb hts aAt aD2 aAa aEC hown hK hP hD hS 0 rfl rfl 14 (lbz rfl) (hts _ q_638) (fun _ h9 => h9) rfl (aAa 14 (lbz rfl)) rfl rfl (lbz rfl) aWV.2.2.1 (fun H locs hP hD hS => ?_)
  have hPD := PDw (ws' := (wd_X10_sleep cI cC cZ cB cJ a_m nY sJ eG iY lY jR jW jZ jO oQ bR aY jQ gY iJ mQ lJ jA bG mK jB mW mJ eJ dG bT aG jC bL 0 jD mLn oF rP dQ aJ aB bW bZ aR aE bI aW bU fJ dO bM bQ bO jY oX qG uL)) hP hD rfl
  have hP := hPD.1
  have hD := hPD.2
  refine lv_aload_n hx hb aWV.2.2.2.1 rfl (lv_at hl 0 rfl) ?_
  refine va_get (D := (dC, dI)) (ci := 10) (v := .ref nY) (C := zX) (T := aBe) (N := 51) hx hb hts aAt hown hK hP 0 rfl rfl 0 (lbz rfl) (hts _ aHO) (fun _ h9 => h9) rfl aWV.2.2.2.2.1 ?_
  refine lv_bipush (v := 19) hx hb aWV.2.2.2.2.2.1 bp_19 ?_
  refine va_iald hx hb hK hP 1 0 rfl rfl (g_in rfl) aWV.2.2.2.2.2.2.1 ?_
  refine lv_topi (fun v_1 aFJ => ?_)
  have hp := hp v_1 aFJ
  refine lv_bipush (v := 9) hx hb aWV.2.2.2.2.2.2.2.1 bp_9 ?_
  refine lv_icmp_ne (tgt := 19) hx hb aWV.2.2.2.2.2.2.2.2.1 (by decide) (fun hc => ?_) (fun hc => ?_)
  · have hp := hp.1 hc
    refine lv_aload_n hx hb aWV.2.2.2.2.2.2.2.2.2.2.2.1 rfl (lv_at hl 0 rfl) ?_
    refine lv_aload_n hx hb aWV.2.2.2.2.2.2.2.2.2.2.2.2.1 rfl (lv_at hl 0 rfl) ?_
    refine va_get (D := (dC, dI)) (ci := 10) (v := .ref nY) (C := zX) (T := aBe) (N := 51) hx hb hts aAt hown hK hP 0 rfl rfl 0 (lbz rfl) (hts _ aHO) (fun _ h9 => h9) rfl aWV.2.2.2.2.2.2.2.2.2.2.2.2.2.1 ?_
    have hm := mgk (wc := (aGw cI cC cZ cB cJ a_m nY sJ eG iY lY jR jW jZ jO oQ bR aY jQ gY iJ mQ lJ jA bG mK jB mW mJ eJ dG bT aG jC bL 0 jD mLn oF rP dQ aJ aB bW bZ aR aE bI aW bU fJ dO bM bQ bO jY oX qG uL)) hP mk_85 3 rfl rfl rfl
    refine aBn hP hD hS hA (yS mk_85) (aAi mk_85) hm.1 hm.2 (aAk _) (zW _) (zF (As := [.ref nY]) (rest := []) C0 hP hD hS (yS mk_85) hm.1 (aAl _) 0 10 rfl rfl (c_X10_remember l dC dI cI cC cZ cB cJ a_m nY sJ eG iY lY jR jW jZ jO oQ bR aY jQ gY iJ mQ lJ jA bG mK jB mW mJ eJ dG H.size bT aG jC bL 0 jD mLn oF rP dQ aJ aB bW bZ aR aE bI aW bU fJ dO bM bQ bO jY oX qG uL _ hp) q_787 q_790 q_788 q_789 aBL h_X10_remember rfl rfl ⟨lbz rfl, lbz rfl⟩ rfl rfl hl.1 rfl (lv_room (lbz rfl)) aWV.2.2.2.2.2.2.2.2.2.2.2.2.2.2.1 ⟨Nat.zero_le _, Nat.zero_le _⟩) (fun u H locs hp hP hD hS => ?_)
    obtain ⟨aEX, aJk⟩ := u
    have hPD := PDm (ws' := (wd_X10_sleep cI cC cZ cB cJ a_m nY sJ eG iY lY jR jW jZ jO oQ bR aY jQ gY iJ mQ lJ jA bG mK jB mW mJ eJ dG bT aG jC bL 0 jD mLn oF rP dQ aJ aB bW bZ aR aE bI aW aEX fJ dO bM bQ bO jY oX qG aJk)) hP hD 3 rfl rfl rfl
    have hP := hPD.1
    have hD := hPD.2
    refine lv_aload_n hx hb aWV.2.2.2.2.2.2.2.2.2.2.2.2.2.2.2 rfl (lv_at hl 0 rfl) ?_
    have hm := mgk (wc := (aU2 cI cC cZ cB cJ a_m nY sJ eG iY lY jR jW jZ jO oQ bR aY jQ gY iJ mQ lJ jA bG mK jB mW mJ eJ dG bT aG jC bL 0 jD mLn oF rP dQ aJ aB bW bZ aR aE bI aW aEX fJ dO bM bQ bO jY oX qG)) hP mk_137 3 rfl rfl rfl
    refine yW hP hD hS hA (yS mk_137) (aAi mk_137) hm.1 hm.2 (aAk _) (zW _) (zF (As := []) (rest := []) C0 hP hD hS (yS mk_137) hm.1 (aAl _) 0 10 rfl rfl (c_X10_goSleep l dC dI cI cC cZ cB cJ a_m nY sJ eG iY lY jR jW jZ jO oQ bR aY jQ gY iJ mQ lJ jA bG mK jB mW mJ eJ dG H.size bT aG jC bL 0 jD mLn oF rP dQ aJ aB bW bZ aR aE bI aW aEX fJ dO bM bQ bO jY oX qG _ hp) q_840 q_843 q_841 q_842 aBL h_X10_goSleep rfl rfl ⟨lbz rfl, lbz rfl⟩ rfl rfl hl.1 rfl (lv_room (lbz rfl)) eX10_sleep_28.1 ⟨Nat.zero_le _, Nat.zero_le _⟩) (fun r_4 u H locs hp hP hD hS => ?_)
    obtain ⟨aX3, rfl⟩ : ∃ z, z = u := ⟨_, rfl⟩
    have hPD := PDm (ws' := (wd_X10_sleep cI cC cZ cB cJ a_m nY sJ eG iY lY jR jW jZ jO oQ bR aY jQ gY iJ mQ lJ jA bG mK jB mW mJ eJ dG bT aG jC bL 0 jD mLn oF rP dQ aJ aB bW bZ aR aE bI aW aEX fJ dO bM bQ bO jY oX aX3 aJk)) hP hD 3 rfl rfl rfl
    have hP := hPD.1
    have hD := hPD.2
    exact W.iret (v := r_4) hx hb hr (fun t ht hW => ⟨⟨r_4, (0, aEX, aX3, aJk), rfl, hp, by rw [ht]; exact hP, va_K.moved hW.alike hK, hD⟩, hS.F ht⟩) hS.2.2 eX10_sleep_28.2
  · have hp := hp.2 hc
    refine lv_iconst (v := (-1)) hx hb aWV.2.2.2.2.2.2.2.2.2.1 aEJ ?_
    exact W.iret (v := (-1)) hx hb hr (fun t ht hW => ⟨⟨(-1), (0, bU, qG, uL), rfl, hp, by rw [ht]; exact hP, va_K.moved hW.alike hK, hD⟩, hS.F ht⟩) hS.2.2 aWV.2.2.2.2.2.2.2.2.2.2.1
abbrev aIb (cI cC cZ cB cJ : ClassId) (a_m nY sJ eG iY lY jR jW jZ jO oQ bR aY jQ gY iJ mQ lJ jA bG mK jB mW mJ eJ dG : Nat) (bT aG jC bL bY : Int32) (jD : Nat) (mLn oF rP dQ aJ aB bW bZ aR aE bI aW bU fJ dO bM bQ bO jY oX : Int32) (qO qQ wJ : Nat -> Int32) : va_W := [(a_m, .inr (10, [.ref nY, .int bT, .ref sJ, .ref eG, .ref iY, .ref lY, .int aG, .ref jR, .ref jW, .ref jZ, .ref jO, .int jC, .ref oQ, .int bL, .int bY, rdv jO jQ jD, .int mLn, .int oF, .int rP, .int dQ, .ref bR, .ref aY, .int aJ, .int aB, .ref jQ, .int bW, .int bZ, .int aR, .int aE, .int bI, .int aW, .ref gY, .int bU, .ref iJ, .ref mQ, .int fJ, .ref lJ, .int dO, .ref jA, .ref bG, .int bM, .int bQ, .int bO, .ref mK, .ref jB, .ref mW, .int jY, .int oX, .ref mJ, .ref eJ, .ref dG])), (jO, .inl (cB, 80, .inl qO)), (jQ, .inl (cB, 40, .inl qQ)), (mQ, .inl (cI, 160, .inl wJ))]
abbrev q_X10_readAct (dC : Nat -> ClassId) (dI : Nat -> Nat -> Nat) (cI cC cZ cB cJ : ClassId) (A : Nat -> Prop) (a_m nY sJ eG iY lY jR jW jZ jO oQ bR aY jQ gY iJ mQ lJ jA bG mK jB mW mJ eJ dG : Nat) (bT aG jC bL bY : Int32) (jD : Nat) (mLn oF aJ aB bW bZ aR aE bI aW bU fJ dO bM bQ bO jY oX : Int32) (qO qQ : Nat -> Int32) (post : Int32 -> Int32 -> (Nat -> Int32) -> Prop) : Array Value -> State -> Outcome -> State -> Prop := va_Qv (fun (u : Int32 × Int32 × (Nat -> Int32)) => post u.1 u.2.1 u.2.2) (fun u t => gB (dC, dI) (tyl cI cC cZ cB cJ) A (aIb cI cC cZ cB cJ a_m nY sJ eG iY lY jR jW jZ jO oQ bR aY jQ gY iJ mQ lJ jA bG mK jB mW mJ eJ dG bT aG jC bL bY jD mLn oF u.1 u.2.1 aJ aB bW bZ aR aE bI aW bU fJ dO bM bQ bO jY oX qO qQ u.2.2) t) A
abbrev rm_X10_readAct : Room := { frames := 3, cells := 0, slots := 0, locals := 64 }
section S_X10_readAct
variable {p : Program} {l : Launch} {e : Env} {s : State} {m : MethodId} {args : Array Value} {below : List Frame} {meth : Method} {c : Code} {dC : Nat -> ClassId} {dI : Nat -> Nat -> Nat} {cI cC cZ cB cJ : ClassId} {A : Nat -> Prop} {a_m nY sJ eG iY lY jR jW jZ jO oQ bR aY jQ gY iJ mQ lJ jA bG mK jB mW mJ eJ dG : Nat} {bT aG jC bL bY : Int32} {jD : Nat} {mLn oF aJ aB bW bZ aR aE bI aW bU fJ dO bM bQ bO jY oX : Int32} {qO qQ : Nat -> Int32} {post : Int32 -> Int32 -> (Nat -> Int32) -> Prop}
def aEP (post : Int32 -> Int32 -> (Nat -> Int32) -> Prop) (jD : Nat) (mLn oF : Int32) (qO qQ : Nat -> Int32) (x1 rP dQ : Int32) (wJ : Nat -> Int32) : Prop := ∀ v_3 : Int32, v_3 = x1 + 1 -> aOj (fun r_4 m_at_5 m_wrong_6 => vp_in v_3 160 /\ (post m_at_5 m_wrong_6 (upd wJ v_3.toNatClampNeg r_4))) 2 jD mLn oF rP dQ qO qQ
set_option maxHeartbeats 4000000 in
set_option maxRecDepth 100000 in
theorem ks_X10_readAct_109 (C0 : gc aCY none 3 zX (dC, dI) (tyl cI cC cZ cB cJ) A p s m args meth c) : ∀ (x1 rP dQ : Int32) (wJ : Nat -> Int32) (H : Heap) (locs : List Loc) (ls : Array Slot), (aEP post jD mLn oF qO qQ) x1 rP dQ wJ -> va_P (dC, dI) classes (aIb cI cC cZ cB cJ a_m nY sJ eG iY lY jR jW jZ jO oQ bR aY jQ gY iJ mQ lJ jA bG mK jB mW mJ eJ dG bT aG jC bL bY jD mLn oF rP dQ aJ aB bW bZ aR aE bI aW bU fJ dO bM bQ bO jY oX qO qQ wJ) H -> va_D A (aIb cI cC cZ cB cJ a_m nY sJ eG iY lY jR jW jZ jO oQ bR aY jQ gY iJ mQ lJ jA bG mK jB mW mJ eJ dG bT aG jC bL bY jD mLn oF rP dQ aJ aB bW bZ aR aE bI aW bU fJ dO bM bQ bO jY oX qO qQ wJ) -> va_S A s.heap H locs -> lv_has ls 3 [(0, .ref a_m), (1, .int x1)] -> W p l e rm_X10_readAct s m args below meth c H locs 0 0 (MQ below (q_X10_readAct dC dI cI cC cZ cB cJ A a_m nY sJ eG iY lY jR jW jZ jO oQ bR aY jQ gY iJ mQ lJ jA bG mK jB mW mJ eJ dG bT aG jC bL bY jD mLn oF aJ aB bW bZ aR aE bI aW bU fJ dO bM bQ bO jY oX qO qQ post) args s 0 0 A) (F0 m 109 ls []) := by
  obtain ⟨hx, hb, hr, hml, hown, hts, hlocks, hA, hK, hN, tL, tM, hZL, hTL, hZM, hTM, hZX⟩ := id C0
  intro x1 rP dQ wJ H locs ls hp hP hD hS hl
  unfold aEP at hp
  refine lv_aload_n hx hb aNz.2.2.2.2.2.2.2.2.2.2.2.2.1 rfl (lv_at hl 0 rfl) ?_
  refine va_get (D := (dC, dI)) (ci := 10) (v := .ref mQ) (C := zX) (T := aBe) (N := 51) hx hb hts aAt hown hK hP 0 rfl rfl 34 (lbz rfl) (hts _ q_844) (fun _ h9 => h9) rfl aNz.2.2.2.2.2.2.2.2.2.2.2.2.2.1 ?_
  refine lv_iload_n hx hb aNz.2.2.2.2.2.2.2.2.2.2.2.2.2.2.1 rfl (lv_at hl 1 rfl) ?_
  refine lv_iconst (v := 1) hx hb aNz.2.2.2.2.2.2.2.2.2.2.2.2.2.2.2 aDx ?_
  refine lv_iadd hx hb eX10_readAct_115.1 ?_
  refine lv_topi (fun v_3 aGW => ?_)
  have hp := hp v_3 aGW
  refine lv_aload_n hx hb eX10_readAct_115.2.1 rfl (lv_at hl 0 rfl) ?_
  refine lv_iconst (v := 2) hx hb eX10_readAct_115.2.2.1 ic_2 ?_
  have hm := mgk (wc := (aG9 cI cC cZ cB cJ a_m nY sJ eG iY lY jR jW jZ jO oQ bR aY jQ gY iJ mQ lJ jA bG mK jB mW mJ eJ dG bT aG jC bL bY jD mLn oF rP dQ aJ aB bW bZ aR aE bI aW bU fJ dO bM bQ bO jY oX qO qQ)) hP mk_221 4 rfl rfl rfl
  refine yW hP hD hS hA (yS mk_221) (aAi mk_221) hm.1 hm.2 (aAk _) (zW _) (zF (As := [.int 2]) (rest := [.int v_3, .ref mQ]) C0 hP hD hS (yS mk_221) hm.1 (aAl _) 0 10 rfl rfl (c_X10_number l dC dI cI cC cZ cB cJ a_m nY sJ eG iY lY jR jW jZ jO oQ bR aY jQ gY iJ mQ lJ jA bG mK jB mW mJ eJ dG H.size 2 bT aG jC bL bY jD mLn oF rP dQ aJ aB bW bZ aR aE bI aW bU fJ dO bM bQ bO jY oX qO qQ _ hp) q_669 q_672 q_670 q_671 aBL h_X10_number rfl rfl ⟨lbz rfl, lbz rfl⟩ rfl rfl hl.1 rfl (lv_room (lbz rfl)) eX10_readAct_115.2.2.2.1 ⟨Nat.zero_le _, Nat.zero_le _⟩) (fun r_4 u H locs hp hP hD hS => ?_)
  obtain ⟨m_at_5, m_wrong_6⟩ := u
  have hPD := PDm (ws' := (aIb cI cC cZ cB cJ a_m nY sJ eG iY lY jR jW jZ jO oQ bR aY jQ gY iJ mQ lJ jA bG mK jB mW mJ eJ dG bT aG jC bL bY jD mLn oF m_at_5 m_wrong_6 aJ aB bW bZ aR aE bI aW bU fJ dO bM bQ bO jY oX qO qQ wJ)) hP hD 4 rfl rfl rfl
  have hP := hPD.1
  have hD := hPD.2
  have hin := hp.1
  have hp := hp.2
  refine va_iast hx hb hK hP hD hS 3 0 rfl rfl hin eX10_readAct_115.2.2.2.2.1 (fun H locs hP hD hS => ?_)
  have hPD := PDw (ws' := (aIb cI cC cZ cB cJ a_m nY sJ eG iY lY jR jW jZ jO oQ bR aY jQ gY iJ mQ lJ jA bG mK jB mW mJ eJ dG bT aG jC bL bY jD mLn oF m_at_5 m_wrong_6 aJ aB bW bZ aR aE bI aW bU fJ dO bM bQ bO jY oX qO qQ (upd wJ v_3.toNatClampNeg r_4))) hP hD rfl
  have hP := hPD.1
  have hD := hPD.2
  exact W.vret hx hb hr (fun t ht hW => ⟨⟨(m_at_5, m_wrong_6, (upd wJ v_3.toNatClampNeg r_4)), rfl, hp, by rw [ht]; exact hP, va_K.moved hW.alike hK, hD⟩, hS.F ht⟩) hS.2.2 eX10_readAct_115.2.2.2.2.2
def aJ6 (post : Int32 -> Int32 -> (Nat -> Int32) -> Prop) (jD : Nat) (mLn oF : Int32) (qO qQ : Nat -> Int32) (x1 x2 rP dQ : Int32) (wJ : Nat -> Int32) : Prop := (x2 = 112 -> aEP post jD mLn oF qO qQ x1 rP dQ wJ) /\ (¬ x2 = 112 -> (¬ x2 = 104 -> post rP dQ wJ) /\ (x2 = 104 -> aEP post jD mLn oF qO qQ x1 rP dQ wJ))
set_option maxHeartbeats 4000000 in
set_option maxRecDepth 100000 in
theorem ks_X10_readAct_97 (C0 : gc aCY none 3 zX (dC, dI) (tyl cI cC cZ cB cJ) A p s m args meth c) : ∀ (x1 x2 rP dQ : Int32) (wJ : Nat -> Int32) (H : Heap) (locs : List Loc) (ls : Array Slot), (aJ6 post jD mLn oF qO qQ) x1 x2 rP dQ wJ -> va_P (dC, dI) classes (aIb cI cC cZ cB cJ a_m nY sJ eG iY lY jR jW jZ jO oQ bR aY jQ gY iJ mQ lJ jA bG mK jB mW mJ eJ dG bT aG jC bL bY jD mLn oF rP dQ aJ aB bW bZ aR aE bI aW bU fJ dO bM bQ bO jY oX qO qQ wJ) H -> va_D A (aIb cI cC cZ cB cJ a_m nY sJ eG iY lY jR jW jZ jO oQ bR aY jQ gY iJ mQ lJ jA bG mK jB mW mJ eJ dG bT aG jC bL bY jD mLn oF rP dQ aJ aB bW bZ aR aE bI aW bU fJ dO bM bQ bO jY oX qO qQ wJ) -> va_S A s.heap H locs -> lv_has ls 3 [(0, .ref a_m), (1, .int x1), (2, .int x2)] -> W p l e rm_X10_readAct s m args below meth c H locs 0 0 (MQ below (q_X10_readAct dC dI cI cC cZ cB cJ A a_m nY sJ eG iY lY jR jW jZ jO oQ bR aY jQ gY iJ mQ lJ jA bG mK jB mW mJ eJ dG bT aG jC bL bY jD mLn oF aJ aB bW bZ aR aE bI aW bU fJ dO bM bQ bO jY oX qO qQ post) args s 0 0 A) (F0 m 97 ls []) := by
  obtain ⟨hx, hb, hr, hml, hown, hts, hlocks, hA, hK, hN, tL, tM, hZL, hTL, hZM, hTM, hZX⟩ := id C0
  intro x1 x2 rP dQ wJ H locs ls hp hP hD hS hl
  unfold aJ6 at hp
  refine lv_iload_n hx hb aNz.2.2.2.2.2.2.1 rfl (lv_at hl 2 rfl) ?_
  refine lv_bipush (v := 112) hx hb aNz.2.2.2.2.2.2.2.1 bp_112 ?_
  refine lv_icmp_eq (tgt := 109) hx hb aNz.2.2.2.2.2.2.2.2.1 (by decide) (fun hc => ?_) (fun hc => ?_)
  · have hp := hp.1 hc
    exact ks_X10_readAct_109 C0 x1 rP dQ wJ H locs ls hp hP hD hS (lv_sub hl [0, 1] rfl)
  · have hp := hp.2 hc
    refine lv_iload_n hx hb aNz.2.2.2.2.2.2.2.2.2.1 rfl (lv_at hl 2 rfl) ?_
    refine lv_bipush (v := 104) hx hb aNz.2.2.2.2.2.2.2.2.2.2.1 bp_104 ?_
    refine lv_icmp_ne (tgt := 122) hx hb aNz.2.2.2.2.2.2.2.2.2.2.2.1 (by decide) (fun hc => ?_) (fun hc => ?_)
    · have hp := hp.1 hc
      exact W.vret hx hb hr (fun t ht hW => ⟨⟨(rP, dQ, wJ), rfl, hp, by rw [ht]; exact hP, va_K.moved hW.alike hK, hD⟩, hS.F ht⟩) hS.2.2 eX10_readAct_115.2.2.2.2.2
    · have hp := hp.2 hc
      exact ks_X10_readAct_109 C0 x1 rP dQ wJ H locs ls hp hP hD hS (lv_sub hl [0, 1] rfl)
def aJJ (post : Int32 -> Int32 -> (Nat -> Int32) -> Prop) (jD : Nat) (mLn oF : Int32) (qO qQ : Nat -> Int32) (x1 x2 rP dQ : Int32) (wJ : Nat -> Int32) : Prop := ∀ v_2 : Int32, v_2 = rP + 1 -> vp_in x1 160 /\ ((¬ x2 = 109 -> aJ6 post jD mLn oF qO qQ x1 x2 v_2 dQ (upd wJ x1.toNatClampNeg x2)) /\ (x2 = 109 -> ∀ v_7 : Int32, v_7 = x1 + 1 -> aOj (fun r_8 aIj aEq => vp_in v_7 160 /\ (aJ6 post jD mLn oF qO qQ x1 x2 aIj aEq (upd (upd wJ x1.toNatClampNeg x2) v_7.toNatClampNeg r_8))) 1 jD mLn oF v_2 dQ qO qQ))
set_option maxHeartbeats 4000000 in
set_option maxRecDepth 100000 in
theorem bBG (C0 : gc aCY none 3 zX (dC, dI) (tyl cI cC cZ cB cJ) A p s m args meth c) : ∀ (x1 x2 rP dQ : Int32) (wJ : Nat -> Int32) (H : Heap) (locs : List Loc) (ls : Array Slot), (aJJ post jD mLn oF qO qQ) x1 x2 rP dQ wJ -> va_P (dC, dI) classes (aIb cI cC cZ cB cJ a_m nY sJ eG iY lY jR jW jZ jO oQ bR aY jQ gY iJ mQ lJ jA bG mK jB mW mJ eJ dG bT aG jC bL bY jD mLn oF rP dQ aJ aB bW bZ aR aE bI aW bU fJ dO bM bQ bO jY oX qO qQ wJ) H -> va_D A (aIb cI cC cZ cB cJ a_m nY sJ eG iY lY jR jW jZ jO oQ bR aY jQ gY iJ mQ lJ jA bG mK jB mW mJ eJ dG bT aG jC bL bY jD mLn oF rP dQ aJ aB bW bZ aR aE bI aW bU fJ dO bM bQ bO jY oX qO qQ wJ) -> va_S A s.heap H locs -> lv_has ls 3 [(0, .ref a_m), (1, .int x1), (2, .int x2)] -> W p l e rm_X10_readAct s m args below meth c H locs 0 0 (MQ below (q_X10_readAct dC dI cI cC cZ cB cJ A a_m nY sJ eG iY lY jR jW jZ jO oQ bR aY jQ gY iJ mQ lJ jA bG mK jB mW mJ eJ dG bT aG jC bL bY jD mLn oF aJ aB bW bZ aR aE bI aW bU fJ dO bM bQ bO jY oX qO qQ post) args s 0 0 A) (F0 m 61 ls []) := by
  obtain ⟨hx, hb, hr, hml, hown, hts, hlocks, hA, hK, hN, tL, tM, hZL, hTL, hZM, hTM, hZX⟩ := id C0
  intro x1 x2 rP dQ wJ H locs ls hp hP hD hS hl
  unfold aJJ at hp
  refine lv_aload_n hx hb aNx.2.2.2.2.2.2.2.2.2.2.2.2.2.2.2 rfl (lv_at hl 0 rfl) ?_
  refine lv_dup hx hb aNy.1 rfl ?_
  refine va_get (D := (dC, dI)) (ci := 10) (v := .int rP) (C := zX) (T := aBe) (N := 51) hx hb hts aAt hown hK hP 0 rfl rfl 18 (lbz rfl) (hts _ q_648) (fun _ h9 => h9) rfl aNy.2.1 ?_
  refine lv_iconst (v := 1) hx hb aNy.2.2.1 aDx ?_
  refine lv_iadd hx hb aNy.2.2.2.1 ?_
  refine lv_topi (fun v_2 aGO => ?_)
  have hp := hp v_2 aGO
  refine va_put (D := (dC, dI)) (ci := 10) (v := .int v_2) (ty := .int) (C := zX) (T := aBe) (N := 51) hx hb hts aAt aD2 aAa aEC hown hK hP hD hS 0 rfl rfl 18 (lbz rfl) (hts _ q_648) (fun _ h9 => h9) rfl (aAa 18 (lbz rfl)) rfl rfl (lbz rfl) aNy.2.2.2.2.1 (fun H locs hP hD hS => ?_)
  have hPD := PDw (ws' := (aIb cI cC cZ cB cJ a_m nY sJ eG iY lY jR jW jZ jO oQ bR aY jQ gY iJ mQ lJ jA bG mK jB mW mJ eJ dG bT aG jC bL bY jD mLn oF v_2 dQ aJ aB bW bZ aR aE bI aW bU fJ dO bM bQ bO jY oX qO qQ wJ)) hP hD rfl
  have hP := hPD.1
  have hD := hPD.2
  refine lv_aload_n hx hb aNy.2.2.2.2.2.1 rfl (lv_at hl 0 rfl) ?_
  refine va_get (D := (dC, dI)) (ci := 10) (v := .ref mQ) (C := zX) (T := aBe) (N := 51) hx hb hts aAt hown hK hP 0 rfl rfl 34 (lbz rfl) (hts _ q_844) (fun _ h9 => h9) rfl aNy.2.2.2.2.2.2.1 ?_
  refine lv_iload_n hx hb aNy.2.2.2.2.2.2.2.1 rfl (lv_at hl 1 rfl) ?_
  refine lv_iload_n hx hb aNy.2.2.2.2.2.2.2.2.1 rfl (lv_at hl 2 rfl) ?_
  have hin := hp.1
  have hp := hp.2
  refine va_iast hx hb hK hP hD hS 3 0 rfl rfl hin aNy.2.2.2.2.2.2.2.2.2.1 (fun H locs hP hD hS => ?_)
  have hPD := PDw (ws' := (aIb cI cC cZ cB cJ a_m nY sJ eG iY lY jR jW jZ jO oQ bR aY jQ gY iJ mQ lJ jA bG mK jB mW mJ eJ dG bT aG jC bL bY jD mLn oF v_2 dQ aJ aB bW bZ aR aE bI aW bU fJ dO bM bQ bO jY oX qO qQ (upd wJ x1.toNatClampNeg x2))) hP hD rfl
  have hP := hPD.1
  have hD := hPD.2
  refine lv_iload_n hx hb aNy.2.2.2.2.2.2.2.2.2.2.1 rfl (lv_at hl 2 rfl) ?_
  refine lv_bipush (v := 109) hx hb aNy.2.2.2.2.2.2.2.2.2.2.2.1 bp_109 ?_
  refine lv_icmp_ne (tgt := 97) hx hb aNy.2.2.2.2.2.2.2.2.2.2.2.2.1 (by decide) (fun hc => ?_) (fun hc => ?_)
  · have hp := hp.1 hc
    exact ks_X10_readAct_97 C0 x1 x2 v_2 dQ (upd wJ x1.toNatClampNeg x2) H locs ls hp hP hD hS (lv_sub hl [0, 1, 2] rfl)
  · have hp := hp.2 hc
    refine lv_aload_n hx hb aNy.2.2.2.2.2.2.2.2.2.2.2.2.2.1 rfl (lv_at hl 0 rfl) ?_
    refine va_get (D := (dC, dI)) (ci := 10) (v := .ref mQ) (C := zX) (T := aBe) (N := 51) hx hb hts aAt hown hK hP 0 rfl rfl 34 (lbz rfl) (hts _ q_844) (fun _ h9 => h9) rfl aNy.2.2.2.2.2.2.2.2.2.2.2.2.2.2.1 ?_
    refine lv_iload_n hx hb aNy.2.2.2.2.2.2.2.2.2.2.2.2.2.2.2 rfl (lv_at hl 1 rfl) ?_
    refine lv_iconst (v := 1) hx hb aNz.1 aDx ?_
    refine lv_iadd hx hb aNz.2.1 ?_
    refine lv_topi (fun v_7 ev_7 => ?_)
    have hp := hp v_7 ev_7
    refine lv_aload_n hx hb aNz.2.2.1 rfl (lv_at hl 0 rfl) ?_
    refine lv_iconst (v := 1) hx hb aNz.2.2.2.1 aDx ?_
    have hm := mgk (wc := (aG9 cI cC cZ cB cJ a_m nY sJ eG iY lY jR jW jZ jO oQ bR aY jQ gY iJ mQ lJ jA bG mK jB mW mJ eJ dG bT aG jC bL bY jD mLn oF v_2 dQ aJ aB bW bZ aR aE bI aW bU fJ dO bM bQ bO jY oX qO qQ)) hP mk_221 4 rfl rfl rfl
    refine yW hP hD hS hA (yS mk_221) (aAi mk_221) hm.1 hm.2 (aAk _) (zW _) (zF (As := [.int 1]) (rest := [.int v_7, .ref mQ]) C0 hP hD hS (yS mk_221) hm.1 (aAl _) 0 10 rfl rfl (c_X10_number l dC dI cI cC cZ cB cJ a_m nY sJ eG iY lY jR jW jZ jO oQ bR aY jQ gY iJ mQ lJ jA bG mK jB mW mJ eJ dG H.size 1 bT aG jC bL bY jD mLn oF v_2 dQ aJ aB bW bZ aR aE bI aW bU fJ dO bM bQ bO jY oX qO qQ _ hp) q_669 q_672 q_670 q_671 aBL h_X10_number rfl rfl ⟨lbz rfl, lbz rfl⟩ rfl rfl hl.1 rfl (lv_room (lbz rfl)) aNz.2.2.2.2.1 ⟨Nat.zero_le _, Nat.zero_le _⟩) (fun r_8 u H locs hp hP hD hS => ?_)
    obtain ⟨aIj, aEq⟩ := u
    have hPD := PDm (ws' := (aIb cI cC cZ cB cJ a_m nY sJ eG iY lY jR jW jZ jO oQ bR aY jQ gY iJ mQ lJ jA bG mK jB mW mJ eJ dG bT aG jC bL bY jD mLn oF aIj aEq aJ aB bW bZ aR aE bI aW bU fJ dO bM bQ bO jY oX qO qQ (upd wJ x1.toNatClampNeg x2))) hP hD 4 rfl rfl rfl
    have hP := hPD.1
    have hD := hPD.2
    have hin := hp.1
    have hp := hp.2
    refine va_iast hx hb hK hP hD hS 3 0 rfl rfl hin aNz.2.2.2.2.2.1 (fun H locs hP hD hS => ?_)
    have hPD := PDw (ws' := (aIb cI cC cZ cB cJ a_m nY sJ eG iY lY jR jW jZ jO oQ bR aY jQ gY iJ mQ lJ jA bG mK jB mW mJ eJ dG bT aG jC bL bY jD mLn oF aIj aEq aJ aB bW bZ aR aE bI aW bU fJ dO bM bQ bO jY oX qO qQ (upd (upd wJ x1.toNatClampNeg x2) v_7.toNatClampNeg r_8))) hP hD rfl
    have hP := hPD.1
    have hD := hPD.2
    exact ks_X10_readAct_97 C0 x1 x2 aIj aEq (upd (upd wJ x1.toNatClampNeg x2) v_7.toNatClampNeg r_8) H locs ls hp hP hD hS (lv_sub hl [0, 1, 2] rfl)
end S_X10_readAct
def wp_X10_readAct (post : Int32 -> Int32 -> (Nat -> Int32) -> Prop) (p0 : Int32) (jD : Nat) (mLn oF rP dQ : Int32) (qO qQ wJ : Nat -> Int32) : Prop := aPe (fun r_1 => (r_1 = 109 -> aJJ post jD mLn oF qO qQ p0 r_1 rP dQ wJ) /\ (¬ r_1 = 109 -> (r_1 = 112 -> aJJ post jD mLn oF qO qQ p0 r_1 rP dQ wJ) /\ (¬ r_1 = 112 -> (r_1 = 104 -> aJJ post jD mLn oF qO qQ p0 r_1 rP dQ wJ) /\ (¬ r_1 = 104 -> (r_1 = 100 -> aJJ post jD mLn oF qO qQ p0 r_1 rP dQ wJ) /\ (¬ r_1 = 100 -> (r_1 = 107 -> aJJ post jD mLn oF qO qQ p0 r_1 rP dQ wJ) /\ (¬ r_1 = 107 -> (r_1 = 97 -> aJJ post jD mLn oF qO qQ p0 r_1 rP dQ wJ) /\ (¬ r_1 = 97 -> (r_1 = 111 -> aJJ post jD mLn oF qO qQ p0 r_1 rP dQ wJ) /\ (¬ r_1 = 111 -> (r_1 = 122 -> aJJ post jD mLn oF qO qQ p0 r_1 rP dQ wJ) /\ (¬ r_1 = 122 -> aSQ (fun aKb => aJJ post jD mLn oF qO qQ p0 r_1 rP aKb wJ) rP dQ))))))))) jD mLn oF rP qO qQ
set_option maxHeartbeats 4000000 in
set_option maxRecDepth 100000 in
theorem c_X10_readAct (l : Launch) (dC : Nat -> ClassId) (dI : Nat -> Nat -> Nat) (cI cC cZ cB cJ : ClassId) (a_m nY sJ eG iY lY jR jW jZ jO oQ bR aY jQ gY iJ mQ lJ jA bG mK jB mW mJ eJ dG sz : Nat) (p0 bT aG jC bL bY : Int32) (jD : Nat) (mLn oF rP dQ aJ aB bW bZ aR aE bI aW bU fJ dO bM bQ bO jY oX : Int32) (qO qQ wJ : Nat -> Int32) (post : Int32 -> Int32 -> (Nat -> Int32) -> Prop) (hw : wp_X10_readAct post p0 jD mLn oF rP dQ qO qQ wJ) : Met l yX10_readAct (gw yX10_readAct aCY 3 none) rm_X10_readAct (va_Pc [.ref a_m, .int p0] (gPre (dC, dI) (tyl cI cC cZ cB cJ) (aIb cI cC cZ cB cJ a_m nY sJ eG iY lY jR jW jZ jO oQ bR aY jQ gY iJ mQ lJ jA bG mK jB mW mJ eJ dG bT aG jC bL bY jD mLn oF rP dQ aJ aB bW bZ aR aE bI aW bU fJ dO bM bQ bO jY oX qO qQ wJ) sz)) (q_X10_readAct dC dI cI cC cZ cB cJ (va_A (aIb cI cC cZ cB cJ a_m nY sJ eG iY lY jR jW jZ jO oQ bR aY jQ gY iJ mQ lJ jA bG mK jB mW mJ eJ dG bT aG jC bL bY jD mLn oF rP dQ aJ aB bW bZ aR aE bI aW bU fJ dO bM bQ bO jY oX qO qQ wJ) sz) a_m nY sJ eG iY lY jR jW jZ jO oQ bR aY jQ gY iJ mQ lJ jA bG mK jB mW mJ eJ dG bT aG jC bL bY jD mLn oF aJ aB bW bZ aR aE bI aW bU fJ dO bM bQ bO jY oX qO qQ post) 0 0 (va_A (aIb cI cC cZ cB cJ a_m nY sJ eG iY lY jR jW jZ jO oQ bR aY jQ gY iJ mQ lJ jA bG mK jB mW mJ eJ dG bT aG jC bL bY jD mLn oF rP dQ aJ aB bW bZ aR aE bI aW bU fJ dO bM bQ bO jY oX qO qQ wJ) sz) := by
  refine aBJ (own := zX) (dC, dI) (tyl cI cC cZ cB cJ) (aIb cI cC cZ cB cJ a_m nY sJ eG iY lY jR jW jZ jO oQ bR aY jQ gY iJ mQ lJ jA bG mK jB mW mJ eJ dG bT aG jC bL bY jD mLn oF rP dQ aJ aB bW bZ aR aE bI aW bU fJ dO bM bQ bO jY oX qO qQ wJ) sz [.ref a_m, .int p0] (fun A => q_X10_readAct dC dI cI cC cZ cB cJ A a_m nY sJ eG iY lY jR jW jZ jO oQ bR aY jQ gY iJ mQ lJ jA bG mK jB mW mJ eJ dG bT aG jC bL bY jD mLn oF aJ aB bW bZ aR aE bI aW bU fJ dO bM bQ bO jY oX qO qQ post) aFY rfl (lbz rfl) ?_
  intro p e s m args below meth c A H locs ls C0 hP hD hS hl
  have hl : lv_has ls 3 [(0, .ref a_m), (1, .int p0)] := hl
  obtain ⟨hx, hb, hr, hml, hown, hts, hlocks, hA, hK, hN, tL, tM, hZL, hTL, hZM, hTM, hZX⟩ := id C0
  have hp := hw
  unfold wp_X10_readAct at hp
  refine lv_aload_n hx hb aQT.1 rfl (lv_at hl 0 rfl) ?_
  have hm := mgk (wc := (aVg cI cC cZ cB cJ a_m nY sJ eG iY lY jR jW jZ jO oQ bR aY jQ gY iJ mQ lJ jA bG mK jB mW mJ eJ dG bT aG jC bL bY jD mLn oF rP dQ aJ aB bW bZ aR aE bI aW bU fJ dO bM bQ bO jY oX qO qQ)) hP mk_221 4 rfl rfl rfl
  refine yW hP hD hS hA (yS mk_221) (aAi mk_221) hm.1 hm.2 (aAk _) (zW _) (zF (As := []) (rest := []) C0 hP hD hS (yS mk_221) hm.1 (aAl _) 0 10 rfl rfl (c_X10_here l dC dI cI cC cZ cB cJ a_m nY sJ eG iY lY jR jW jZ jO oQ bR aY jQ gY iJ mQ lJ jA bG mK jB mW mJ eJ dG H.size bT aG jC bL bY jD mLn oF rP dQ aJ aB bW bZ aR aE bI aW bU fJ dO bM bQ bO jY oX qO qQ _ hp) q_658 q_661 q_659 q_660 aBL h_X10_here rfl rfl ⟨lbz rfl, lbz rfl⟩ rfl rfl hl.1 rfl (lv_room (lbz rfl)) aQT.2.1 ⟨Nat.zero_le _, Nat.zero_le _⟩) (fun r_1 u H locs hp hP hD hS => ?_)
  have hPD := PDm (ws' := (aIb cI cC cZ cB cJ a_m nY sJ eG iY lY jR jW jZ jO oQ bR aY jQ gY iJ mQ lJ jA bG mK jB mW mJ eJ dG bT aG jC bL bY jD mLn oF rP dQ aJ aB bW bZ aR aE bI aW bU fJ dO bM bQ bO jY oX qO qQ wJ)) hP hD 4 rfl rfl rfl
  have hP := hPD.1
  have hD := hPD.2
  refine lv_istore_n (lv' := [(2, .int r_1), (0, .ref a_m), (1, .int p0)]) hx hb aQT.2.2.1 rfl hl (by decide) rfl (fun ls hl => ?_)
  refine lv_iload_n hx hb aQT.2.2.2.1 rfl (lv_at hl 0 rfl) ?_
  refine lv_bipush (v := 109) hx hb aQT.2.2.2.2.1 bp_109 ?_
  refine lv_icmp_eq (tgt := 61) hx hb aQT.2.2.2.2.2.1 (by decide) (fun hc => ?_) (fun hc => ?_)
  · have hp := hp.1 hc
    exact bBG C0 p0 r_1 rP dQ wJ H locs ls hp hP hD hS (lv_sub hl [1, 2, 0] rfl)
  · have hp := hp.2 hc
    refine lv_iload_n hx hb aQT.2.2.2.2.2.2.1 rfl (lv_at hl 0 rfl) ?_
    refine lv_bipush (v := 112) hx hb aQT.2.2.2.2.2.2.2.1 bp_112 ?_
    refine lv_icmp_eq (tgt := 61) hx hb aQT.2.2.2.2.2.2.2.2.1 (by decide) (fun hc => ?_) (fun hc => ?_)
    · have hp := hp.1 hc
      exact bBG C0 p0 r_1 rP dQ wJ H locs ls hp hP hD hS (lv_sub hl [1, 2, 0] rfl)
    · have hp := hp.2 hc
      refine lv_iload_n hx hb aQT.2.2.2.2.2.2.2.2.2.1 rfl (lv_at hl 0 rfl) ?_
      refine lv_bipush (v := 104) hx hb aQT.2.2.2.2.2.2.2.2.2.2.1 bp_104 ?_
      refine lv_icmp_eq (tgt := 61) hx hb aQT.2.2.2.2.2.2.2.2.2.2.2.1 (by decide) (fun hc => ?_) (fun hc => ?_)
      · have hp := hp.1 hc
        exact bBG C0 p0 r_1 rP dQ wJ H locs ls hp hP hD hS (lv_sub hl [1, 2, 0] rfl)
      · have hp := hp.2 hc
        refine lv_iload_n hx hb aQT.2.2.2.2.2.2.2.2.2.2.2.2.1 rfl (lv_at hl 0 rfl) ?_
        refine lv_bipush (v := 100) hx hb aQT.2.2.2.2.2.2.2.2.2.2.2.2.2.1 bp_100 ?_
        refine lv_icmp_eq (tgt := 61) hx hb aQT.2.2.2.2.2.2.2.2.2.2.2.2.2.2.1 (by decide) (fun hc => ?_) (fun hc => ?_)
        · have hp := hp.1 hc
          exact bBG C0 p0 r_1 rP dQ wJ H locs ls hp hP hD hS (lv_sub hl [1, 2, 0] rfl)
        · have hp := hp.2 hc
          refine lv_iload_n hx hb aQT.2.2.2.2.2.2.2.2.2.2.2.2.2.2.2 rfl (lv_at hl 0 rfl) ?_
          refine lv_bipush (v := 107) hx hb aNx.1 bp_107 ?_
          refine lv_icmp_eq (tgt := 61) hx hb aNx.2.1 (by decide) (fun hc => ?_) (fun hc => ?_)
          · have hp := hp.1 hc
            exact bBG C0 p0 r_1 rP dQ wJ H locs ls hp hP hD hS (lv_sub hl [1, 2, 0] rfl)
          · have hp := hp.2 hc
            refine lv_iload_n hx hb aNx.2.2.1 rfl (lv_at hl 0 rfl) ?_
            refine lv_bipush (v := 97) hx hb aNx.2.2.2.1 bp_97 ?_
            refine lv_icmp_eq (tgt := 61) hx hb aNx.2.2.2.2.1 (by decide) (fun hc => ?_) (fun hc => ?_)
            · have hp := hp.1 hc
              exact bBG C0 p0 r_1 rP dQ wJ H locs ls hp hP hD hS (lv_sub hl [1, 2, 0] rfl)
            · have hp := hp.2 hc
              refine lv_iload_n hx hb aNx.2.2.2.2.2.1 rfl (lv_at hl 0 rfl) ?_
              refine lv_bipush (v := 111) hx hb aNx.2.2.2.2.2.2.1 bp_111 ?_
              refine lv_icmp_eq (tgt := 61) hx hb aNx.2.2.2.2.2.2.2.1 (by decide) (fun hc => ?_) (fun hc => ?_)
              · have hp := hp.1 hc
                exact bBG C0 p0 r_1 rP dQ wJ H locs ls hp hP hD hS (lv_sub hl [1, 2, 0] rfl)
              · have hp := hp.2 hc
                refine lv_iload_n hx hb aNx.2.2.2.2.2.2.2.2.1 rfl (lv_at hl 0 rfl) ?_
                refine lv_bipush (v := 122) hx hb aNx.2.2.2.2.2.2.2.2.2.1 bp_122 ?_
                refine lv_icmp_eq (tgt := 61) hx hb aNx.2.2.2.2.2.2.2.2.2.2.1 (by decide) (fun hc => ?_) (fun hc => ?_)
                · have hp := hp.1 hc
                  exact bBG C0 p0 r_1 rP dQ wJ H locs ls hp hP hD hS (lv_sub hl [1, 2, 0] rfl)
                · have hp := hp.2 hc
                  refine lv_aload_n hx hb aNx.2.2.2.2.2.2.2.2.2.2.2.1 rfl (lv_at hl 1 rfl) ?_
                  refine lv_aload_n hx hb aNx.2.2.2.2.2.2.2.2.2.2.2.2.1 rfl (lv_at hl 1 rfl) ?_
                  refine va_get (D := (dC, dI)) (ci := 10) (v := .int rP) (C := zX) (T := aBe) (N := 51) hx hb hts aAt hown hK hP 0 rfl rfl 18 (lbz rfl) (hts _ q_648) (fun _ h9 => h9) rfl aNx.2.2.2.2.2.2.2.2.2.2.2.2.2.1 ?_
                  have hm := mgk (wc := (aSM cI cC cZ cB cJ a_m nY sJ eG iY lY jR jW jZ jO oQ bR aY jQ gY iJ mQ lJ jA bG mK jB mW mJ eJ dG bT aG jC bL bY jD mLn oF rP dQ aJ aB bW bZ aR aE bI aW bU fJ dO bM bQ bO jY oX)) hP mk_15 4 rfl rfl rfl
                  refine aBn hP hD hS hA (yS mk_15) (aAi mk_15) hm.1 hm.2 (aAk _) (zW _) (zF (As := [.int rP]) (rest := []) C0 hP hD hS (yS mk_15) hm.1 (aAl _) 0 10 rfl rfl (c_X10_fault l dC dI cI cC cZ cB cJ a_m nY sJ eG iY lY jR jW jZ jO oQ bR aY jQ gY iJ mQ lJ jA bG mK jB mW mJ eJ dG H.size rP bT aG jC bL bY jD mLn oF rP dQ aJ aB bW bZ aR aE bI aW bU fJ dO bM bQ bO jY oX _ hp) q_654 q_657 q_655 q_656 aBL h_X10_fault rfl rfl ⟨lbz rfl, lbz rfl⟩ rfl rfl hl.1 rfl (lv_room (lbz rfl)) aNx.2.2.2.2.2.2.2.2.2.2.2.2.2.2.1 ⟨Nat.zero_le _, Nat.zero_le _⟩) (fun u H locs hp hP hD hS => ?_)
                  obtain ⟨aKb, rfl⟩ : ∃ z, z = u := ⟨_, rfl⟩
                  have hPD := PDm (ws' := (aIb cI cC cZ cB cJ a_m nY sJ eG iY lY jR jW jZ jO oQ bR aY jQ gY iJ mQ lJ jA bG mK jB mW mJ eJ dG bT aG jC bL bY jD mLn oF rP aKb aJ aB bW bZ aR aE bI aW bU fJ dO bM bQ bO jY oX qO qQ wJ)) hP hD 4 rfl rfl rfl
                  have hP := hPD.1
                  have hD := hPD.2
                  exact bBG C0 p0 r_1 rP aKb wJ H locs ls hp hP hD hS (lv_sub hl [1, 2, 0] rfl)
abbrev aX9 (cI cC cZ cB cJ : ClassId) (nY iJ : Nat) (qG vF : Nat -> Int32) : va_W := [(nY, .inl (cI, 21, .inl qG)), (iJ, .inl (cI, 21, .inl vF))]
abbrev q_X10_lay_b2 (dC : Nat -> ClassId) (dI : Nat -> Nat -> Nat) (cI cC cZ cB cJ : ClassId) (A : Nat -> Prop) (nY iJ : Nat) (qG : Nat -> Int32) (post : (Nat -> Int32) -> Prop) : Array Value -> State -> Outcome -> State -> Prop := va_Qv (fun (u : (Nat -> Int32)) => post u) (fun u t => gB (dC, dI) (tyl cI cC cZ cB cJ) A (aX9 cI cC cZ cB cJ nY iJ qG u) t) A
abbrev rm_X10_lay_b2 : Room := { frames := 0, cells := 0, slots := 0, locals := 0 }
section S_X10_lay_b2
variable {p : Program} {l : Launch} {e : Env} {s : State} {m : MethodId} {args : Array Value} {below : List Frame} {meth : Method} {c : Code} {dC : Nat -> ClassId} {dI : Nat -> Nat -> Nat} {cI cC cZ cB cJ : ClassId} {A : Nat -> Prop} {nY iJ : Nat} {qG : Nat -> Int32} {post : (Nat -> Int32) -> Prop}
def ws_X10_lay_b2_2 (post : (Nat -> Int32) -> Prop) (next : Int32 -> Int32 -> (Nat -> Int32) -> Prop) (qG : Nat -> Int32) (x2 x3 : Int32) (vF : Nat -> Int32) : Prop := (21 <= x3 -> post vF) /\ (¬ 21 <= x3 -> ∀ v_1 : Int32, v_1 = x2 + x3 -> vp_in x3 21 /\ (∀ v_2 : Int32, v_2 = qG x3.toNatClampNeg -> vp_in v_1 21 /\ (∀ v_3 : Int32, v_3 = x3 + 1 -> next x2 v_3 (upd vF v_1.toNatClampNeg v_2))))
noncomputable def wb_X10_lay_b2_2 (post : (Nat -> Int32) -> Prop) (qG : Nat -> Int32) : Nat -> Int32 -> Int32 -> (Nat -> Int32) -> Prop := fun n => Nat.rec (motive := fun _ => Int32 -> Int32 -> (Nat -> Int32) -> Prop) (fun _ _ _ => False) (fun _ ih => ws_X10_lay_b2_2 post ih qG) n
set_option maxHeartbeats 4000000 in
set_option maxRecDepth 100000 in
theorem ks_X10_lay_b2_2 (C0 : gc aUi none 4 zX (dC, dI) (tyl cI cC cZ cB cJ) A p s m args meth c) {next : Int32 -> Int32 -> (Nat -> Int32) -> Prop} (hKn : ∀ (x2 : Int32) (x3 : Int32) (vF : Nat -> Int32) (H : Heap) (locs : List Loc) (ls : Array Slot), next x2 x3 vF -> va_P (dC, dI) classes (aX9 cI cC cZ cB cJ nY iJ qG vF) H -> va_D A (aX9 cI cC cZ cB cJ nY iJ qG vF) -> va_S A s.heap H locs -> lv_has ls 4 [(0, .ref nY), (1, .ref iJ), (2, .int x2), (3, .int x3)] -> W p l e rm_X10_lay_b2 s m args below meth c H locs 0 0 (MQ below (q_X10_lay_b2 dC dI cI cC cZ cB cJ A nY iJ qG post) args s 0 0 A) (F0 m 2 ls [])) : ∀ (x2 x3 : Int32) (vF : Nat -> Int32) (H : Heap) (locs : List Loc) (ls : Array Slot), (ws_X10_lay_b2_2 post next qG) x2 x3 vF -> va_P (dC, dI) classes (aX9 cI cC cZ cB cJ nY iJ qG vF) H -> va_D A (aX9 cI cC cZ cB cJ nY iJ qG vF) -> va_S A s.heap H locs -> lv_has ls 4 [(0, .ref nY), (1, .ref iJ), (2, .int x2), (3, .int x3)] -> W p l e rm_X10_lay_b2 s m args below meth c H locs 0 0 (MQ below (q_X10_lay_b2 dC dI cI cC cZ cB cJ A nY iJ qG post) args s 0 0 A) (F0 m 2 ls []) := by
  obtain ⟨hx, hb, hr, hml, hown, hts, hlocks, hA, hK, hN, tL, tM, hZL, hTL, hZM, hTM, hZX⟩ := id C0
  intro x2 x3 vF H locs ls hp hP hD hS hl
  unfold ws_X10_lay_b2_2 at hp
  refine lv_iload_n hx hb aDr.2.2.1 rfl (lv_at hl 3 rfl) ?_
  refine lv_bipush (v := 21) hx hb aDr.2.2.2.1 bp_21 ?_
  refine lv_icmp_ge (tgt := 22) hx hb aDr.2.2.2.2.1 (by decide) (fun hc => ?_) (fun hc => ?_)
  · have hp := hp.1 hc
    exact W.vret hx hb hr (fun t ht hW => ⟨⟨vF, rfl, hp, by rw [ht]; exact hP, va_K.moved hW.alike hK, hD⟩, hS.F ht⟩) hS.2.2 aDr.2.2.2.2.2.2.2.2.2.2.2.2.2.2.2
  · have hp := hp.2 hc
    refine lv_aload_n hx hb aDr.2.2.2.2.2.1 rfl (lv_at hl 1 rfl) ?_
    refine lv_iload_n hx hb aDr.2.2.2.2.2.2.1 rfl (lv_at hl 2 rfl) ?_
    refine lv_iload_n hx hb aDr.2.2.2.2.2.2.2.1 rfl (lv_at hl 3 rfl) ?_
    refine lv_iadd hx hb aDr.2.2.2.2.2.2.2.2.1 ?_
    refine lv_topi (fun v_1 aFJ => ?_)
    have hp := hp v_1 aFJ
    refine lv_aload_n hx hb aDr.2.2.2.2.2.2.2.2.2.1 rfl (lv_at hl 0 rfl) ?_
    refine lv_iload_n hx hb aDr.2.2.2.2.2.2.2.2.2.2.1 rfl (lv_at hl 3 rfl) ?_
    have hin := hp.1
    have hp := hp.2
    refine va_iald hx hb hK hP 0 0 rfl rfl hin aDr.2.2.2.2.2.2.2.2.2.2.2.1 ?_
    refine lv_topi (fun v_2 aGO => ?_)
    have hp := hp v_2 aGO
    have hin := hp.1
    have hp := hp.2
    refine va_iast hx hb hK hP hD hS 1 0 rfl rfl hin aDr.2.2.2.2.2.2.2.2.2.2.2.2.1 (fun H locs hP hD hS => ?_)
    have hPD := PDw (ws' := (aX9 cI cC cZ cB cJ nY iJ qG (upd vF v_1.toNatClampNeg v_2))) hP hD rfl
    have hP := hPD.1
    have hD := hPD.2
    obtain ⟨v_3, aGW⟩ : ∃ y : Int32, y = x3 + 1 := ⟨_, rfl⟩
    refine lv_iinc (v := v_3) (lv' := [(3, .int v_3), (0, .ref nY), (1, .ref iJ), (2, .int x2)]) hx hb aDr.2.2.2.2.2.2.2.2.2.2.2.2.2.1 hl (k := 3) rfl (by rw [aGW]; rfl) (by decide) rfl (fun ls hl => ?_)
    have hp := hp v_3 aGW
    refine lv_goto (tgt := 2) hx hb aDr.2.2.2.2.2.2.2.2.2.2.2.2.2.2.1 (by decide) ?_
    exact hKn x2 v_3 (upd vF v_1.toNatClampNeg v_2) H locs ls hp hP hD hS (lv_sub hl [1, 2, 3, 0] rfl)
set_option maxHeartbeats 4000000 in
set_option maxRecDepth 100000 in
theorem kb_X10_lay_b2_2 (C0 : gc aUi none 4 zX (dC, dI) (tyl cI cC cZ cB cJ) A p s m args meth c) : ∀ (n : Nat), ∀ (x2 x3 : Int32) (vF : Nat -> Int32) (H : Heap) (locs : List Loc) (ls : Array Slot), (wb_X10_lay_b2_2 post qG n) x2 x3 vF -> va_P (dC, dI) classes (aX9 cI cC cZ cB cJ nY iJ qG vF) H -> va_D A (aX9 cI cC cZ cB cJ nY iJ qG vF) -> va_S A s.heap H locs -> lv_has ls 4 [(0, .ref nY), (1, .ref iJ), (2, .int x2), (3, .int x3)] -> W p l e rm_X10_lay_b2 s m args below meth c H locs 0 0 (MQ below (q_X10_lay_b2 dC dI cI cC cZ cB cJ A nY iJ qG post) args s 0 0 A) (F0 m 2 ls []) := by
  intro n
  induction n with
  | zero =>
    intro x2 x3 vF H locs ls hp
    exact False.elim hp
  | succ n ih =>
    intro x2 x3 vF H locs ls hp
    exact ks_X10_lay_b2_2 C0 ih x2 x3 vF H locs ls hp
end S_X10_lay_b2
def wp_X10_lay_b2 (post : (Nat -> Int32) -> Prop) (p2 : Int32) (qG vF : Nat -> Int32) : Prop := ∃ n : Nat, wb_X10_lay_b2_2 post qG n p2 0 vF
set_option maxHeartbeats 4000000 in
set_option maxRecDepth 100000 in
theorem c_X10_lay_b2 (l : Launch) (dC : Nat -> ClassId) (dI : Nat -> Nat -> Nat) (cI cC cZ cB cJ : ClassId) (nY iJ sz : Nat) (p2 : Int32) (qG vF : Nat -> Int32) (post : (Nat -> Int32) -> Prop) (hw : wp_X10_lay_b2 post p2 qG vF) : Met l yX10_lay (gw yX10_lay aUi 4 none) rm_X10_lay_b2 (va_Pc [.ref nY, .ref iJ, .int p2] (gPre (dC, dI) (tyl cI cC cZ cB cJ) (aX9 cI cC cZ cB cJ nY iJ qG vF) sz)) (q_X10_lay_b2 dC dI cI cC cZ cB cJ (va_A (aX9 cI cC cZ cB cJ nY iJ qG vF) sz) nY iJ qG post) 0 0 (va_A (aX9 cI cC cZ cB cJ nY iJ qG vF) sz) := by
  refine aBJ (own := zX) (dC, dI) (tyl cI cC cZ cB cJ) (aX9 cI cC cZ cB cJ nY iJ qG vF) sz [.ref nY, .ref iJ, .int p2] (fun A => q_X10_lay_b2 dC dI cI cC cZ cB cJ A nY iJ qG post) aFY rfl (lbz rfl) ?_
  intro p e s m args below meth c A H locs ls C0 hP hD hS hl
  have hl : lv_has ls 4 [(0, .ref nY), (1, .ref iJ), (2, .int p2)] := hl
  obtain ⟨hx, hb, hr, hml, hown, hts, hlocks, hA, hK, hN, tL, tM, hZL, hTL, hZM, hTM, hZX⟩ := id C0
  have hp := hw
  unfold wp_X10_lay_b2 at hp
  refine lv_iconst (v := 0) hx hb aDr.1 aCi ?_
  refine lv_istore_n (lv' := [(3, .int 0), (0, .ref nY), (1, .ref iJ), (2, .int p2)]) hx hb aDr.2.1 rfl hl (by decide) rfl (fun ls hl => ?_)
  obtain ⟨n9, hp⟩ := hp
  exact kb_X10_lay_b2_2 C0 n9 p2 0 vF H locs ls hp hP hD hS (lv_sub hl [1, 2, 3, 0] rfl)
abbrev aMw (cI cC cZ cB cJ : ClassId) (a_m nY sJ eG iY lY jR jW jZ jO oQ bR aY jQ gY iJ mQ lJ jA bG mK jB mW mJ eJ dG : Nat) (bT aG jC bL bY : Int32) (jD : Nat) (mLn oF rP dQ aJ aB bW bZ aR aE bI aW bU fJ dO bM bQ bO jY oX : Int32) (qG m_x gR pW qR nG oO pJ qO qQ : Nat -> Int32) : va_W := [(a_m, .inr (10, [.ref nY, .int bT, .ref sJ, .ref eG, .ref iY, .ref lY, .int aG, .ref jR, .ref jW, .ref jZ, .ref jO, .int jC, .ref oQ, .int bL, .int bY, rdv jO jQ jD, .int mLn, .int oF, .int rP, .int dQ, .ref bR, .ref aY, .int aJ, .int aB, .ref jQ, .int bW, .int bZ, .int aR, .int aE, .int bI, .int aW, .ref gY, .int bU, .ref iJ, .ref mQ, .int fJ, .ref lJ, .int dO, .ref jA, .ref bG, .int bM, .int bQ, .int bO, .ref mK, .ref jB, .ref mW, .int jY, .int oX, .ref mJ, .ref eJ, .ref dG])), (nY, .inl (cI, 21, .inl qG)), (sJ, .inl (cI, 16, .inl m_x)), (eG, .inl (cI, 16, .inl gR)), (iY, .inl (cI, 16, .inl pW)), (lY, .inl (cI, 16, .inl qR)), (jR, .inl (cI, 8, .inl nG)), (jW, .inl (cI, 8, .inl oO)), (jZ, .inl (cI, 5, .inl pJ)), (jO, .inl (cB, 80, .inl qO)), (jQ, .inl (cB, 40, .inl qQ))]
abbrev q_X10_act (dC : Nat -> ClassId) (dI : Nat -> Nat -> Nat) (cI cC cZ cB cJ : ClassId) (A : Nat -> Prop) (a_m nY sJ eG iY lY jR jW jZ jO oQ bR aY jQ gY iJ mQ lJ jA bG mK jB mW mJ eJ dG : Nat) (bT aG jC bL bY aJ aB bW bU dO bM bQ bO jY oX : Int32) (m_x gR pW qR nG oO pJ qO qQ : Nat -> Int32) (post : Int32 -> Nat -> Int32 -> Int32 -> Int32 -> Int32 -> Int32 -> Int32 -> Int32 -> Int32 -> Int32 -> Int32 -> (Nat -> Int32) -> Prop) : Array Value -> State -> Outcome -> State -> Prop := va_Qi (fun (r : Int32) (u : Nat × Int32 × Int32 × Int32 × Int32 × Int32 × Int32 × Int32 × Int32 × Int32 × Int32 × (Nat -> Int32)) => post r u.1 u.2.1 u.2.2.1 u.2.2.2.1 u.2.2.2.2.1 u.2.2.2.2.2.1 u.2.2.2.2.2.2.1 u.2.2.2.2.2.2.2.1 u.2.2.2.2.2.2.2.2.1 u.2.2.2.2.2.2.2.2.2.1 u.2.2.2.2.2.2.2.2.2.2.1 u.2.2.2.2.2.2.2.2.2.2.2) (fun u t => gB (dC, dI) (tyl cI cC cZ cB cJ) A (aMw cI cC cZ cB cJ a_m nY sJ eG iY lY jR jW jZ jO oQ bR aY jQ gY iJ mQ lJ jA bG mK jB mW mJ eJ dG bT aG jC bL bY u.1 u.2.1 u.2.2.1 u.2.2.2.1 u.2.2.2.2.1 aJ aB bW u.2.2.2.2.2.1 u.2.2.2.2.2.2.1 u.2.2.2.2.2.2.2.1 u.2.2.2.2.2.2.2.2.1 u.2.2.2.2.2.2.2.2.2.1 bU u.2.2.2.2.2.2.2.2.2.2.1 dO bM bQ bO jY oX u.2.2.2.2.2.2.2.2.2.2.2 m_x gR pW qR nG oO pJ qO qQ) t) A
abbrev rm_X10_act : Room := { frames := 267, cells := 0, slots := 0, locals := 8805 }
section S_X10_act
variable {p : Program} {l : Launch} {e : Env} {s : State} {m : MethodId} {args : Array Value} {below : List Frame} {meth : Method} {c : Code} {dC : Nat -> ClassId} {dI : Nat -> Nat -> Nat} {cI cC cZ cB cJ : ClassId} {A : Nat -> Prop} {a_m nY sJ eG iY lY jR jW jZ jO oQ bR aY jQ gY iJ mQ lJ jA bG mK jB mW mJ eJ dG : Nat} {bT aG jC bL bY aJ aB bW bU dO bM bQ bO jY oX : Int32} {m_x gR pW qR nG oO pJ qO qQ : Nat -> Int32} {post : Int32 -> Nat -> Int32 -> Int32 -> Int32 -> Int32 -> Int32 -> Int32 -> Int32 -> Int32 -> Int32 -> Int32 -> (Nat -> Int32) -> Prop}
def ws_X10_act_193 (post : Int32 -> Nat -> Int32 -> Int32 -> Int32 -> Int32 -> Int32 -> Int32 -> Int32 -> Int32 -> Int32 -> Int32 -> (Nat -> Int32) -> Prop) (bT aG bW : Int32) (m_x gR pW qR nG oO pJ qO qQ : Nat -> Int32) (k1 k2 : Int32) (jD : Nat) (mLn oF rP dQ bZ aR aE bI aW fJ : Int32) (qG : Nat -> Int32) : Prop := vp_in k1 21 /\ (post 1 jD mLn oF rP dQ bZ aR aE bI aW fJ (upd qG k1.toNatClampNeg k2))
set_option maxHeartbeats 4000000 in
set_option maxRecDepth 100000 in
theorem ks_X10_act_193 (C0 : gc aDK (some .boolean) 4 zX (dC, dI) (tyl cI cC cZ cB cJ) A p s m args meth c) : ∀ (k1 k2 : Int32) (jD : Nat) (mLn oF rP dQ bZ aR aE bI aW fJ : Int32) (qG : Nat -> Int32) (H : Heap) (locs : List Loc) (ls : Array Slot), (ws_X10_act_193 post bT aG bW m_x gR pW qR nG oO pJ qO qQ) k1 k2 jD mLn oF rP dQ bZ aR aE bI aW fJ qG -> va_P (dC, dI) classes (aMw cI cC cZ cB cJ a_m nY sJ eG iY lY jR jW jZ jO oQ bR aY jQ gY iJ mQ lJ jA bG mK jB mW mJ eJ dG bT aG jC bL bY jD mLn oF rP dQ aJ aB bW bZ aR aE bI aW bU fJ dO bM bQ bO jY oX qG m_x gR pW qR nG oO pJ qO qQ) H -> va_D A (aMw cI cC cZ cB cJ a_m nY sJ eG iY lY jR jW jZ jO oQ bR aY jQ gY iJ mQ lJ jA bG mK jB mW mJ eJ dG bT aG jC bL bY jD mLn oF rP dQ aJ aB bW bZ aR aE bI aW bU fJ dO bM bQ bO jY oX qG m_x gR pW qR nG oO pJ qO qQ) -> va_S A s.heap H locs -> lv_has ls 4 [] -> W p l e rm_X10_act s m args below meth c H locs 0 0 (MQ below (q_X10_act dC dI cI cC cZ cB cJ A a_m nY sJ eG iY lY jR jW jZ jO oQ bR aY jQ gY iJ mQ lJ jA bG mK jB mW mJ eJ dG bT aG jC bL bY aJ aB bW bU dO bM bQ bO jY oX m_x gR pW qR nG oO pJ qO qQ post) args s 0 0 A) (F0 m 193 ls [.int k2, .int k1, .ref nY]) := by
  obtain ⟨hx, hb, hr, hml, hown, hts, hlocks, hA, hK, hN, tL, tM, hZL, hTL, hZM, hTM, hZX⟩ := id C0
  intro k1 k2 jD mLn oF rP dQ bZ aR aE bI aW fJ qG H locs ls hp hP hD hS hl
  unfold ws_X10_act_193 at hp
  have hin := hp.1
  have hp := hp.2
  refine va_iast hx hb hK hP hD hS 1 0 rfl rfl hin aVn.2.2.2.2.2.2.2.2.2.2.2.1 (fun H locs hP hD hS => ?_)
  have hPD := PDw (ws' := (aMw cI cC cZ cB cJ a_m nY sJ eG iY lY jR jW jZ jO oQ bR aY jQ gY iJ mQ lJ jA bG mK jB mW mJ eJ dG bT aG jC bL bY jD mLn oF rP dQ aJ aB bW bZ aR aE bI aW bU fJ dO bM bQ bO jY oX (upd qG k1.toNatClampNeg k2) m_x gR pW qR nG oO pJ qO qQ)) hP hD rfl
  have hP := hPD.1
  have hD := hPD.2
  refine lv_iconst (v := 1) hx hb aVn.2.2.2.2.2.2.2.2.2.2.2.2.1 aDx ?_
  exact W.zret (v := 1) hx hb hr rfl (fun t ht hW => ⟨⟨1, (jD, mLn, oF, rP, dQ, bZ, aR, aE, bI, aW, fJ, (upd qG k1.toNatClampNeg k2)), rfl, hp, by rw [ht]; exact hP, va_K.moved hW.alike hK, hD⟩, hS.F ht⟩) hS.2.2 aVn.2.2.2.2.2.2.2.2.2.2.2.2.2.1
def ws_X10_act_176 (post : Int32 -> Nat -> Int32 -> Int32 -> Int32 -> Int32 -> Int32 -> Int32 -> Int32 -> Int32 -> Int32 -> Int32 -> (Nat -> Int32) -> Prop) (bT aG bW : Int32) (m_x gR pW qR nG oO pJ qO qQ : Nat -> Int32) (x1 : Int32) (jD : Nat) (mLn oF rP dQ bZ aR aE bI aW fJ : Int32) (qG : Nat -> Int32) : Prop := (¬ x1 = 97 -> ws_X10_act_193 post bT aG bW m_x gR pW qR nG oO pJ qO qQ 18 0 jD mLn oF rP dQ bZ aR aE bI aW fJ qG) /\ (x1 = 97 -> ws_X10_act_193 post bT aG bW m_x gR pW qR nG oO pJ qO qQ 18 1 jD mLn oF rP dQ bZ aR aE bI aW fJ qG)
set_option maxHeartbeats 4000000 in
set_option maxRecDepth 100000 in
theorem ks_X10_act_176 (C0 : gc aDK (some .boolean) 4 zX (dC, dI) (tyl cI cC cZ cB cJ) A p s m args meth c) : ∀ (x1 : Int32) (jD : Nat) (mLn oF rP dQ bZ aR aE bI aW fJ : Int32) (qG : Nat -> Int32) (H : Heap) (locs : List Loc) (ls : Array Slot), (ws_X10_act_176 post bT aG bW m_x gR pW qR nG oO pJ qO qQ) x1 jD mLn oF rP dQ bZ aR aE bI aW fJ qG -> va_P (dC, dI) classes (aMw cI cC cZ cB cJ a_m nY sJ eG iY lY jR jW jZ jO oQ bR aY jQ gY iJ mQ lJ jA bG mK jB mW mJ eJ dG bT aG jC bL bY jD mLn oF rP dQ aJ aB bW bZ aR aE bI aW bU fJ dO bM bQ bO jY oX qG m_x gR pW qR nG oO pJ qO qQ) H -> va_D A (aMw cI cC cZ cB cJ a_m nY sJ eG iY lY jR jW jZ jO oQ bR aY jQ gY iJ mQ lJ jA bG mK jB mW mJ eJ dG bT aG jC bL bY jD mLn oF rP dQ aJ aB bW bZ aR aE bI aW bU fJ dO bM bQ bO jY oX qG m_x gR pW qR nG oO pJ qO qQ) -> va_S A s.heap H locs -> lv_has ls 4 [(0, .ref a_m), (1, .int x1)] -> W p l e rm_X10_act s m args below meth c H locs 0 0 (MQ below (q_X10_act dC dI cI cC cZ cB cJ A a_m nY sJ eG iY lY jR jW jZ jO oQ bR aY jQ gY iJ mQ lJ jA bG mK jB mW mJ eJ dG bT aG jC bL bY aJ aB bW bU dO bM bQ bO jY oX m_x gR pW qR nG oO pJ qO qQ post) args s 0 0 A) (F0 m 176 ls []) := by
  obtain ⟨hx, hb, hr, hml, hown, hts, hlocks, hA, hK, hN, tL, tM, hZL, hTL, hZM, hTM, hZX⟩ := id C0
  intro x1 jD mLn oF rP dQ bZ aR aE bI aW fJ qG H locs ls hp hP hD hS hl
  unfold ws_X10_act_176 at hp
  refine lv_aload_n hx hb aVn.2.2.1 rfl (lv_at hl 0 rfl) ?_
  refine va_get (D := (dC, dI)) (ci := 10) (v := .ref nY) (C := zX) (T := aBe) (N := 51) hx hb hts aAt hown hK hP 0 rfl rfl 0 (lbz rfl) (hts _ aHO) (fun _ h9 => h9) rfl aVn.2.2.2.1 ?_
  refine lv_bipush (v := 18) hx hb aVn.2.2.2.2.1 bp_18 ?_
  refine lv_iload_n hx hb aVn.2.2.2.2.2.1 rfl (lv_at hl 1 rfl) ?_
  refine lv_bipush (v := 97) hx hb aVn.2.2.2.2.2.2.1 bp_97 ?_
  refine lv_icmp_ne (tgt := 192) hx hb aVn.2.2.2.2.2.2.2.1 (by decide) (fun hc => ?_) (fun hc => ?_)
  · have hp := hp.1 hc
    refine lv_iconst (v := 0) hx hb aVn.2.2.2.2.2.2.2.2.2.2.1 aCi ?_
    exact ks_X10_act_193 C0 18 0 jD mLn oF rP dQ bZ aR aE bI aW fJ qG H locs ls hp hP hD hS (lv_sub hl [] rfl)
  · have hp := hp.2 hc
    refine lv_iconst (v := 1) hx hb aVn.2.2.2.2.2.2.2.2.1 aDx ?_
    refine lv_goto (tgt := 193) hx hb aVn.2.2.2.2.2.2.2.2.2.1 (by decide) ?_
    exact ks_X10_act_193 C0 18 1 jD mLn oF rP dQ bZ aR aE bI aW fJ qG H locs ls hp hP hD hS (lv_sub hl [] rfl)
def ws_X10_act_109 (post : Int32 -> Nat -> Int32 -> Int32 -> Int32 -> Int32 -> Int32 -> Int32 -> Int32 -> Int32 -> Int32 -> Int32 -> (Nat -> Int32) -> Prop) (bT aG bW : Int32) (m_x gR pW qR nG oO pJ qO qQ : Nat -> Int32) (x2 k0 : Int32) (jD : Nat) (mLn oF rP dQ bZ aR aE bI aW fJ : Int32) (qG : Nat -> Int32) : Prop := bBt (fun r_4 => (0 <= r_4 -> wp_X10_goPick (fun r_5 aYz aPQ m_top_8 aIj aEq aKS aHJ aFZ aH3 aHI m_now_16 => ∀ v_17 : Int32, v_17 = fJ + 1 -> post 1 aYz aPQ m_top_8 aIj aEq aKS aHJ aFZ aH3 aHI v_17 m_now_16) x2 k0 bT jD mLn oF rP dQ bW bZ aR aE bI aW qG m_x gR pW nG oO qO qQ) /\ (¬ 0 <= r_4 -> post 0 jD mLn oF rP dQ bZ aR aE bI aW fJ qG)) x2 k0 bT qG m_x gR qR nG oO pJ
set_option maxHeartbeats 4000000 in
set_option maxRecDepth 100000 in
theorem ks_X10_act_109 (C0 : gc aDK (some .boolean) 4 zX (dC, dI) (tyl cI cC cZ cB cJ) A p s m args meth c) : ∀ (x2 k0 : Int32) (jD : Nat) (mLn oF rP dQ bZ aR aE bI aW fJ : Int32) (qG : Nat -> Int32) (H : Heap) (locs : List Loc) (ls : Array Slot), (ws_X10_act_109 post bT aG bW m_x gR pW qR nG oO pJ qO qQ) x2 k0 jD mLn oF rP dQ bZ aR aE bI aW fJ qG -> va_P (dC, dI) classes (aMw cI cC cZ cB cJ a_m nY sJ eG iY lY jR jW jZ jO oQ bR aY jQ gY iJ mQ lJ jA bG mK jB mW mJ eJ dG bT aG jC bL bY jD mLn oF rP dQ aJ aB bW bZ aR aE bI aW bU fJ dO bM bQ bO jY oX qG m_x gR pW qR nG oO pJ qO qQ) H -> va_D A (aMw cI cC cZ cB cJ a_m nY sJ eG iY lY jR jW jZ jO oQ bR aY jQ gY iJ mQ lJ jA bG mK jB mW mJ eJ dG bT aG jC bL bY jD mLn oF rP dQ aJ aB bW bZ aR aE bI aW bU fJ dO bM bQ bO jY oX qG m_x gR pW qR nG oO pJ qO qQ) -> va_S A s.heap H locs -> lv_has ls 4 [(0, .ref a_m), (2, .int x2)] -> W p l e rm_X10_act s m args below meth c H locs 0 0 (MQ below (q_X10_act dC dI cI cC cZ cB cJ A a_m nY sJ eG iY lY jR jW jZ jO oQ bR aY jQ gY iJ mQ lJ jA bG mK jB mW mJ eJ dG bT aG jC bL bY aJ aB bW bU dO bM bQ bO jY oX m_x gR pW qR nG oO pJ qO qQ post) args s 0 0 A) (F0 m 109 ls [.int k0]) := by
  obtain ⟨hx, hb, hr, hml, hown, hts, hlocks, hA, hK, hN, tL, tM, hZL, hTL, hZM, hTM, hZX⟩ := id C0
  intro x2 k0 jD mLn oF rP dQ bZ aR aE bI aW fJ qG H locs ls hp hP hD hS hl
  unfold ws_X10_act_109 at hp
  refine lv_istore_n (lv' := [(3, .int k0), (0, .ref a_m), (2, .int x2)]) hx hb aZ7.2.2.2.2.2.2.1 rfl hl (by decide) rfl (fun ls hl => ?_)
  refine lv_aload_n hx hb aZ7.2.2.2.2.2.2.2.1 rfl (lv_at hl 1 rfl) ?_
  refine lv_iload_n hx hb aZ7.2.2.2.2.2.2.2.2.1 rfl (lv_at hl 2 rfl) ?_
  refine lv_iload_n hx hb aZ7.2.2.2.2.2.2.2.2.2.1 rfl (lv_at hl 0 rfl) ?_
  have hm := mgk (wc := (aNW cI cC cZ cB cJ a_m nY sJ eG iY lY jR jW jZ jO oQ bR aY jQ gY iJ mQ lJ jA bG mK jB mW mJ eJ dG bT aG jC bL bY jD mLn oF rP dQ aJ aB bW bZ aR aE bI aW bU fJ dO bM bQ bO jY oX qG m_x gR qR nG oO pJ)) hP mk_228 11 rfl rfl rfl
  refine yW hP hD hS hA (yS mk_228) (aAi mk_228) hm.1 hm.2 (aAk _) (zW _) (zF (As := [.int x2, .int k0]) (rest := []) C0 hP hD hS (yS mk_228) hm.1 (aAl _) 0 10 rfl rfl (c_X10_refusesPick l dC dI cI cC cZ cB cJ a_m nY sJ eG iY lY jR jW jZ jO oQ bR aY jQ gY iJ mQ lJ jA bG mK jB mW mJ eJ dG H.size x2 k0 bT aG jC bL bY jD mLn oF rP dQ aJ aB bW bZ aR aE bI aW bU fJ dO bM bQ bO jY oX qG m_x gR qR nG oO pJ _ hp) q_808 q_811 q_809 q_810 aBL h_X10_refusesPick rfl rfl ⟨lbz rfl, lbz rfl⟩ rfl rfl hl.1 rfl (lv_room (lbz rfl)) aZ7.2.2.2.2.2.2.2.2.2.2.1 ⟨Nat.zero_le _, Nat.zero_le _⟩) (fun r_4 u H locs hp hP hD hS => ?_)
  have hPD := PDm (ws' := (aMw cI cC cZ cB cJ a_m nY sJ eG iY lY jR jW jZ jO oQ bR aY jQ gY iJ mQ lJ jA bG mK jB mW mJ eJ dG bT aG jC bL bY jD mLn oF rP dQ aJ aB bW bZ aR aE bI aW bU fJ dO bM bQ bO jY oX qG m_x gR pW qR nG oO pJ qO qQ)) hP hD 11 rfl rfl rfl
  have hP := hPD.1
  have hD := hPD.2
  refine lv_if_ge (tgt := 121) hx hb aZ7.2.2.2.2.2.2.2.2.2.2.2.1 (by decide) (fun hc => ?_) (fun hc => ?_)
  · have hp := hp.1 hc
    refine lv_aload_n hx hb aZ7.2.2.2.2.2.2.2.2.2.2.2.2.2.2.1 rfl (lv_at hl 1 rfl) ?_
    refine lv_iload_n hx hb aZ7.2.2.2.2.2.2.2.2.2.2.2.2.2.2.2 rfl (lv_at hl 2 rfl) ?_
    refine lv_iload_n hx hb aVl.1 rfl (lv_at hl 0 rfl) ?_
    have hm := mgk (wc := (aRU cI cC cZ cB cJ a_m nY sJ eG iY lY jR jW jZ jO oQ bR aY jQ gY iJ mQ lJ jA bG mK jB mW mJ eJ dG bT aG jC bL bY jD mLn oF rP dQ aJ aB bW bZ aR aE bI aW bU fJ dO bM bQ bO jY oX qG m_x gR pW nG oO qO qQ)) hP mk_229 11 rfl rfl rfl
    refine yW hP hD hS hA (yS mk_229) (aAi mk_229) hm.1 hm.2 (aAk _) (zW _) (zF (As := [.int x2, .int k0]) (rest := []) C0 hP hD hS (yS mk_229) hm.1 (aAl _) 0 10 rfl rfl (c_X10_goPick l dC dI cI cC cZ cB cJ a_m nY sJ eG iY lY jR jW jZ jO oQ bR aY jQ gY iJ mQ lJ jA bG mK jB mW mJ eJ dG H.size x2 k0 bT aG jC bL bY jD mLn oF rP dQ aJ aB bW bZ aR aE bI aW bU fJ dO bM bQ bO jY oX qG m_x gR pW nG oO qO qQ _ hp) q_812 q_815 q_813 q_814 aBL h_X10_goPick rfl rfl ⟨lbz rfl, lbz rfl⟩ rfl rfl hl.1 rfl (lv_room (lbz rfl)) aVl.2.1 ⟨Nat.zero_le _, Nat.zero_le _⟩) (fun r_5 u H locs hp hP hD hS => ?_)
    obtain ⟨aYz, aPQ, m_top_8, aIj, aEq, aKS, aHJ, aFZ, aH3, aHI, m_now_16⟩ := u
    have hPD := PDm (ws' := (aMw cI cC cZ cB cJ a_m nY sJ eG iY lY jR jW jZ jO oQ bR aY jQ gY iJ mQ lJ jA bG mK jB mW mJ eJ dG bT aG jC bL bY aYz aPQ m_top_8 aIj aEq aJ aB bW aKS aHJ aFZ aH3 aHI bU fJ dO bM bQ bO jY oX m_now_16 m_x gR pW qR nG oO pJ qO qQ)) hP hD 11 rfl rfl rfl
    have hP := hPD.1
    have hD := hPD.2
    refine lv_pop hx hb aVl.2.2.1 rfl ?_
    refine lv_aload_n hx hb aVl.2.2.2.1 rfl (lv_at hl 1 rfl) ?_
    refine lv_dup hx hb aVl.2.2.2.2.1 rfl ?_
    refine va_get (D := (dC, dI)) (ci := 10) (v := .int fJ) (C := zX) (T := aBe) (N := 51) hx hb hts aAt hown hK hP 0 rfl rfl 35 (lbz rfl) (hts _ q_845) (fun _ h9 => h9) rfl aVl.2.2.2.2.2.1 ?_
    refine lv_iconst (v := 1) hx hb aVl.2.2.2.2.2.2.1 aDx ?_
    refine lv_iadd hx hb aVl.2.2.2.2.2.2.2.1 ?_
    refine lv_topi (fun v_17 ev_17 => ?_)
    have hp := hp v_17 ev_17
    refine va_put (D := (dC, dI)) (ci := 10) (v := .int v_17) (ty := .int) (C := zX) (T := aBe) (N := 51) hx hb hts aAt aD2 aAa aEC hown hK hP hD hS 0 rfl rfl 35 (lbz rfl) (hts _ q_845) (fun _ h9 => h9) rfl (aAa 35 (lbz rfl)) rfl rfl (lbz rfl) aVl.2.2.2.2.2.2.2.2.1 (fun H locs hP hD hS => ?_)
    have hPD := PDw (ws' := (aMw cI cC cZ cB cJ a_m nY sJ eG iY lY jR jW jZ jO oQ bR aY jQ gY iJ mQ lJ jA bG mK jB mW mJ eJ dG bT aG jC bL bY aYz aPQ m_top_8 aIj aEq aJ aB bW aKS aHJ aFZ aH3 aHI bU v_17 dO bM bQ bO jY oX m_now_16 m_x gR pW qR nG oO pJ qO qQ)) hP hD rfl
    have hP := hPD.1
    have hD := hPD.2
    refine lv_iconst (v := 1) hx hb aVl.2.2.2.2.2.2.2.2.2.1 aDx ?_
    exact W.zret (v := 1) hx hb hr rfl (fun t ht hW => ⟨⟨1, (aYz, aPQ, m_top_8, aIj, aEq, aKS, aHJ, aFZ, aH3, aHI, v_17, m_now_16), rfl, hp, by rw [ht]; exact hP, va_K.moved hW.alike hK, hD⟩, hS.F ht⟩) hS.2.2 aVl.2.2.2.2.2.2.2.2.2.2.1
  · have hp := hp.2 hc
    refine lv_iconst (v := 0) hx hb aZ7.2.2.2.2.2.2.2.2.2.2.2.2.1 aCi ?_
    exact W.zret (v := 0) hx hb hr rfl (fun t ht hW => ⟨⟨0, (jD, mLn, oF, rP, dQ, bZ, aR, aE, bI, aW, fJ, qG), rfl, hp, by rw [ht]; exact hP, va_K.moved hW.alike hK, hD⟩, hS.F ht⟩) hS.2.2 aZ7.2.2.2.2.2.2.2.2.2.2.2.2.2.1
def ws_X10_act_98 (post : Int32 -> Nat -> Int32 -> Int32 -> Int32 -> Int32 -> Int32 -> Int32 -> Int32 -> Int32 -> Int32 -> Int32 -> (Nat -> Int32) -> Prop) (bT aG bW : Int32) (m_x gR pW qR nG oO pJ qO qQ : Nat -> Int32) (x1 x2 : Int32) (jD : Nat) (mLn oF rP dQ bZ aR aE bI aW fJ : Int32) (qG : Nat -> Int32) : Prop := (¬ x1 = 104 -> ws_X10_act_109 post bT aG bW m_x gR pW qR nG oO pJ qO qQ x2 0 jD mLn oF rP dQ bZ aR aE bI aW fJ qG) /\ (x1 = 104 -> ws_X10_act_109 post bT aG bW m_x gR pW qR nG oO pJ qO qQ x2 1 jD mLn oF rP dQ bZ aR aE bI aW fJ qG)
set_option maxHeartbeats 4000000 in
set_option maxRecDepth 100000 in
theorem ks_X10_act_98 (C0 : gc aDK (some .boolean) 4 zX (dC, dI) (tyl cI cC cZ cB cJ) A p s m args meth c) : ∀ (x1 x2 : Int32) (jD : Nat) (mLn oF rP dQ bZ aR aE bI aW fJ : Int32) (qG : Nat -> Int32) (H : Heap) (locs : List Loc) (ls : Array Slot), (ws_X10_act_98 post bT aG bW m_x gR pW qR nG oO pJ qO qQ) x1 x2 jD mLn oF rP dQ bZ aR aE bI aW fJ qG -> va_P (dC, dI) classes (aMw cI cC cZ cB cJ a_m nY sJ eG iY lY jR jW jZ jO oQ bR aY jQ gY iJ mQ lJ jA bG mK jB mW mJ eJ dG bT aG jC bL bY jD mLn oF rP dQ aJ aB bW bZ aR aE bI aW bU fJ dO bM bQ bO jY oX qG m_x gR pW qR nG oO pJ qO qQ) H -> va_D A (aMw cI cC cZ cB cJ a_m nY sJ eG iY lY jR jW jZ jO oQ bR aY jQ gY iJ mQ lJ jA bG mK jB mW mJ eJ dG bT aG jC bL bY jD mLn oF rP dQ aJ aB bW bZ aR aE bI aW bU fJ dO bM bQ bO jY oX qG m_x gR pW qR nG oO pJ qO qQ) -> va_S A s.heap H locs -> lv_has ls 4 [(0, .ref a_m), (1, .int x1), (2, .int x2)] -> W p l e rm_X10_act s m args below meth c H locs 0 0 (MQ below (q_X10_act dC dI cI cC cZ cB cJ A a_m nY sJ eG iY lY jR jW jZ jO oQ bR aY jQ gY iJ mQ lJ jA bG mK jB mW mJ eJ dG bT aG jC bL bY aJ aB bW bU dO bM bQ bO jY oX m_x gR pW qR nG oO pJ qO qQ post) args s 0 0 A) (F0 m 98 ls []) := by
  obtain ⟨hx, hb, hr, hml, hown, hts, hlocks, hA, hK, hN, tL, tM, hZL, hTL, hZM, hTM, hZX⟩ := id C0
  intro x1 x2 jD mLn oF rP dQ bZ aR aE bI aW fJ qG H locs ls hp hP hD hS hl
  unfold ws_X10_act_98 at hp
  refine lv_iload_n hx hb aZ7.1 rfl (lv_at hl 1 rfl) ?_
  refine lv_bipush (v := 104) hx hb aZ7.2.1 bp_104 ?_
  refine lv_icmp_ne (tgt := 108) hx hb aZ7.2.2.1 (by decide) (fun hc => ?_) (fun hc => ?_)
  · have hp := hp.1 hc
    refine lv_iconst (v := 0) hx hb aZ7.2.2.2.2.2.1 aCi ?_
    exact ks_X10_act_109 C0 x2 0 jD mLn oF rP dQ bZ aR aE bI aW fJ qG H locs ls hp hP hD hS (lv_sub hl [0, 2] rfl)
  · have hp := hp.2 hc
    refine lv_iconst (v := 1) hx hb aZ7.2.2.2.1 aDx ?_
    refine lv_goto (tgt := 109) hx hb aZ7.2.2.2.2.1 (by decide) ?_
    exact ks_X10_act_109 C0 x2 1 jD mLn oF rP dQ bZ aR aE bI aW fJ qG H locs ls hp hP hD hS (lv_sub hl [0, 2] rfl)
def ws_X10_act_196 (post : Int32 -> Nat -> Int32 -> Int32 -> Int32 -> Int32 -> Int32 -> Int32 -> Int32 -> Int32 -> Int32 -> Int32 -> (Nat -> Int32) -> Prop) (bT aG bW : Int32) (m_x gR pW qR nG oO pJ qO qQ : Nat -> Int32) (jD : Nat) (mLn oF rP dQ bZ aR aE bI aW fJ : Int32) (qG : Nat -> Int32) : Prop := ∀ v_24 : Int32, v_24 = qG (19 : Int32).toNatClampNeg -> (¬ v_24 = 9 -> wp_X10_goSleep (fun r_25 m_now_26 => post 1 jD mLn oF rP dQ bZ aR aE bI aW fJ m_now_26) bT qG) /\ (v_24 = 9 -> post 0 jD mLn oF rP dQ bZ aR aE bI aW fJ qG)
set_option maxHeartbeats 4000000 in
set_option maxRecDepth 100000 in
theorem ks_X10_act_196 (C0 : gc aDK (some .boolean) 4 zX (dC, dI) (tyl cI cC cZ cB cJ) A p s m args meth c) : ∀ (jD : Nat) (mLn oF rP dQ bZ aR aE bI aW fJ : Int32) (qG : Nat -> Int32) (H : Heap) (locs : List Loc) (ls : Array Slot), (ws_X10_act_196 post bT aG bW m_x gR pW qR nG oO pJ qO qQ) jD mLn oF rP dQ bZ aR aE bI aW fJ qG -> va_P (dC, dI) classes (aMw cI cC cZ cB cJ a_m nY sJ eG iY lY jR jW jZ jO oQ bR aY jQ gY iJ mQ lJ jA bG mK jB mW mJ eJ dG bT aG jC bL bY jD mLn oF rP dQ aJ aB bW bZ aR aE bI aW bU fJ dO bM bQ bO jY oX qG m_x gR pW qR nG oO pJ qO qQ) H -> va_D A (aMw cI cC cZ cB cJ a_m nY sJ eG iY lY jR jW jZ jO oQ bR aY jQ gY iJ mQ lJ jA bG mK jB mW mJ eJ dG bT aG jC bL bY jD mLn oF rP dQ aJ aB bW bZ aR aE bI aW bU fJ dO bM bQ bO jY oX qG m_x gR pW qR nG oO pJ qO qQ) -> va_S A s.heap H locs -> lv_has ls 4 [(0, .ref a_m)] -> W p l e rm_X10_act s m args below meth c H locs 0 0 (MQ below (q_X10_act dC dI cI cC cZ cB cJ A a_m nY sJ eG iY lY jR jW jZ jO oQ bR aY jQ gY iJ mQ lJ jA bG mK jB mW mJ eJ dG bT aG jC bL bY aJ aB bW bU dO bM bQ bO jY oX m_x gR pW qR nG oO pJ qO qQ post) args s 0 0 A) (F0 m 196 ls []) := by
  obtain ⟨hx, hb, hr, hml, hown, hts, hlocks, hA, hK, hN, tL, tM, hZL, hTL, hZM, hTM, hZX⟩ := id C0
  intro jD mLn oF rP dQ bZ aR aE bI aW fJ qG H locs ls hp hP hD hS hl
  unfold ws_X10_act_196 at hp
  refine lv_aload_n hx hb aVn.2.2.2.2.2.2.2.2.2.2.2.2.2.2.1 rfl (lv_at hl 0 rfl) ?_
  refine va_get (D := (dC, dI)) (ci := 10) (v := .ref nY) (C := zX) (T := aBe) (N := 51) hx hb hts aAt hown hK hP 0 rfl rfl 0 (lbz rfl) (hts _ aHO) (fun _ h9 => h9) rfl aVn.2.2.2.2.2.2.2.2.2.2.2.2.2.2.2 ?_
  refine lv_bipush (v := 19) hx hb eX10_act_200.1 bp_19 ?_
  refine va_iald hx hb hK hP 1 0 rfl rfl (g_in rfl) eX10_act_200.2.1 ?_
  refine lv_topi (fun v_24 ev_24 => ?_)
  have hp := hp v_24 ev_24
  refine lv_bipush (v := 9) hx hb eX10_act_200.2.2.1 bp_9 ?_
  refine lv_icmp_ne (tgt := 210) hx hb eX10_act_200.2.2.2.1 (by decide) (fun hc => ?_) (fun hc => ?_)
  · have hp := hp.1 hc
    refine lv_aload_n hx hb eX10_act_200.2.2.2.2.2.2.1 rfl (lv_at hl 0 rfl) ?_
    have hm := mgk (wc := (aU2 cI cC cZ cB cJ a_m nY sJ eG iY lY jR jW jZ jO oQ bR aY jQ gY iJ mQ lJ jA bG mK jB mW mJ eJ dG bT aG jC bL bY jD mLn oF rP dQ aJ aB bW bZ aR aE bI aW bU fJ dO bM bQ bO jY oX qG)) hP mk_230 11 rfl rfl rfl
    refine yW hP hD hS hA (yS mk_230) (aAi mk_230) hm.1 hm.2 (aAk _) (zW _) (zF (As := []) (rest := []) C0 hP hD hS (yS mk_230) hm.1 (aAl _) 0 10 rfl rfl (c_X10_goSleep l dC dI cI cC cZ cB cJ a_m nY sJ eG iY lY jR jW jZ jO oQ bR aY jQ gY iJ mQ lJ jA bG mK jB mW mJ eJ dG H.size bT aG jC bL bY jD mLn oF rP dQ aJ aB bW bZ aR aE bI aW bU fJ dO bM bQ bO jY oX qG _ hp) q_840 q_843 q_841 q_842 aBL h_X10_goSleep rfl rfl ⟨lbz rfl, lbz rfl⟩ rfl rfl hl.1 rfl (lv_room (lbz rfl)) eX10_act_200.2.2.2.2.2.2.2.1 ⟨Nat.zero_le _, Nat.zero_le _⟩) (fun r_25 u H locs hp hP hD hS => ?_)
    obtain ⟨m_now_26, rfl⟩ : ∃ z, z = u := ⟨_, rfl⟩
    have hPD := PDm (ws' := (aMw cI cC cZ cB cJ a_m nY sJ eG iY lY jR jW jZ jO oQ bR aY jQ gY iJ mQ lJ jA bG mK jB mW mJ eJ dG bT aG jC bL bY jD mLn oF rP dQ aJ aB bW bZ aR aE bI aW bU fJ dO bM bQ bO jY oX m_now_26 m_x gR pW qR nG oO pJ qO qQ)) hP hD 11 rfl rfl rfl
    have hP := hPD.1
    have hD := hPD.2
    refine lv_pop hx hb eX10_act_200.2.2.2.2.2.2.2.2.1 rfl ?_
    refine lv_iconst (v := 1) hx hb eX10_act_200.2.2.2.2.2.2.2.2.2.1 aDx ?_
    exact W.zret (v := 1) hx hb hr rfl (fun t ht hW => ⟨⟨1, (jD, mLn, oF, rP, dQ, bZ, aR, aE, bI, aW, fJ, m_now_26), rfl, hp, by rw [ht]; exact hP, va_K.moved hW.alike hK, hD⟩, hS.F ht⟩) hS.2.2 eX10_act_200.2.2.2.2.2.2.2.2.2.2
  · have hp := hp.2 hc
    refine lv_iconst (v := 0) hx hb eX10_act_200.2.2.2.2.1 aCi ?_
    exact W.zret (v := 0) hx hb hr rfl (fun t ht hW => ⟨⟨0, (jD, mLn, oF, rP, dQ, bZ, aR, aE, bI, aW, fJ, qG), rfl, hp, by rw [ht]; exact hP, va_K.moved hW.alike hK, hD⟩, hS.F ht⟩) hS.2.2 eX10_act_200.2.2.2.2.2.1
end S_X10_act
def aVD (post : Int32 -> Nat -> Int32 -> Int32 -> Int32 -> Int32 -> Int32 -> Int32 -> Int32 -> Int32 -> Int32 -> Int32 -> (Nat -> Int32) -> Prop) (p0 p1 bT aG : Int32) (jD : Nat) (mLn oF rP dQ bW bZ aR aE bI aW fJ : Int32) (qG m_x gR pW qR nG oO pJ qO qQ : Nat -> Int32) : Prop := (p0 = 97 -> ws_X10_act_176 post bT aG bW m_x gR pW qR nG oO pJ qO qQ p0 jD mLn oF rP dQ bZ aR aE bI aW fJ qG) /\ (p0 = 100 -> wp_X10_canDown (fun r_1 => (¬ r_1 = 0 -> wp_X10_goDown (fun r_2 m_now_3 => post 1 jD mLn oF rP dQ bZ aR aE bI aW fJ m_now_3) bT qG oO) /\ (r_1 = 0 -> post 0 jD mLn oF rP dQ bZ aR aE bI aW fJ qG)) bT qG) /\ (p0 = 104 -> ws_X10_act_98 post bT aG bW m_x gR pW qR nG oO pJ qO qQ p0 p1 jD mLn oF rP dQ bZ aR aE bI aW fJ qG) /\ (p0 = 107 -> ∀ v_18 : Int32, v_18 = qG (17 : Int32).toNatClampNeg -> (¬ v_18 = (-1) -> wp_X10_goShake (fun r_19 m_now_20 => post 1 jD mLn oF rP dQ bZ aR aE bI aW fJ m_now_20) bT qG m_x gR qR nG oO pJ) /\ (v_18 = (-1) -> post 0 jD mLn oF rP dQ bZ aR aE bI aW fJ qG)) /\ (p0 = 109 -> bBs (fun r_21 => (0 <= r_21 -> wp_X10_goMove (fun r_22 m_now_23 => post 1 jD mLn oF rP dQ bZ aR aE bI aW fJ m_now_23) p1 bT qG nG oO pJ) /\ (¬ 0 <= r_21 -> post 0 jD mLn oF rP dQ bZ aR aE bI aW fJ qG)) p1 aG qG) /\ (p0 = 111 -> ws_X10_act_176 post bT aG bW m_x gR pW qR nG oO pJ qO qQ p0 jD mLn oF rP dQ bZ aR aE bI aW fJ qG) /\ (p0 = 112 -> ws_X10_act_98 post bT aG bW m_x gR pW qR nG oO pJ qO qQ p0 p1 jD mLn oF rP dQ bZ aR aE bI aW fJ qG) /\ (¬ p0 = 97 -> ¬ p0 = 100 -> ¬ p0 = 104 -> ¬ p0 = 107 -> ¬ p0 = 109 -> ¬ p0 = 111 -> ¬ p0 = 112 -> ws_X10_act_196 post bT aG bW m_x gR pW qR nG oO pJ qO qQ jD mLn oF rP dQ bZ aR aE bI aW fJ qG)
set_option maxHeartbeats 4000000 in
set_option maxRecDepth 100000 in
theorem c_X10_act (l : Launch) (dC : Nat -> ClassId) (dI : Nat -> Nat -> Nat) (cI cC cZ cB cJ : ClassId) (a_m nY sJ eG iY lY jR jW jZ jO oQ bR aY jQ gY iJ mQ lJ jA bG mK jB mW mJ eJ dG sz : Nat) (p0 p1 bT aG jC bL bY : Int32) (jD : Nat) (mLn oF rP dQ aJ aB bW bZ aR aE bI aW bU fJ dO bM bQ bO jY oX : Int32) (qG m_x gR pW qR nG oO pJ qO qQ : Nat -> Int32) (post : Int32 -> Nat -> Int32 -> Int32 -> Int32 -> Int32 -> Int32 -> Int32 -> Int32 -> Int32 -> Int32 -> Int32 -> (Nat -> Int32) -> Prop) (hw : aVD post p0 p1 bT aG jD mLn oF rP dQ bW bZ aR aE bI aW fJ qG m_x gR pW qR nG oO pJ qO qQ) : Met l yX10_act (gw yX10_act aDK 4 (some .boolean)) rm_X10_act (va_Pc [.ref a_m, .int p0, .int p1] (gPre (dC, dI) (tyl cI cC cZ cB cJ) (aMw cI cC cZ cB cJ a_m nY sJ eG iY lY jR jW jZ jO oQ bR aY jQ gY iJ mQ lJ jA bG mK jB mW mJ eJ dG bT aG jC bL bY jD mLn oF rP dQ aJ aB bW bZ aR aE bI aW bU fJ dO bM bQ bO jY oX qG m_x gR pW qR nG oO pJ qO qQ) sz)) (q_X10_act dC dI cI cC cZ cB cJ (va_A (aMw cI cC cZ cB cJ a_m nY sJ eG iY lY jR jW jZ jO oQ bR aY jQ gY iJ mQ lJ jA bG mK jB mW mJ eJ dG bT aG jC bL bY jD mLn oF rP dQ aJ aB bW bZ aR aE bI aW bU fJ dO bM bQ bO jY oX qG m_x gR pW qR nG oO pJ qO qQ) sz) a_m nY sJ eG iY lY jR jW jZ jO oQ bR aY jQ gY iJ mQ lJ jA bG mK jB mW mJ eJ dG bT aG jC bL bY aJ aB bW bU dO bM bQ bO jY oX m_x gR pW qR nG oO pJ qO qQ post) 0 0 (va_A (aMw cI cC cZ cB cJ a_m nY sJ eG iY lY jR jW jZ jO oQ bR aY jQ gY iJ mQ lJ jA bG mK jB mW mJ eJ dG bT aG jC bL bY jD mLn oF rP dQ aJ aB bW bZ aR aE bI aW bU fJ dO bM bQ bO jY oX qG m_x gR pW qR nG oO pJ qO qQ) sz) := by
  refine aBJ (own := zX) (dC, dI) (tyl cI cC cZ cB cJ) (aMw cI cC cZ cB cJ a_m nY sJ eG iY lY jR jW jZ jO oQ bR aY jQ gY iJ mQ lJ jA bG mK jB mW mJ eJ dG bT aG jC bL bY jD mLn oF rP dQ aJ aB bW bZ aR aE bI aW bU fJ dO bM bQ bO jY oX qG m_x gR pW qR nG oO pJ qO qQ) sz [.ref a_m, .int p0, .int p1] (fun A => q_X10_act dC dI cI cC cZ cB cJ A a_m nY sJ eG iY lY jR jW jZ jO oQ bR aY jQ gY iJ mQ lJ jA bG mK jB mW mJ eJ dG bT aG jC bL bY aJ aB bW bU dO bM bQ bO jY oX m_x gR pW qR nG oO pJ qO qQ post) aFY rfl (lbz rfl) ?_
  intro p e s m args below meth c A H locs ls C0 hP hD hS hl
  have hl : lv_has ls 4 [(0, .ref a_m), (1, .int p0), (2, .int p1)] := hl
  obtain ⟨hx, hb, hr, hml, hown, hts, hlocks, hA, hK, hN, tL, tM, hZL, hTL, hZM, hTM, hZX⟩ := id C0
  have hp := hw
  unfold aVD at hp
  refine lv_iload_n hx hb aLV.1 rfl (lv_at hl 1 rfl) ?_
  by_cases hc0 : p0 = 97
  · have hp := hp.1 hc0
    refine lv_tableIn (tgt := 176) hx hb aLV.2.1 (by first | (rw [hc0]; done) | (rw [hc0]; decide)) (by first | (rw [hc0]; done) | (rw [hc0]; decide)) (by first | (rw [hc0]; done) | (rw [hc0]; rfl)) (by decide) ?_
    exact ks_X10_act_176 C0 p0 jD mLn oF rP dQ bZ aR aE bI aW fJ qG H locs ls hp hP hD hS (lv_sub hl [0, 1] rfl)
  by_cases hc1 : p0 = 100
  · have hp := hp.2.1 hc1
    refine lv_tableIn (tgt := 140) hx hb aLV.2.1 (by first | (rw [hc1]; done) | (rw [hc1]; decide)) (by first | (rw [hc1]; done) | (rw [hc1]; decide)) (by first | (rw [hc1]; done) | (rw [hc1]; rfl)) (by decide) ?_
    refine lv_aload_n hx hb aVl.2.2.2.2.2.2.2.2.2.2.2.1 rfl (lv_at hl 0 rfl) ?_
    have hm := mgk (wc := (wd_X10_canDown cI cC cZ cB cJ a_m nY sJ eG iY lY jR jW jZ jO oQ bR aY jQ gY iJ mQ lJ jA bG mK jB mW mJ eJ dG bT aG jC bL bY jD mLn oF rP dQ aJ aB bW bZ aR aE bI aW bU fJ dO bM bQ bO jY oX qG)) hP mk_230 11 rfl rfl rfl
    refine yW hP hD hS hA (yS mk_230) (aAi mk_230) hm.1 hm.2 (aAk _) (zW _) (zF (As := []) (rest := []) C0 hP hD hS (yS mk_230) hm.1 (aAl _) 0 10 rfl rfl (c_X10_canDown l dC dI cI cC cZ cB cJ a_m nY sJ eG iY lY jR jW jZ jO oQ bR aY jQ gY iJ mQ lJ jA bG mK jB mW mJ eJ dG H.size bT aG jC bL bY jD mLn oF rP dQ aJ aB bW bZ aR aE bI aW bU fJ dO bM bQ bO jY oX qG _ hp) q_816 q_819 q_817 q_818 aBL h_X10_canDown rfl rfl ⟨lbz rfl, lbz rfl⟩ rfl rfl hl.1 rfl (lv_room (lbz rfl)) aVl.2.2.2.2.2.2.2.2.2.2.2.2.1 ⟨Nat.zero_le _, Nat.zero_le _⟩) (fun r_1 u H locs hp hP hD hS => ?_)
    have hPD := PDm (ws' := (aMw cI cC cZ cB cJ a_m nY sJ eG iY lY jR jW jZ jO oQ bR aY jQ gY iJ mQ lJ jA bG mK jB mW mJ eJ dG bT aG jC bL bY jD mLn oF rP dQ aJ aB bW bZ aR aE bI aW bU fJ dO bM bQ bO jY oX qG m_x gR pW qR nG oO pJ qO qQ)) hP hD 11 rfl rfl rfl
    have hP := hPD.1
    have hD := hPD.2
    refine lv_if_ne (tgt := 149) hx hb aVl.2.2.2.2.2.2.2.2.2.2.2.2.2.1 (by decide) (fun hc => ?_) (fun hc => ?_)
    · have hp := hp.1 hc
      refine lv_aload_n hx hb aVm.1 rfl (lv_at hl 0 rfl) ?_
      have hm := mgk (wc := (wd_X10_goDown cI cC cZ cB cJ a_m nY sJ eG iY lY jR jW jZ jO oQ bR aY jQ gY iJ mQ lJ jA bG mK jB mW mJ eJ dG bT aG jC bL bY jD mLn oF rP dQ aJ aB bW bZ aR aE bI aW bU fJ dO bM bQ bO jY oX qG oO)) hP mk_231 11 rfl rfl rfl
      refine yW hP hD hS hA (yS mk_231) (aAi mk_231) hm.1 hm.2 (aAk _) (zW _) (zF (As := []) (rest := []) C0 hP hD hS (yS mk_231) hm.1 (aAl _) 0 10 rfl rfl (c_X10_goDown l dC dI cI cC cZ cB cJ a_m nY sJ eG iY lY jR jW jZ jO oQ bR aY jQ gY iJ mQ lJ jA bG mK jB mW mJ eJ dG H.size bT aG jC bL bY jD mLn oF rP dQ aJ aB bW bZ aR aE bI aW bU fJ dO bM bQ bO jY oX qG oO _ hp) q_820 q_823 q_821 q_822 aBL h_X10_goDown rfl rfl ⟨lbz rfl, lbz rfl⟩ rfl rfl hl.1 rfl (lv_room (lbz rfl)) aVm.2.1 ⟨Nat.zero_le _, Nat.zero_le _⟩) (fun r_2 u H locs hp hP hD hS => ?_)
      obtain ⟨m_now_3, rfl⟩ : ∃ z, z = u := ⟨_, rfl⟩
      have hPD := PDm (ws' := (aMw cI cC cZ cB cJ a_m nY sJ eG iY lY jR jW jZ jO oQ bR aY jQ gY iJ mQ lJ jA bG mK jB mW mJ eJ dG bT aG jC bL bY jD mLn oF rP dQ aJ aB bW bZ aR aE bI aW bU fJ dO bM bQ bO jY oX m_now_3 m_x gR pW qR nG oO pJ qO qQ)) hP hD 11 rfl rfl rfl
      have hP := hPD.1
      have hD := hPD.2
      refine lv_pop hx hb aVm.2.2.1 rfl ?_
      refine lv_iconst (v := 1) hx hb aVm.2.2.2.1 aDx ?_
      exact W.zret (v := 1) hx hb hr rfl (fun t ht hW => ⟨⟨1, (jD, mLn, oF, rP, dQ, bZ, aR, aE, bI, aW, fJ, m_now_3), rfl, hp, by rw [ht]; exact hP, va_K.moved hW.alike hK, hD⟩, hS.F ht⟩) hS.2.2 aVm.2.2.2.2.1
    · have hp := hp.2 hc
      refine lv_iconst (v := 0) hx hb aVl.2.2.2.2.2.2.2.2.2.2.2.2.2.2.1 aCi ?_
      exact W.zret (v := 0) hx hb hr rfl (fun t ht hW => ⟨⟨0, (jD, mLn, oF, rP, dQ, bZ, aR, aE, bI, aW, fJ, qG), rfl, hp, by rw [ht]; exact hP, va_K.moved hW.alike hK, hD⟩, hS.F ht⟩) hS.2.2 aVl.2.2.2.2.2.2.2.2.2.2.2.2.2.2.2
  by_cases hc2 : p0 = 104
  · have hp := hp.2.2.1 hc2
    refine lv_tableIn (tgt := 98) hx hb aLV.2.1 (by first | (rw [hc2]; done) | (rw [hc2]; decide)) (by first | (rw [hc2]; done) | (rw [hc2]; decide)) (by first | (rw [hc2]; done) | (rw [hc2]; rfl)) (by decide) ?_
    exact ks_X10_act_98 C0 p0 p1 jD mLn oF rP dQ bZ aR aE bI aW fJ qG H locs ls hp hP hD hS (lv_sub hl [0, 1, 2] rfl)
  by_cases hc3 : p0 = 107
  · have hp := hp.2.2.2.1 hc3
    refine lv_tableIn (tgt := 156) hx hb aLV.2.1 (by first | (rw [hc3]; done) | (rw [hc3]; decide)) (by first | (rw [hc3]; done) | (rw [hc3]; decide)) (by first | (rw [hc3]; done) | (rw [hc3]; rfl)) (by decide) ?_
    refine lv_aload_n hx hb aVm.2.2.2.2.2.1 rfl (lv_at hl 0 rfl) ?_
    refine va_get (D := (dC, dI)) (ci := 10) (v := .ref nY) (C := zX) (T := aBe) (N := 51) hx hb hts aAt hown hK hP 0 rfl rfl 0 (lbz rfl) (hts _ aHO) (fun _ h9 => h9) rfl aVm.2.2.2.2.2.2.1 ?_
    refine lv_bipush (v := 17) hx hb aVm.2.2.2.2.2.2.2.1 bp_17 ?_
    refine va_iald hx hb hK hP 1 0 rfl rfl (g_in rfl) aVm.2.2.2.2.2.2.2.2.1 ?_
    refine lv_topi (fun v_18 ev_18 => ?_)
    have hp := hp v_18 ev_18
    refine lv_iconst (v := (-1)) hx hb aVm.2.2.2.2.2.2.2.2.2.1 aEJ ?_
    refine lv_icmp_ne (tgt := 169) hx hb aVm.2.2.2.2.2.2.2.2.2.2.1 (by decide) (fun hc => ?_) (fun hc => ?_)
    · have hp := hp.1 hc
      refine lv_aload_n hx hb aVm.2.2.2.2.2.2.2.2.2.2.2.2.2.1 rfl (lv_at hl 0 rfl) ?_
      have hm := mgk (wc := (aGf cI cC cZ cB cJ a_m nY sJ eG iY lY jR jW jZ jO oQ bR aY jQ gY iJ mQ lJ jA bG mK jB mW mJ eJ dG bT aG jC bL bY jD mLn oF rP dQ aJ aB bW bZ aR aE bI aW bU fJ dO bM bQ bO jY oX qG m_x gR qR nG oO pJ)) hP mk_228 11 rfl rfl rfl
      refine yW hP hD hS hA (yS mk_228) (aAi mk_228) hm.1 hm.2 (aAk _) (zW _) (zF (As := []) (rest := []) C0 hP hD hS (yS mk_228) hm.1 (aAl _) 0 10 rfl rfl (c_X10_goShake l dC dI cI cC cZ cB cJ a_m nY sJ eG iY lY jR jW jZ jO oQ bR aY jQ gY iJ mQ lJ jA bG mK jB mW mJ eJ dG H.size bT aG jC bL bY jD mLn oF rP dQ aJ aB bW bZ aR aE bI aW bU fJ dO bM bQ bO jY oX qG m_x gR qR nG oO pJ _ hp) q_836 q_839 q_837 q_838 aBL h_X10_goShake rfl rfl ⟨lbz rfl, lbz rfl⟩ rfl rfl hl.1 rfl (lv_room (lbz rfl)) aVm.2.2.2.2.2.2.2.2.2.2.2.2.2.2.1 ⟨Nat.zero_le _, Nat.zero_le _⟩) (fun r_19 u H locs hp hP hD hS => ?_)
      obtain ⟨m_now_20, rfl⟩ : ∃ z, z = u := ⟨_, rfl⟩
      have hPD := PDm (ws' := (aMw cI cC cZ cB cJ a_m nY sJ eG iY lY jR jW jZ jO oQ bR aY jQ gY iJ mQ lJ jA bG mK jB mW mJ eJ dG bT aG jC bL bY jD mLn oF rP dQ aJ aB bW bZ aR aE bI aW bU fJ dO bM bQ bO jY oX m_now_20 m_x gR pW qR nG oO pJ qO qQ)) hP hD 11 rfl rfl rfl
      have hP := hPD.1
      have hD := hPD.2
      refine lv_pop hx hb aVm.2.2.2.2.2.2.2.2.2.2.2.2.2.2.2 rfl ?_
      refine lv_iconst (v := 1) hx hb aVn.1 aDx ?_
      exact W.zret (v := 1) hx hb hr rfl (fun t ht hW => ⟨⟨1, (jD, mLn, oF, rP, dQ, bZ, aR, aE, bI, aW, fJ, m_now_20), rfl, hp, by rw [ht]; exact hP, va_K.moved hW.alike hK, hD⟩, hS.F ht⟩) hS.2.2 aVn.2.1
    · have hp := hp.2 hc
      refine lv_iconst (v := 0) hx hb aVm.2.2.2.2.2.2.2.2.2.2.2.1 aCi ?_
      exact W.zret (v := 0) hx hb hr rfl (fun t ht hW => ⟨⟨0, (jD, mLn, oF, rP, dQ, bZ, aR, aE, bI, aW, fJ, qG), rfl, hp, by rw [ht]; exact hP, va_K.moved hW.alike hK, hD⟩, hS.F ht⟩) hS.2.2 aVm.2.2.2.2.2.2.2.2.2.2.2.2.1
  by_cases hc4 : p0 = 109
  · have hp := hp.2.2.2.2.1 hc4
    refine lv_tableIn (tgt := 80) hx hb aLV.2.1 (by first | (rw [hc4]; done) | (rw [hc4]; decide)) (by first | (rw [hc4]; done) | (rw [hc4]; decide)) (by first | (rw [hc4]; done) | (rw [hc4]; rfl)) (by decide) ?_
    refine lv_aload_n hx hb aLV.2.2.1 rfl (lv_at hl 0 rfl) ?_
    refine lv_iload_n hx hb aLV.2.2.2.1 rfl (lv_at hl 2 rfl) ?_
    have hm := mgk (wc := (bBp cI cC cZ cB cJ a_m nY sJ eG iY lY jR jW jZ jO oQ bR aY jQ gY iJ mQ lJ jA bG mK jB mW mJ eJ dG bT aG jC bL bY jD mLn oF rP dQ aJ aB bW bZ aR aE bI aW bU fJ dO bM bQ bO jY oX qG)) hP mk_230 11 rfl rfl rfl
    refine yW hP hD hS hA (yS mk_230) (aAi mk_230) hm.1 hm.2 (aAk _) (zW _) (zF (As := [.int p1]) (rest := []) C0 hP hD hS (yS mk_230) hm.1 (aAl _) 0 10 rfl rfl (c_X10_refusesMove l dC dI cI cC cZ cB cJ a_m nY sJ eG iY lY jR jW jZ jO oQ bR aY jQ gY iJ mQ lJ jA bG mK jB mW mJ eJ dG H.size p1 bT aG jC bL bY jD mLn oF rP dQ aJ aB bW bZ aR aE bI aW bU fJ dO bM bQ bO jY oX qG _ hp) q_783 q_786 q_784 q_785 aBL h_X10_refusesMove rfl rfl ⟨lbz rfl, lbz rfl⟩ rfl rfl hl.1 rfl (lv_room (lbz rfl)) aLV.2.2.2.2.1 ⟨Nat.zero_le _, Nat.zero_le _⟩) (fun r_21 u H locs hp hP hD hS => ?_)
    have hPD := PDm (ws' := (aMw cI cC cZ cB cJ a_m nY sJ eG iY lY jR jW jZ jO oQ bR aY jQ gY iJ mQ lJ jA bG mK jB mW mJ eJ dG bT aG jC bL bY jD mLn oF rP dQ aJ aB bW bZ aR aE bI aW bU fJ dO bM bQ bO jY oX qG m_x gR pW qR nG oO pJ qO qQ)) hP hD 11 rfl rfl rfl
    have hP := hPD.1
    have hD := hPD.2
    refine lv_if_ge (tgt := 90) hx hb aLV.2.2.2.2.2.1 (by decide) (fun hc => ?_) (fun hc => ?_)
    · have hp := hp.1 hc
      refine lv_aload_n hx hb aLV.2.2.2.2.2.2.2.2.1 rfl (lv_at hl 0 rfl) ?_
      refine lv_iload_n hx hb aLV.2.2.2.2.2.2.2.2.2.1 rfl (lv_at hl 2 rfl) ?_
      have hm := mgk (wc := (aT9 cI cC cZ cB cJ a_m nY sJ eG iY lY jR jW jZ jO oQ bR aY jQ gY iJ mQ lJ jA bG mK jB mW mJ eJ dG bT aG jC bL bY jD mLn oF rP dQ aJ aB bW bZ aR aE bI aW bU fJ dO bM bQ bO jY oX qG nG oO pJ)) hP mk_232 11 rfl rfl rfl
      refine yW hP hD hS hA (yS mk_232) (aAi mk_232) hm.1 hm.2 (aAk _) (zW _) (zF (As := [.int p1]) (rest := []) C0 hP hD hS (yS mk_232) hm.1 (aAl _) 0 10 rfl rfl (c_X10_goMove l dC dI cI cC cZ cB cJ a_m nY sJ eG iY lY jR jW jZ jO oQ bR aY jQ gY iJ mQ lJ jA bG mK jB mW mJ eJ dG H.size p1 bT aG jC bL bY jD mLn oF rP dQ aJ aB bW bZ aR aE bI aW bU fJ dO bM bQ bO jY oX qG nG oO pJ _ hp) q_791 q_794 q_792 q_793 aBL h_X10_goMove rfl rfl ⟨lbz rfl, lbz rfl⟩ rfl rfl hl.1 rfl (lv_room (lbz rfl)) aLV.2.2.2.2.2.2.2.2.2.2.1 ⟨Nat.zero_le _, Nat.zero_le _⟩) (fun r_22 u H locs hp hP hD hS => ?_)
      obtain ⟨m_now_23, rfl⟩ : ∃ z, z = u := ⟨_, rfl⟩
      have hPD := PDm (ws' := (aMw cI cC cZ cB cJ a_m nY sJ eG iY lY jR jW jZ jO oQ bR aY jQ gY iJ mQ lJ jA bG mK jB mW mJ eJ dG bT aG jC bL bY jD mLn oF rP dQ aJ aB bW bZ aR aE bI aW bU fJ dO bM bQ bO jY oX m_now_23 m_x gR pW qR nG oO pJ qO qQ)) hP hD 11 rfl rfl rfl
      have hP := hPD.1
      have hD := hPD.2
      refine lv_pop hx hb aLV.2.2.2.2.2.2.2.2.2.2.2.1 rfl ?_
      refine lv_iconst (v := 1) hx hb aLV.2.2.2.2.2.2.2.2.2.2.2.2.1 aDx ?_
      exact W.zret (v := 1) hx hb hr rfl (fun t ht hW => ⟨⟨1, (jD, mLn, oF, rP, dQ, bZ, aR, aE, bI, aW, fJ, m_now_23), rfl, hp, by rw [ht]; exact hP, va_K.moved hW.alike hK, hD⟩, hS.F ht⟩) hS.2.2 aLV.2.2.2.2.2.2.2.2.2.2.2.2.2
    · have hp := hp.2 hc
      refine lv_iconst (v := 0) hx hb aLV.2.2.2.2.2.2.1 aCi ?_
      exact W.zret (v := 0) hx hb hr rfl (fun t ht hW => ⟨⟨0, (jD, mLn, oF, rP, dQ, bZ, aR, aE, bI, aW, fJ, qG), rfl, hp, by rw [ht]; exact hP, va_K.moved hW.alike hK, hD⟩, hS.F ht⟩) hS.2.2 aLV.2.2.2.2.2.2.2.1
  by_cases hc5 : p0 = 111
  · have hp := hp.2.2.2.2.2.1 hc5
    refine lv_tableIn (tgt := 176) hx hb aLV.2.1 (by first | (rw [hc5]; done) | (rw [hc5]; decide)) (by first | (rw [hc5]; done) | (rw [hc5]; decide)) (by first | (rw [hc5]; done) | (rw [hc5]; rfl)) (by decide) ?_
    exact ks_X10_act_176 C0 p0 jD mLn oF rP dQ bZ aR aE bI aW fJ qG H locs ls hp hP hD hS (lv_sub hl [0, 1] rfl)
  by_cases hc6 : p0 = 112
  · have hp := hp.2.2.2.2.2.2.1 hc6
    refine lv_tableIn (tgt := 98) hx hb aLV.2.1 (by first | (rw [hc6]; done) | (rw [hc6]; decide)) (by first | (rw [hc6]; done) | (rw [hc6]; decide)) (by first | (rw [hc6]; done) | (rw [hc6]; rfl)) (by decide) ?_
    exact ks_X10_act_98 C0 p0 p1 jD mLn oF rP dQ bZ aR aE bI aW fJ qG H locs ls hp hP hD hS (lv_sub hl [0, 1, 2] rfl)
  have hp := hp.2.2.2.2.2.2.2 hc0 hc1 hc2 hc3 hc4 hc5 hc6
  have key : W p l e rm_X10_act s m args below meth c H locs 0 0 (MQ below (q_X10_act dC dI cI cC cZ cB cJ A a_m nY sJ eG iY lY jR jW jZ jO oQ bR aY jQ gY iJ mQ lJ jA bG mK jB mW mJ eJ dG bT aG jC bL bY aJ aB bW bU dO bM bQ bO jY oX m_x gR pW qR nG oO pJ qO qQ post) args s 0 0 A) (F0 m 196 ls []) := by
    exact ks_X10_act_196 C0 jD mLn oF rP dQ bZ aR aE bI aW fJ qG H locs ls hp hP hD hS (lv_sub hl [0] rfl)
  by_cases hh0 : p0 = 98
  · exact lv_tableIn (tgt := 196) hx hb aLV.2.1 (by first | (rw [hh0]; done) | (rw [hh0]; decide)) (by first | (rw [hh0]; done) | (rw [hh0]; decide)) (by first | (rw [hh0]; done) | (rw [hh0]; rfl)) (by decide) key
  by_cases hh1 : p0 = 99
  · exact lv_tableIn (tgt := 196) hx hb aLV.2.1 (by first | (rw [hh1]; done) | (rw [hh1]; decide)) (by first | (rw [hh1]; done) | (rw [hh1]; decide)) (by first | (rw [hh1]; done) | (rw [hh1]; rfl)) (by decide) key
  by_cases hh2 : p0 = 101
  · exact lv_tableIn (tgt := 196) hx hb aLV.2.1 (by first | (rw [hh2]; done) | (rw [hh2]; decide)) (by first | (rw [hh2]; done) | (rw [hh2]; decide)) (by first | (rw [hh2]; done) | (rw [hh2]; rfl)) (by decide) key
  by_cases hh3 : p0 = 102
  · exact lv_tableIn (tgt := 196) hx hb aLV.2.1 (by first | (rw [hh3]; done) | (rw [hh3]; decide)) (by first | (rw [hh3]; done) | (rw [hh3]; decide)) (by first | (rw [hh3]; done) | (rw [hh3]; rfl)) (by decide) key
  by_cases hh4 : p0 = 103
  · exact lv_tableIn (tgt := 196) hx hb aLV.2.1 (by first | (rw [hh4]; done) | (rw [hh4]; decide)) (by first | (rw [hh4]; done) | (rw [hh4]; decide)) (by first | (rw [hh4]; done) | (rw [hh4]; rfl)) (by decide) key
  by_cases hh5 : p0 = 105
  · exact lv_tableIn (tgt := 196) hx hb aLV.2.1 (by first | (rw [hh5]; done) | (rw [hh5]; decide)) (by first | (rw [hh5]; done) | (rw [hh5]; decide)) (by first | (rw [hh5]; done) | (rw [hh5]; rfl)) (by decide) key
  by_cases hh6 : p0 = 106
  · exact lv_tableIn (tgt := 196) hx hb aLV.2.1 (by first | (rw [hh6]; done) | (rw [hh6]; decide)) (by first | (rw [hh6]; done) | (rw [hh6]; decide)) (by first | (rw [hh6]; done) | (rw [hh6]; rfl)) (by decide) key
  by_cases hh7 : p0 = 108
  · exact lv_tableIn (tgt := 196) hx hb aLV.2.1 (by first | (rw [hh7]; done) | (rw [hh7]; decide)) (by first | (rw [hh7]; done) | (rw [hh7]; decide)) (by first | (rw [hh7]; done) | (rw [hh7]; rfl)) (by decide) key
  by_cases hh8 : p0 = 110
  · exact lv_tableIn (tgt := 196) hx hb aLV.2.1 (by first | (rw [hh8]; done) | (rw [hh8]; decide)) (by first | (rw [hh8]; done) | (rw [hh8]; decide)) (by first | (rw [hh8]; done) | (rw [hh8]; rfl)) (by decide) key
  exact lv_tableOut (tgt := 196) hx hb aLV.2.1 (by have g0 := lv_neT (a := 97) hc0 rfl; have g1 := lv_neT (a := 100) hc1 rfl; have g2 := lv_neT (a := 104) hc2 rfl; have g3 := lv_neT (a := 107) hc3 rfl; have g4 := lv_neT (a := 109) hc4 rfl; have g5 := lv_neT (a := 111) hc5 rfl; have g6 := lv_neT (a := 112) hc6 rfl; have f0 := lv_neT (a := 98) hh0 rfl; have f1 := lv_neT (a := 99) hh1 rfl; have f2 := lv_neT (a := 101) hh2 rfl; have f3 := lv_neT (a := 102) hh3 rfl; have f4 := lv_neT (a := 103) hh4 rfl; have f5 := lv_neT (a := 105) hh5 rfl; have f6 := lv_neT (a := 106) hh6 rfl; have f7 := lv_neT (a := 108) hh7 rfl; have f8 := lv_neT (a := 110) hh8 rfl; omega) (by decide) key
abbrev aYA (cI cC cZ cB cJ : ClassId) (gY iJ : Nat) (uL vF : Nat -> Int32) : va_W := [(gY, .inl (cI, 252, .inl uL)), (iJ, .inl (cI, 21, .inl vF))]
abbrev q_X10_lay_b3 (dC : Nat -> ClassId) (dI : Nat -> Nat -> Nat) (cI cC cZ cB cJ : ClassId) (A : Nat -> Prop) (gY iJ : Nat) (vF : Nat -> Int32) (post : (Nat -> Int32) -> Prop) : Array Value -> State -> Outcome -> State -> Prop := va_Qv (fun (u : (Nat -> Int32)) => post u) (fun u t => gB (dC, dI) (tyl cI cC cZ cB cJ) A (aYA cI cC cZ cB cJ gY iJ u vF) t) A
abbrev rm_X10_lay_b3 : Room := { frames := 0, cells := 0, slots := 0, locals := 0 }
section S_X10_lay_b3
variable {p : Program} {l : Launch} {e : Env} {s : State} {m : MethodId} {args : Array Value} {below : List Frame} {meth : Method} {c : Code} {dC : Nat -> ClassId} {dI : Nat -> Nat -> Nat} {cI cC cZ cB cJ : ClassId} {A : Nat -> Prop} {gY iJ : Nat} {vF : Nat -> Int32} {post : (Nat -> Int32) -> Prop}
def ws_X10_lay_b3_2 (post : (Nat -> Int32) -> Prop) (next : Int32 -> Int32 -> (Nat -> Int32) -> Prop) (vF : Nat -> Int32) (x2 x3 : Int32) (uL : Nat -> Int32) : Prop := (21 <= x3 -> post uL) /\ (¬ 21 <= x3 -> ∀ v_1 : Int32, v_1 = x2 + x3 -> vp_in x3 21 /\ (∀ v_2 : Int32, v_2 = vF x3.toNatClampNeg -> vp_in v_1 252 /\ (∀ v_3 : Int32, v_3 = x3 + 1 -> next x2 v_3 (upd uL v_1.toNatClampNeg v_2))))
noncomputable def wb_X10_lay_b3_2 (post : (Nat -> Int32) -> Prop) (vF : Nat -> Int32) : Nat -> Int32 -> Int32 -> (Nat -> Int32) -> Prop := fun n => Nat.rec (motive := fun _ => Int32 -> Int32 -> (Nat -> Int32) -> Prop) (fun _ _ _ => False) (fun _ ih => ws_X10_lay_b3_2 post ih vF) n
set_option maxHeartbeats 4000000 in
set_option maxRecDepth 100000 in
theorem ks_X10_lay_b3_2 (C0 : gc aUi none 4 zX (dC, dI) (tyl cI cC cZ cB cJ) A p s m args meth c) {next : Int32 -> Int32 -> (Nat -> Int32) -> Prop} (hKn : ∀ (x2 : Int32) (x3 : Int32) (uL : Nat -> Int32) (H : Heap) (locs : List Loc) (ls : Array Slot), next x2 x3 uL -> va_P (dC, dI) classes (aYA cI cC cZ cB cJ gY iJ uL vF) H -> va_D A (aYA cI cC cZ cB cJ gY iJ uL vF) -> va_S A s.heap H locs -> lv_has ls 4 [(0, .ref iJ), (1, .ref gY), (2, .int x2), (3, .int x3)] -> W p l e rm_X10_lay_b3 s m args below meth c H locs 0 0 (MQ below (q_X10_lay_b3 dC dI cI cC cZ cB cJ A gY iJ vF post) args s 0 0 A) (F0 m 2 ls [])) : ∀ (x2 x3 : Int32) (uL : Nat -> Int32) (H : Heap) (locs : List Loc) (ls : Array Slot), (ws_X10_lay_b3_2 post next vF) x2 x3 uL -> va_P (dC, dI) classes (aYA cI cC cZ cB cJ gY iJ uL vF) H -> va_D A (aYA cI cC cZ cB cJ gY iJ uL vF) -> va_S A s.heap H locs -> lv_has ls 4 [(0, .ref iJ), (1, .ref gY), (2, .int x2), (3, .int x3)] -> W p l e rm_X10_lay_b3 s m args below meth c H locs 0 0 (MQ below (q_X10_lay_b3 dC dI cI cC cZ cB cJ A gY iJ vF post) args s 0 0 A) (F0 m 2 ls []) := by
  obtain ⟨hx, hb, hr, hml, hown, hts, hlocks, hA, hK, hN, tL, tM, hZL, hTL, hZM, hTM, hZX⟩ := id C0
  intro x2 x3 uL H locs ls hp hP hD hS hl
  unfold ws_X10_lay_b3_2 at hp
  refine lv_iload_n hx hb aDr.2.2.1 rfl (lv_at hl 3 rfl) ?_
  refine lv_bipush (v := 21) hx hb aDr.2.2.2.1 bp_21 ?_
  refine lv_icmp_ge (tgt := 22) hx hb aDr.2.2.2.2.1 (by decide) (fun hc => ?_) (fun hc => ?_)
  · have hp := hp.1 hc
    exact W.vret hx hb hr (fun t ht hW => ⟨⟨uL, rfl, hp, by rw [ht]; exact hP, va_K.moved hW.alike hK, hD⟩, hS.F ht⟩) hS.2.2 aDr.2.2.2.2.2.2.2.2.2.2.2.2.2.2.2
  · have hp := hp.2 hc
    refine lv_aload_n hx hb aDr.2.2.2.2.2.1 rfl (lv_at hl 1 rfl) ?_
    refine lv_iload_n hx hb aDr.2.2.2.2.2.2.1 rfl (lv_at hl 2 rfl) ?_
    refine lv_iload_n hx hb aDr.2.2.2.2.2.2.2.1 rfl (lv_at hl 3 rfl) ?_
    refine lv_iadd hx hb aDr.2.2.2.2.2.2.2.2.1 ?_
    refine lv_topi (fun v_1 aFJ => ?_)
    have hp := hp v_1 aFJ
    refine lv_aload_n hx hb aDr.2.2.2.2.2.2.2.2.2.1 rfl (lv_at hl 0 rfl) ?_
    refine lv_iload_n hx hb aDr.2.2.2.2.2.2.2.2.2.2.1 rfl (lv_at hl 3 rfl) ?_
    have hin := hp.1
    have hp := hp.2
    refine va_iald hx hb hK hP 1 0 rfl rfl hin aDr.2.2.2.2.2.2.2.2.2.2.2.1 ?_
    refine lv_topi (fun v_2 aGO => ?_)
    have hp := hp v_2 aGO
    have hin := hp.1
    have hp := hp.2
    refine va_iast hx hb hK hP hD hS 0 0 rfl rfl hin aDr.2.2.2.2.2.2.2.2.2.2.2.2.1 (fun H locs hP hD hS => ?_)
    have hPD := PDw (ws' := (aYA cI cC cZ cB cJ gY iJ (upd uL v_1.toNatClampNeg v_2) vF)) hP hD rfl
    have hP := hPD.1
    have hD := hPD.2
    obtain ⟨v_3, aGW⟩ : ∃ y : Int32, y = x3 + 1 := ⟨_, rfl⟩
    refine lv_iinc (v := v_3) (lv' := [(3, .int v_3), (0, .ref iJ), (1, .ref gY), (2, .int x2)]) hx hb aDr.2.2.2.2.2.2.2.2.2.2.2.2.2.1 hl (k := 3) rfl (by rw [aGW]; rfl) (by decide) rfl (fun ls hl => ?_)
    have hp := hp v_3 aGW
    refine lv_goto (tgt := 2) hx hb aDr.2.2.2.2.2.2.2.2.2.2.2.2.2.2.1 (by decide) ?_
    exact hKn x2 v_3 (upd uL v_1.toNatClampNeg v_2) H locs ls hp hP hD hS (lv_sub hl [1, 2, 3, 0] rfl)
set_option maxHeartbeats 4000000 in
set_option maxRecDepth 100000 in
theorem kb_X10_lay_b3_2 (C0 : gc aUi none 4 zX (dC, dI) (tyl cI cC cZ cB cJ) A p s m args meth c) : ∀ (n : Nat), ∀ (x2 x3 : Int32) (uL : Nat -> Int32) (H : Heap) (locs : List Loc) (ls : Array Slot), (wb_X10_lay_b3_2 post vF n) x2 x3 uL -> va_P (dC, dI) classes (aYA cI cC cZ cB cJ gY iJ uL vF) H -> va_D A (aYA cI cC cZ cB cJ gY iJ uL vF) -> va_S A s.heap H locs -> lv_has ls 4 [(0, .ref iJ), (1, .ref gY), (2, .int x2), (3, .int x3)] -> W p l e rm_X10_lay_b3 s m args below meth c H locs 0 0 (MQ below (q_X10_lay_b3 dC dI cI cC cZ cB cJ A gY iJ vF post) args s 0 0 A) (F0 m 2 ls []) := by
  intro n
  induction n with
  | zero =>
    intro x2 x3 uL H locs ls hp
    exact False.elim hp
  | succ n ih =>
    intro x2 x3 uL H locs ls hp
    exact ks_X10_lay_b3_2 C0 ih x2 x3 uL H locs ls hp
end S_X10_lay_b3
def wp_X10_lay_b3 (post : (Nat -> Int32) -> Prop) (p2 : Int32) (uL vF : Nat -> Int32) : Prop := ∃ n : Nat, wb_X10_lay_b3_2 post vF n p2 0 uL
set_option maxHeartbeats 4000000 in
set_option maxRecDepth 100000 in
theorem c_X10_lay_b3 (l : Launch) (dC : Nat -> ClassId) (dI : Nat -> Nat -> Nat) (cI cC cZ cB cJ : ClassId) (gY iJ sz : Nat) (p2 : Int32) (uL vF : Nat -> Int32) (post : (Nat -> Int32) -> Prop) (hw : wp_X10_lay_b3 post p2 uL vF) : Met l yX10_lay (gw yX10_lay aUi 4 none) rm_X10_lay_b3 (va_Pc [.ref iJ, .ref gY, .int p2] (gPre (dC, dI) (tyl cI cC cZ cB cJ) (aYA cI cC cZ cB cJ gY iJ uL vF) sz)) (q_X10_lay_b3 dC dI cI cC cZ cB cJ (va_A (aYA cI cC cZ cB cJ gY iJ uL vF) sz) gY iJ vF post) 0 0 (va_A (aYA cI cC cZ cB cJ gY iJ uL vF) sz) := by
  refine aBJ (own := zX) (dC, dI) (tyl cI cC cZ cB cJ) (aYA cI cC cZ cB cJ gY iJ uL vF) sz [.ref iJ, .ref gY, .int p2] (fun A => q_X10_lay_b3 dC dI cI cC cZ cB cJ A gY iJ vF post) aFY rfl (lbz rfl) ?_
  intro p e s m args below meth c A H locs ls C0 hP hD hS hl
  have hl : lv_has ls 4 [(0, .ref iJ), (1, .ref gY), (2, .int p2)] := hl
  obtain ⟨hx, hb, hr, hml, hown, hts, hlocks, hA, hK, hN, tL, tM, hZL, hTL, hZM, hTM, hZX⟩ := id C0
  have hp := hw
  unfold wp_X10_lay_b3 at hp
  refine lv_iconst (v := 0) hx hb aDr.1 aCi ?_
  refine lv_istore_n (lv' := [(3, .int 0), (0, .ref iJ), (1, .ref gY), (2, .int p2)]) hx hb aDr.2.1 rfl hl (by decide) rfl (fun ls hl => ?_)
  obtain ⟨n9, hp⟩ := hp
  exact kb_X10_lay_b3_2 C0 n9 p2 0 uL H locs ls hp hP hD hS (lv_sub hl [1, 2, 3, 0] rfl)
abbrev aGs (cI cC cZ cB cJ : ClassId) (a_m nY sJ eG iY lY jR jW jZ jO oQ bR aY jQ gY iJ mQ lJ jA bG mK jB mW mJ eJ dG : Nat) (bT aG jC bL bY : Int32) (jD : Nat) (mLn oF rP dQ aJ aB bW bZ aR aE bI aW bU fJ dO bM bQ bO jY oX : Int32) (uL vF : Nat -> Int32) : va_W := [(a_m, .inr (10, [.ref nY, .int bT, .ref sJ, .ref eG, .ref iY, .ref lY, .int aG, .ref jR, .ref jW, .ref jZ, .ref jO, .int jC, .ref oQ, .int bL, .int bY, rdv jO jQ jD, .int mLn, .int oF, .int rP, .int dQ, .ref bR, .ref aY, .int aJ, .int aB, .ref jQ, .int bW, .int bZ, .int aR, .int aE, .int bI, .int aW, .ref gY, .int bU, .ref iJ, .ref mQ, .int fJ, .ref lJ, .int dO, .ref jA, .ref bG, .int bM, .int bQ, .int bO, .ref mK, .ref jB, .ref mW, .int jY, .int oX, .ref mJ, .ref eJ, .ref dG])), (gY, .inl (cI, 252, .inl uL)), (iJ, .inl (cI, 21, .inl vF))]
abbrev q_X10_remember_b2 (dC : Nat -> ClassId) (dI : Nat -> Nat -> Nat) (cI cC cZ cB cJ : ClassId) (A : Nat -> Prop) (a_m nY sJ eG iY lY jR jW jZ jO oQ bR aY jQ gY iJ mQ lJ jA bG mK jB mW mJ eJ dG : Nat) (bT aG jC bL bY : Int32) (jD : Nat) (mLn oF rP dQ aJ aB bW bZ aR aE bI aW fJ dO bM bQ bO jY oX : Int32) (vF : Nat -> Int32) (post : Int32 -> (Nat -> Int32) -> Prop) : Array Value -> State -> Outcome -> State -> Prop := va_Qv (fun (u : Int32 × (Nat -> Int32)) => post u.1 u.2) (fun u t => gB (dC, dI) (tyl cI cC cZ cB cJ) A (aGs cI cC cZ cB cJ a_m nY sJ eG iY lY jR jW jZ jO oQ bR aY jQ gY iJ mQ lJ jA bG mK jB mW mJ eJ dG bT aG jC bL bY jD mLn oF rP dQ aJ aB bW bZ aR aE bI aW u.1 fJ dO bM bQ bO jY oX u.2 vF) t) A
abbrev rm_X10_remember_b2 : Room := { frames := 1, cells := 0, slots := 0, locals := 23 }
section S_X10_remember_b2
variable {p : Program} {l : Launch} {e : Env} {s : State} {m : MethodId} {args : Array Value} {below : List Frame} {meth : Method} {c : Code} {dC : Nat -> ClassId} {dI : Nat -> Nat -> Nat} {cI cC cZ cB cJ : ClassId} {A : Nat -> Prop} {a_m nY sJ eG iY lY jR jW jZ jO oQ bR aY jQ gY iJ mQ lJ jA bG mK jB mW mJ eJ dG : Nat} {bT aG jC bL bY : Int32} {jD : Nat} {mLn oF rP dQ aJ aB bW bZ aR aE bI aW fJ dO bM bQ bO jY oX : Int32} {vF : Nat -> Int32} {post : Int32 -> (Nat -> Int32) -> Prop}
def aYJ (post : Int32 -> (Nat -> Int32) -> Prop) (vF : Nat -> Int32) (bU : Int32) (uL : Nat -> Int32) : Prop := ∀ v_1 : Int32, v_1 = 21 * bU -> wp_X10_lay_b3 (fun m_undos_2 => ∀ v_3 : Int32, v_3 = bU + 1 -> post v_3 m_undos_2) v_1 uL vF
set_option maxHeartbeats 4000000 in
set_option maxRecDepth 100000 in
theorem ks_X10_remember_b2_49 (C0 : gc aDP none 3 zX (dC, dI) (tyl cI cC cZ cB cJ) A p s m args meth c) : ∀ (bU : Int32) (uL : Nat -> Int32) (H : Heap) (locs : List Loc) (ls : Array Slot), (aYJ post vF) bU uL -> va_P (dC, dI) classes (aGs cI cC cZ cB cJ a_m nY sJ eG iY lY jR jW jZ jO oQ bR aY jQ gY iJ mQ lJ jA bG mK jB mW mJ eJ dG bT aG jC bL bY jD mLn oF rP dQ aJ aB bW bZ aR aE bI aW bU fJ dO bM bQ bO jY oX uL vF) H -> va_D A (aGs cI cC cZ cB cJ a_m nY sJ eG iY lY jR jW jZ jO oQ bR aY jQ gY iJ mQ lJ jA bG mK jB mW mJ eJ dG bT aG jC bL bY jD mLn oF rP dQ aJ aB bW bZ aR aE bI aW bU fJ dO bM bQ bO jY oX uL vF) -> va_S A s.heap H locs -> lv_has ls 3 [(0, .ref a_m), (1, .ref iJ)] -> W p l e rm_X10_remember_b2 s m args below meth c H locs 0 0 (MQ below (q_X10_remember_b2 dC dI cI cC cZ cB cJ A a_m nY sJ eG iY lY jR jW jZ jO oQ bR aY jQ gY iJ mQ lJ jA bG mK jB mW mJ eJ dG bT aG jC bL bY jD mLn oF rP dQ aJ aB bW bZ aR aE bI aW fJ dO bM bQ bO jY oX vF post) args s 0 0 A) (F0 m 49 ls []) := by
  obtain ⟨hx, hb, hr, hml, hown, hts, hlocks, hA, hK, hN, tL, tM, hZL, hTL, hZM, hTM, hZX⟩ := id C0
  intro bU uL H locs ls hp hP hD hS hl
  unfold aYJ at hp
  refine lv_aload_n hx hb aEj.2.2.2.2.2.2.2.2.2.2.2.1 rfl (lv_at hl 1 rfl) ?_
  refine lv_aload_n hx hb aEj.2.2.2.2.2.2.2.2.2.2.2.2.1 rfl (lv_at hl 0 rfl) ?_
  refine va_get (D := (dC, dI)) (ci := 10) (v := .ref gY) (C := zX) (T := aBe) (N := 51) hx hb hts aAt hown hK hP 0 rfl rfl 31 (lbz rfl) (hts _ q_767) (fun _ h9 => h9) rfl aEj.2.2.2.2.2.2.2.2.2.2.2.2.2.1 ?_
  refine lv_bipush (v := 21) hx hb aEj.2.2.2.2.2.2.2.2.2.2.2.2.2.2.1 bp_21 ?_
  refine lv_aload_n hx hb aEj.2.2.2.2.2.2.2.2.2.2.2.2.2.2.2 rfl (lv_at hl 0 rfl) ?_
  refine va_get (D := (dC, dI)) (ci := 10) (v := .int bU) (C := zX) (T := aBe) (N := 51) hx hb hts aAt hown hK hP 0 rfl rfl 32 (lbz rfl) (hts _ q_684) (fun _ h9 => h9) rfl aO0.1 ?_
  refine lv_imul hx hb aO0.2.1 ?_
  refine lv_topi (fun v_1 aFJ => ?_)
  have hp := hp v_1 aFJ
  have hm := mgk (wc := (aYA cI cC cZ cB cJ gY iJ uL vF)) hP mk_0 3 rfl rfl rfl
  refine aBn hP hD hS hA (yS mk_0) (aAi mk_0) hm.1 hm.2 (aAk _) (zW _) (aDn (As := [.ref iJ, .ref gY, .int v_1]) (rest := []) C0 hP hD hS (yS mk_0) hm.1 (aAl _) (c_X10_lay_b3 l dC dI cI cC cZ cB cJ gY iJ H.size v_1 uL vF _ hp) q_768 q_770 q_769 aBL h_X10_lay rfl rfl ⟨lbz rfl, lbz rfl⟩ rfl rfl hl.1 rfl (lv_room (lbz rfl)) aO0.2.2.1 ⟨Nat.zero_le _, Nat.zero_le _⟩) (fun u H locs hp hP hD hS => ?_)
  obtain ⟨m_undos_2, rfl⟩ : ∃ z, z = u := ⟨_, rfl⟩
  have hPD := PDm (ws' := (aGs cI cC cZ cB cJ a_m nY sJ eG iY lY jR jW jZ jO oQ bR aY jQ gY iJ mQ lJ jA bG mK jB mW mJ eJ dG bT aG jC bL bY jD mLn oF rP dQ aJ aB bW bZ aR aE bI aW bU fJ dO bM bQ bO jY oX m_undos_2 vF)) hP hD 3 rfl rfl rfl
  have hP := hPD.1
  have hD := hPD.2
  refine lv_aload_n hx hb aO0.2.2.2.1 rfl (lv_at hl 0 rfl) ?_
  refine lv_dup hx hb aO0.2.2.2.2.1 rfl ?_
  refine va_get (D := (dC, dI)) (ci := 10) (v := .int bU) (C := zX) (T := aBe) (N := 51) hx hb hts aAt hown hK hP 0 rfl rfl 32 (lbz rfl) (hts _ q_684) (fun _ h9 => h9) rfl aO0.2.2.2.2.2.1 ?_
  refine lv_iconst (v := 1) hx hb aO0.2.2.2.2.2.2 aDx ?_
  refine lv_iadd hx hb eX10_remember_70.1 ?_
  refine lv_topi (fun v_3 aGW => ?_)
  have hp := hp v_3 aGW
  refine va_put (D := (dC, dI)) (ci := 10) (v := .int v_3) (ty := .int) (C := zX) (T := aBe) (N := 51) hx hb hts aAt aD2 aAa aEC hown hK hP hD hS 0 rfl rfl 32 (lbz rfl) (hts _ q_684) (fun _ h9 => h9) rfl (aAa 32 (lbz rfl)) rfl rfl (lbz rfl) eX10_remember_70.2.1 (fun H locs hP hD hS => ?_)
  have hPD := PDw (ws' := (aGs cI cC cZ cB cJ a_m nY sJ eG iY lY jR jW jZ jO oQ bR aY jQ gY iJ mQ lJ jA bG mK jB mW mJ eJ dG bT aG jC bL bY jD mLn oF rP dQ aJ aB bW bZ aR aE bI aW v_3 fJ dO bM bQ bO jY oX m_undos_2 vF)) hP hD rfl
  have hP := hPD.1
  have hD := hPD.2
  exact W.vret hx hb hr (fun t ht hW => ⟨⟨(v_3, m_undos_2), rfl, hp, by rw [ht]; exact hP, va_K.moved hW.alike hK, hD⟩, hS.F ht⟩) hS.2.2 eX10_remember_70.2.2
def ws_X10_remember_b2_11 (post : Int32 -> (Nat -> Int32) -> Prop) (next : Int32 -> Int32 -> (Nat -> Int32) -> Prop) (vF : Nat -> Int32) (x2 bU : Int32) (uL : Nat -> Int32) : Prop := (231 <= x2 -> ∀ v_4 : Int32, v_4 = bU - 1 -> aYJ post vF v_4 uL) /\ (¬ 231 <= x2 -> ∀ v_5 : Int32, v_5 = x2 + 21 -> vp_in v_5 252 /\ (∀ v_6 : Int32, v_6 = uL v_5.toNatClampNeg -> vp_in x2 252 /\ (∀ v_7 : Int32, v_7 = x2 + 1 -> next v_7 bU (upd uL x2.toNatClampNeg v_6))))
noncomputable def wb_X10_remember_b2_11 (post : Int32 -> (Nat -> Int32) -> Prop) (vF : Nat -> Int32) : Nat -> Int32 -> Int32 -> (Nat -> Int32) -> Prop := fun n => Nat.rec (motive := fun _ => Int32 -> Int32 -> (Nat -> Int32) -> Prop) (fun _ _ _ => False) (fun _ ih => ws_X10_remember_b2_11 post ih vF) n
set_option maxHeartbeats 4000000 in
set_option maxRecDepth 100000 in
theorem ks_X10_remember_b2_11 (C0 : gc aDP none 3 zX (dC, dI) (tyl cI cC cZ cB cJ) A p s m args meth c) {next : Int32 -> Int32 -> (Nat -> Int32) -> Prop} (hKn : ∀ (x2 : Int32) (bU : Int32) (uL : Nat -> Int32) (H : Heap) (locs : List Loc) (ls : Array Slot), next x2 bU uL -> va_P (dC, dI) classes (aGs cI cC cZ cB cJ a_m nY sJ eG iY lY jR jW jZ jO oQ bR aY jQ gY iJ mQ lJ jA bG mK jB mW mJ eJ dG bT aG jC bL bY jD mLn oF rP dQ aJ aB bW bZ aR aE bI aW bU fJ dO bM bQ bO jY oX uL vF) H -> va_D A (aGs cI cC cZ cB cJ a_m nY sJ eG iY lY jR jW jZ jO oQ bR aY jQ gY iJ mQ lJ jA bG mK jB mW mJ eJ dG bT aG jC bL bY jD mLn oF rP dQ aJ aB bW bZ aR aE bI aW bU fJ dO bM bQ bO jY oX uL vF) -> va_S A s.heap H locs -> lv_has ls 3 [(0, .ref a_m), (1, .ref iJ), (2, .int x2)] -> W p l e rm_X10_remember_b2 s m args below meth c H locs 0 0 (MQ below (q_X10_remember_b2 dC dI cI cC cZ cB cJ A a_m nY sJ eG iY lY jR jW jZ jO oQ bR aY jQ gY iJ mQ lJ jA bG mK jB mW mJ eJ dG bT aG jC bL bY jD mLn oF rP dQ aJ aB bW bZ aR aE bI aW fJ dO bM bQ bO jY oX vF post) args s 0 0 A) (F0 m 11 ls [])) : ∀ (x2 bU : Int32) (uL : Nat -> Int32) (H : Heap) (locs : List Loc) (ls : Array Slot), (ws_X10_remember_b2_11 post next vF) x2 bU uL -> va_P (dC, dI) classes (aGs cI cC cZ cB cJ a_m nY sJ eG iY lY jR jW jZ jO oQ bR aY jQ gY iJ mQ lJ jA bG mK jB mW mJ eJ dG bT aG jC bL bY jD mLn oF rP dQ aJ aB bW bZ aR aE bI aW bU fJ dO bM bQ bO jY oX uL vF) H -> va_D A (aGs cI cC cZ cB cJ a_m nY sJ eG iY lY jR jW jZ jO oQ bR aY jQ gY iJ mQ lJ jA bG mK jB mW mJ eJ dG bT aG jC bL bY jD mLn oF rP dQ aJ aB bW bZ aR aE bI aW bU fJ dO bM bQ bO jY oX uL vF) -> va_S A s.heap H locs -> lv_has ls 3 [(0, .ref a_m), (1, .ref iJ), (2, .int x2)] -> W p l e rm_X10_remember_b2 s m args below meth c H locs 0 0 (MQ below (q_X10_remember_b2 dC dI cI cC cZ cB cJ A a_m nY sJ eG iY lY jR jW jZ jO oQ bR aY jQ gY iJ mQ lJ jA bG mK jB mW mJ eJ dG bT aG jC bL bY jD mLn oF rP dQ aJ aB bW bZ aR aE bI aW fJ dO bM bQ bO jY oX vF post) args s 0 0 A) (F0 m 11 ls []) := by
  obtain ⟨hx, hb, hr, hml, hown, hts, hlocks, hA, hK, hN, tL, tM, hZL, hTL, hZM, hTM, hZX⟩ := id C0
  intro x2 bU uL H locs ls hp hP hD hS hl
  unfold ws_X10_remember_b2_11 at hp
  refine lv_iload_n hx hb aFG.2.2.2.2.2.2.1 rfl (lv_at hl 2 rfl) ?_
  refine lv_sipush (v := 231) hx hb aFG.2.2.2.2.2.2.2.1 sp_231 ?_
  refine lv_icmp_ge (tgt := 39) hx hb aFG.2.2.2.2.2.2.2.2.1 (by decide) (fun hc => ?_) (fun hc => ?_)
  · have hp := hp.1 hc
    refine lv_aload_n hx hb aEj.2.2.2.2.2.1 rfl (lv_at hl 0 rfl) ?_
    refine lv_dup hx hb aEj.2.2.2.2.2.2.1 rfl ?_
    refine va_get (D := (dC, dI)) (ci := 10) (v := .int bU) (C := zX) (T := aBe) (N := 51) hx hb hts aAt hown hK hP 0 rfl rfl 32 (lbz rfl) (hts _ q_684) (fun _ h9 => h9) rfl aEj.2.2.2.2.2.2.2.1 ?_
    refine lv_iconst (v := 1) hx hb aEj.2.2.2.2.2.2.2.2.1 aDx ?_
    refine lv_isub hx hb aEj.2.2.2.2.2.2.2.2.2.1 ?_
    refine lv_topi (fun v_4 aHM => ?_)
    have hp := hp v_4 aHM
    refine va_put (D := (dC, dI)) (ci := 10) (v := .int v_4) (ty := .int) (C := zX) (T := aBe) (N := 51) hx hb hts aAt aD2 aAa aEC hown hK hP hD hS 0 rfl rfl 32 (lbz rfl) (hts _ q_684) (fun _ h9 => h9) rfl (aAa 32 (lbz rfl)) rfl rfl (lbz rfl) aEj.2.2.2.2.2.2.2.2.2.2.1 (fun H locs hP hD hS => ?_)
    have hPD := PDw (ws' := (aGs cI cC cZ cB cJ a_m nY sJ eG iY lY jR jW jZ jO oQ bR aY jQ gY iJ mQ lJ jA bG mK jB mW mJ eJ dG bT aG jC bL bY jD mLn oF rP dQ aJ aB bW bZ aR aE bI aW v_4 fJ dO bM bQ bO jY oX uL vF)) hP hD rfl
    have hP := hPD.1
    have hD := hPD.2
    exact ks_X10_remember_b2_49 C0 v_4 uL H locs ls hp hP hD hS (lv_sub hl [0, 1] rfl)
  · have hp := hp.2 hc
    refine lv_aload_n hx hb aFG.2.2.2.2.2.2.2.2.2.1 rfl (lv_at hl 0 rfl) ?_
    refine va_get (D := (dC, dI)) (ci := 10) (v := .ref gY) (C := zX) (T := aBe) (N := 51) hx hb hts aAt hown hK hP 0 rfl rfl 31 (lbz rfl) (hts _ q_767) (fun _ h9 => h9) rfl aFG.2.2.2.2.2.2.2.2.2.2.1 ?_
    refine lv_iload_n hx hb aFG.2.2.2.2.2.2.2.2.2.2.2.1 rfl (lv_at hl 2 rfl) ?_
    refine lv_aload_n hx hb aFG.2.2.2.2.2.2.2.2.2.2.2.2.1 rfl (lv_at hl 0 rfl) ?_
    refine va_get (D := (dC, dI)) (ci := 10) (v := .ref gY) (C := zX) (T := aBe) (N := 51) hx hb hts aAt hown hK hP 0 rfl rfl 31 (lbz rfl) (hts _ q_767) (fun _ h9 => h9) rfl aFG.2.2.2.2.2.2.2.2.2.2.2.2.2.1 ?_
    refine lv_iload_n hx hb aFG.2.2.2.2.2.2.2.2.2.2.2.2.2.2.1 rfl (lv_at hl 2 rfl) ?_
    refine lv_bipush (v := 21) hx hb aFG.2.2.2.2.2.2.2.2.2.2.2.2.2.2.2 bp_21 ?_
    refine lv_iadd hx hb aEj.1 ?_
    refine lv_topi (fun v_5 aJD => ?_)
    have hp := hp v_5 aJD
    have hin := hp.1
    have hp := hp.2
    refine va_iald hx hb hK hP 1 0 rfl rfl hin aEj.2.1 ?_
    refine lv_topi (fun v_6 ev_6 => ?_)
    have hp := hp v_6 ev_6
    have hin := hp.1
    have hp := hp.2
    refine va_iast hx hb hK hP hD hS 1 0 rfl rfl hin aEj.2.2.1 (fun H locs hP hD hS => ?_)
    have hPD := PDw (ws' := (aGs cI cC cZ cB cJ a_m nY sJ eG iY lY jR jW jZ jO oQ bR aY jQ gY iJ mQ lJ jA bG mK jB mW mJ eJ dG bT aG jC bL bY jD mLn oF rP dQ aJ aB bW bZ aR aE bI aW bU fJ dO bM bQ bO jY oX (upd uL x2.toNatClampNeg v_6) vF)) hP hD rfl
    have hP := hPD.1
    have hD := hPD.2
    obtain ⟨v_7, ev_7⟩ : ∃ y : Int32, y = x2 + 1 := ⟨_, rfl⟩
    refine lv_iinc (v := v_7) (lv' := [(2, .int v_7), (0, .ref a_m), (1, .ref iJ)]) hx hb aEj.2.2.2.1 hl (k := 2) rfl (by rw [ev_7]; rfl) (by decide) rfl (fun ls hl => ?_)
    have hp := hp v_7 ev_7
    refine lv_goto (tgt := 11) hx hb aEj.2.2.2.2.1 (by decide) ?_
    exact hKn v_7 bU (upd uL x2.toNatClampNeg v_6) H locs ls hp hP hD hS (lv_sub hl [1, 2, 0] rfl)
set_option maxHeartbeats 4000000 in
set_option maxRecDepth 100000 in
theorem kb_X10_remember_b2_11 (C0 : gc aDP none 3 zX (dC, dI) (tyl cI cC cZ cB cJ) A p s m args meth c) : ∀ (n : Nat), ∀ (x2 bU : Int32) (uL : Nat -> Int32) (H : Heap) (locs : List Loc) (ls : Array Slot), (wb_X10_remember_b2_11 post vF n) x2 bU uL -> va_P (dC, dI) classes (aGs cI cC cZ cB cJ a_m nY sJ eG iY lY jR jW jZ jO oQ bR aY jQ gY iJ mQ lJ jA bG mK jB mW mJ eJ dG bT aG jC bL bY jD mLn oF rP dQ aJ aB bW bZ aR aE bI aW bU fJ dO bM bQ bO jY oX uL vF) H -> va_D A (aGs cI cC cZ cB cJ a_m nY sJ eG iY lY jR jW jZ jO oQ bR aY jQ gY iJ mQ lJ jA bG mK jB mW mJ eJ dG bT aG jC bL bY jD mLn oF rP dQ aJ aB bW bZ aR aE bI aW bU fJ dO bM bQ bO jY oX uL vF) -> va_S A s.heap H locs -> lv_has ls 3 [(0, .ref a_m), (1, .ref iJ), (2, .int x2)] -> W p l e rm_X10_remember_b2 s m args below meth c H locs 0 0 (MQ below (q_X10_remember_b2 dC dI cI cC cZ cB cJ A a_m nY sJ eG iY lY jR jW jZ jO oQ bR aY jQ gY iJ mQ lJ jA bG mK jB mW mJ eJ dG bT aG jC bL bY jD mLn oF rP dQ aJ aB bW bZ aR aE bI aW fJ dO bM bQ bO jY oX vF post) args s 0 0 A) (F0 m 11 ls []) := by
  intro n
  induction n with
  | zero =>
    intro x2 bU uL H locs ls hp
    exact False.elim hp
  | succ n ih =>
    intro x2 bU uL H locs ls hp
    exact ks_X10_remember_b2_11 C0 ih x2 bU uL H locs ls hp
end S_X10_remember_b2
def bBu (post : Int32 -> (Nat -> Int32) -> Prop) (bU : Int32) (uL vF : Nat -> Int32) : Prop := (¬ bU = 12 -> aYJ post vF bU uL) /\ (bU = 12 -> ∃ n : Nat, wb_X10_remember_b2_11 post vF n 0 bU uL)
set_option maxHeartbeats 4000000 in
set_option maxRecDepth 100000 in
theorem c_X10_remember_b2 (l : Launch) (dC : Nat -> ClassId) (dI : Nat -> Nat -> Nat) (cI cC cZ cB cJ : ClassId) (a_m nY sJ eG iY lY jR jW jZ jO oQ bR aY jQ gY iJ mQ lJ jA bG mK jB mW mJ eJ dG sz : Nat) (bT aG jC bL bY : Int32) (jD : Nat) (mLn oF rP dQ aJ aB bW bZ aR aE bI aW bU fJ dO bM bQ bO jY oX : Int32) (uL vF : Nat -> Int32) (post : Int32 -> (Nat -> Int32) -> Prop) (hw : bBu post bU uL vF) : Met l aZg (gw aZg aDP 3 none) rm_X10_remember_b2 (va_Pc [.ref a_m, .ref iJ] (gPre (dC, dI) (tyl cI cC cZ cB cJ) (aGs cI cC cZ cB cJ a_m nY sJ eG iY lY jR jW jZ jO oQ bR aY jQ gY iJ mQ lJ jA bG mK jB mW mJ eJ dG bT aG jC bL bY jD mLn oF rP dQ aJ aB bW bZ aR aE bI aW bU fJ dO bM bQ bO jY oX uL vF) sz)) (q_X10_remember_b2 dC dI cI cC cZ cB cJ (va_A (aGs cI cC cZ cB cJ a_m nY sJ eG iY lY jR jW jZ jO oQ bR aY jQ gY iJ mQ lJ jA bG mK jB mW mJ eJ dG bT aG jC bL bY jD mLn oF rP dQ aJ aB bW bZ aR aE bI aW bU fJ dO bM bQ bO jY oX uL vF) sz) a_m nY sJ eG iY lY jR jW jZ jO oQ bR aY jQ gY iJ mQ lJ jA bG mK jB mW mJ eJ dG bT aG jC bL bY jD mLn oF rP dQ aJ aB bW bZ aR aE bI aW fJ dO bM bQ bO jY oX vF post) 0 0 (va_A (aGs cI cC cZ cB cJ a_m nY sJ eG iY lY jR jW jZ jO oQ bR aY jQ gY iJ mQ lJ jA bG mK jB mW mJ eJ dG bT aG jC bL bY jD mLn oF rP dQ aJ aB bW bZ aR aE bI aW bU fJ dO bM bQ bO jY oX uL vF) sz) := by
  refine aBJ (own := zX) (dC, dI) (tyl cI cC cZ cB cJ) (aGs cI cC cZ cB cJ a_m nY sJ eG iY lY jR jW jZ jO oQ bR aY jQ gY iJ mQ lJ jA bG mK jB mW mJ eJ dG bT aG jC bL bY jD mLn oF rP dQ aJ aB bW bZ aR aE bI aW bU fJ dO bM bQ bO jY oX uL vF) sz [.ref a_m, .ref iJ] (fun A => q_X10_remember_b2 dC dI cI cC cZ cB cJ A a_m nY sJ eG iY lY jR jW jZ jO oQ bR aY jQ gY iJ mQ lJ jA bG mK jB mW mJ eJ dG bT aG jC bL bY jD mLn oF rP dQ aJ aB bW bZ aR aE bI aW fJ dO bM bQ bO jY oX vF post) aFY rfl (lbz rfl) ?_
  intro p e s m args below meth c A H locs ls C0 hP hD hS hl
  have hl : lv_has ls 3 [(0, .ref a_m), (1, .ref iJ)] := hl
  obtain ⟨hx, hb, hr, hml, hown, hts, hlocks, hA, hK, hN, tL, tM, hZL, hTL, hZM, hTM, hZX⟩ := id C0
  have hp := hw
  unfold bBu at hp
  refine lv_aload_n hx hb aFG.1 rfl (lv_at hl 0 rfl) ?_
  refine va_get (D := (dC, dI)) (ci := 10) (v := .int bU) (C := zX) (T := aBe) (N := 51) hx hb hts aAt hown hK hP 0 rfl rfl 32 (lbz rfl) (hts _ q_684) (fun _ h9 => h9) rfl aFG.2.1 ?_
  refine lv_bipush (v := 12) hx hb aFG.2.2.1 bp_12 ?_
  refine lv_icmp_ne (tgt := 49) hx hb aFG.2.2.2.1 (by decide) (fun hc => ?_) (fun hc => ?_)
  · have hp := hp.1 hc
    exact ks_X10_remember_b2_49 C0 bU uL H locs ls hp hP hD hS (lv_sub hl [0, 1] rfl)
  · have hp := hp.2 hc
    refine lv_iconst (v := 0) hx hb aFG.2.2.2.2.1 aCi ?_
    refine lv_istore_n (lv' := [(2, .int 0), (0, .ref a_m), (1, .ref iJ)]) hx hb aFG.2.2.2.2.2.1 rfl hl (by decide) rfl (fun ls hl => ?_)
    obtain ⟨n9, hp⟩ := hp
    exact kb_X10_remember_b2_11 C0 n9 0 bU uL H locs ls hp hP hD hS (lv_sub hl [1, 2, 0] rfl)
abbrev aD0 (cI cC cZ cB cJ : ClassId) (a_m nY sJ eG iY lY jR jW jZ jO oQ bR aY jQ gY iJ mQ lJ jA bG mK jB mW mJ eJ dG : Nat) (bT aG jC bL bY : Int32) (jD : Nat) (mLn oF rP dQ aJ aB bW bZ aR aE bI aW bU fJ dO bM bQ bO jY oX : Int32) (sW : Nat -> Int32) : va_W := [(a_m, .inr (10, [.ref nY, .int bT, .ref sJ, .ref eG, .ref iY, .ref lY, .int aG, .ref jR, .ref jW, .ref jZ, .ref jO, .int jC, .ref oQ, .int bL, .int bY, rdv jO jQ jD, .int mLn, .int oF, .int rP, .int dQ, .ref bR, .ref aY, .int aJ, .int aB, .ref jQ, .int bW, .int bZ, .int aR, .int aE, .int bI, .int aW, .ref gY, .int bU, .ref iJ, .ref mQ, .int fJ, .ref lJ, .int dO, .ref jA, .ref bG, .int bM, .int bQ, .int bO, .ref mK, .ref jB, .ref mW, .int jY, .int oX, .ref mJ, .ref eJ, .ref dG])), (oQ, .inl (cI, 32, .inl sW))]
abbrev q_X10_tell (dC : Nat -> ClassId) (dI : Nat -> Nat -> Nat) (cI cC cZ cB cJ : ClassId) (A : Nat -> Prop) (a_m nY sJ eG iY lY jR jW jZ jO oQ bR aY jQ gY iJ mQ lJ jA bG mK jB mW mJ eJ dG : Nat) (bT aG jC bY : Int32) (jD : Nat) (mLn oF rP dQ aJ aB bW bZ aR aE bI aW bU fJ dO bM bQ bO jY oX : Int32) (post : Int32 -> (Nat -> Int32) -> Prop) : Array Value -> State -> Outcome -> State -> Prop := va_Qv (fun (u : Int32 × (Nat -> Int32)) => post u.1 u.2) (fun u t => gB (dC, dI) (tyl cI cC cZ cB cJ) A (aD0 cI cC cZ cB cJ a_m nY sJ eG iY lY jR jW jZ jO oQ bR aY jQ gY iJ mQ lJ jA bG mK jB mW mJ eJ dG bT aG jC u.1 bY jD mLn oF rP dQ aJ aB bW bZ aR aE bI aW bU fJ dO bM bQ bO jY oX u.2) t) A
abbrev rm_X10_tell : Room := { frames := 0, cells := 0, slots := 0, locals := 0 }
def aDs (post : Int32 -> (Nat -> Int32) -> Prop) (p0 bL : Int32) (sW : Nat -> Int32) : Prop := vp_in bL 32 /\ (∀ v_1 : Int32, v_1 = bL + 1 -> post v_1 (upd sW bL.toNatClampNeg p0))
set_option maxHeartbeats 4000000 in
set_option maxRecDepth 100000 in
theorem aGE (l : Launch) (dC : Nat -> ClassId) (dI : Nat -> Nat -> Nat) (cI cC cZ cB cJ : ClassId) (a_m nY sJ eG iY lY jR jW jZ jO oQ bR aY jQ gY iJ mQ lJ jA bG mK jB mW mJ eJ dG sz : Nat) (p0 bT aG jC bL bY : Int32) (jD : Nat) (mLn oF rP dQ aJ aB bW bZ aR aE bI aW bU fJ dO bM bQ bO jY oX : Int32) (sW : Nat -> Int32) (post : Int32 -> (Nat -> Int32) -> Prop) (hw : aDs post p0 bL sW) : Met l yX10_tell (gw yX10_tell cX10_tell 2 none) rm_X10_tell (va_Pc [.ref a_m, .int p0] (gPre (dC, dI) (tyl cI cC cZ cB cJ) (aD0 cI cC cZ cB cJ a_m nY sJ eG iY lY jR jW jZ jO oQ bR aY jQ gY iJ mQ lJ jA bG mK jB mW mJ eJ dG bT aG jC bL bY jD mLn oF rP dQ aJ aB bW bZ aR aE bI aW bU fJ dO bM bQ bO jY oX sW) sz)) (q_X10_tell dC dI cI cC cZ cB cJ (va_A (aD0 cI cC cZ cB cJ a_m nY sJ eG iY lY jR jW jZ jO oQ bR aY jQ gY iJ mQ lJ jA bG mK jB mW mJ eJ dG bT aG jC bL bY jD mLn oF rP dQ aJ aB bW bZ aR aE bI aW bU fJ dO bM bQ bO jY oX sW) sz) a_m nY sJ eG iY lY jR jW jZ jO oQ bR aY jQ gY iJ mQ lJ jA bG mK jB mW mJ eJ dG bT aG jC bY jD mLn oF rP dQ aJ aB bW bZ aR aE bI aW bU fJ dO bM bQ bO jY oX post) 0 0 (va_A (aD0 cI cC cZ cB cJ a_m nY sJ eG iY lY jR jW jZ jO oQ bR aY jQ gY iJ mQ lJ jA bG mK jB mW mJ eJ dG bT aG jC bL bY jD mLn oF rP dQ aJ aB bW bZ aR aE bI aW bU fJ dO bM bQ bO jY oX sW) sz) := by
  refine aBJ (own := zX) (dC, dI) (tyl cI cC cZ cB cJ) (aD0 cI cC cZ cB cJ a_m nY sJ eG iY lY jR jW jZ jO oQ bR aY jQ gY iJ mQ lJ jA bG mK jB mW mJ eJ dG bT aG jC bL bY jD mLn oF rP dQ aJ aB bW bZ aR aE bI aW bU fJ dO bM bQ bO jY oX sW) sz [.ref a_m, .int p0] (fun A => q_X10_tell dC dI cI cC cZ cB cJ A a_m nY sJ eG iY lY jR jW jZ jO oQ bR aY jQ gY iJ mQ lJ jA bG mK jB mW mJ eJ dG bT aG jC bY jD mLn oF rP dQ aJ aB bW bZ aR aE bI aW bU fJ dO bM bQ bO jY oX post) aFY rfl (lbz rfl) ?_
  intro p e s m args below meth c A H locs ls C0 hP hD hS hl
  have hl : lv_has ls 2 [(0, .ref a_m), (1, .int p0)] := hl
  obtain ⟨hx, hb, hr, hml, hown, hts, hlocks, hA, hK, hN, tL, tM, hZL, hTL, hZM, hTM, hZX⟩ := id C0
  have hp := hw
  unfold aDs at hp
  refine lv_aload_n hx hb eX10_tell_0.1 rfl (lv_at hl 0 rfl) ?_
  refine va_get (D := (dC, dI)) (ci := 10) (v := .ref oQ) (C := zX) (T := aBe) (N := 51) hx hb hts aAt hown hK hP 0 rfl rfl 12 (lbz rfl) (hts _ q_846) (fun _ h9 => h9) rfl eX10_tell_0.2.1 ?_
  refine lv_aload_n hx hb eX10_tell_0.2.2.1 rfl (lv_at hl 0 rfl) ?_
  refine va_get (D := (dC, dI)) (ci := 10) (v := .int bL) (C := zX) (T := aBe) (N := 51) hx hb hts aAt hown hK hP 0 rfl rfl 13 (lbz rfl) (hts _ q_847) (fun _ h9 => h9) rfl eX10_tell_0.2.2.2.1 ?_
  refine lv_iload_n hx hb eX10_tell_0.2.2.2.2.1 rfl (lv_at hl 1 rfl) ?_
  have hin := hp.1
  have hp := hp.2
  refine va_iast hx hb hK hP hD hS 1 0 rfl rfl hin eX10_tell_0.2.2.2.2.2.1 (fun H locs hP hD hS => ?_)
  have hPD := PDw (ws' := (aD0 cI cC cZ cB cJ a_m nY sJ eG iY lY jR jW jZ jO oQ bR aY jQ gY iJ mQ lJ jA bG mK jB mW mJ eJ dG bT aG jC bL bY jD mLn oF rP dQ aJ aB bW bZ aR aE bI aW bU fJ dO bM bQ bO jY oX (upd sW bL.toNatClampNeg p0))) hP hD rfl
  have hP := hPD.1
  have hD := hPD.2
  refine lv_aload_n hx hb eX10_tell_0.2.2.2.2.2.2.1 rfl (lv_at hl 0 rfl) ?_
  refine lv_dup hx hb eX10_tell_0.2.2.2.2.2.2.2.1 rfl ?_
  refine va_get (D := (dC, dI)) (ci := 10) (v := .int bL) (C := zX) (T := aBe) (N := 51) hx hb hts aAt hown hK hP 0 rfl rfl 13 (lbz rfl) (hts _ q_847) (fun _ h9 => h9) rfl eX10_tell_0.2.2.2.2.2.2.2.2.1 ?_
  refine lv_iconst (v := 1) hx hb eX10_tell_0.2.2.2.2.2.2.2.2.2.1 aDx ?_
  refine lv_iadd hx hb eX10_tell_0.2.2.2.2.2.2.2.2.2.2.1 ?_
  refine lv_topi (fun v_1 aFJ => ?_)
  have hp := hp v_1 aFJ
  refine va_put (D := (dC, dI)) (ci := 10) (v := .int v_1) (ty := .int) (C := zX) (T := aBe) (N := 51) hx hb hts aAt aD2 aAa aEC hown hK hP hD hS 0 rfl rfl 13 (lbz rfl) (hts _ q_847) (fun _ h9 => h9) rfl (aAa 13 (lbz rfl)) rfl rfl (lbz rfl) eX10_tell_0.2.2.2.2.2.2.2.2.2.2.2.1 (fun H locs hP hD hS => ?_)
  have hPD := PDw (ws' := (aD0 cI cC cZ cB cJ a_m nY sJ eG iY lY jR jW jZ jO oQ bR aY jQ gY iJ mQ lJ jA bG mK jB mW mJ eJ dG bT aG jC v_1 bY jD mLn oF rP dQ aJ aB bW bZ aR aE bI aW bU fJ dO bM bQ bO jY oX (upd sW bL.toNatClampNeg p0))) hP hD rfl
  have hP := hPD.1
  have hD := hPD.2
  exact W.vret hx hb hr (fun t ht hW => ⟨⟨(v_1, (upd sW bL.toNatClampNeg p0)), rfl, hp, by rw [ht]; exact hP, va_K.moved hW.alike hK, hD⟩, hS.F ht⟩) hS.2.2 eX10_tell_0.2.2.2.2.2.2.2.2.2.2.2.2
abbrev aFx (cI cC cZ cB cJ : ClassId) (a_m nY sJ eG iY lY jR jW jZ jO oQ bR aY jQ gY iJ mQ lJ jA bG mK jB mW mJ eJ dG : Nat) (bT aG jC bL bY : Int32) (jD : Nat) (mLn oF rP dQ aJ aB bW bZ aR aE bI aW bU fJ dO bM bQ bO jY oX : Int32) (qG m_x gR pW qR nG oO pJ qO sW qQ uL vF wJ : Nat -> Int32) : va_W := [(a_m, .inr (10, [.ref nY, .int bT, .ref sJ, .ref eG, .ref iY, .ref lY, .int aG, .ref jR, .ref jW, .ref jZ, .ref jO, .int jC, .ref oQ, .int bL, .int bY, rdv jO jQ jD, .int mLn, .int oF, .int rP, .int dQ, .ref bR, .ref aY, .int aJ, .int aB, .ref jQ, .int bW, .int bZ, .int aR, .int aE, .int bI, .int aW, .ref gY, .int bU, .ref iJ, .ref mQ, .int fJ, .ref lJ, .int dO, .ref jA, .ref bG, .int bM, .int bQ, .int bO, .ref mK, .ref jB, .ref mW, .int jY, .int oX, .ref mJ, .ref eJ, .ref dG])), (nY, .inl (cI, 21, .inl qG)), (sJ, .inl (cI, 16, .inl m_x)), (eG, .inl (cI, 16, .inl gR)), (iY, .inl (cI, 16, .inl pW)), (lY, .inl (cI, 16, .inl qR)), (jR, .inl (cI, 8, .inl nG)), (jW, .inl (cI, 8, .inl oO)), (jZ, .inl (cI, 5, .inl pJ)), (jO, .inl (cB, 80, .inl qO)), (oQ, .inl (cI, 32, .inl sW)), (jQ, .inl (cB, 40, .inl qQ)), (gY, .inl (cI, 252, .inl uL)), (iJ, .inl (cI, 21, .inl vF)), (mQ, .inl (cI, 160, .inl wJ))]
abbrev q_X10_day (dC : Nat -> ClassId) (dI : Nat -> Nat -> Nat) (cI cC cZ cB cJ : ClassId) (A : Nat -> Prop) (a_m nY sJ eG iY lY jR jW jZ jO oQ bR aY jQ gY iJ mQ lJ jA bG mK jB mW mJ eJ dG : Nat) (bT aG aJ aB bW dO bM bQ bO jY oX : Int32) (m_x gR pW qR nG oO pJ qO qQ : Nat -> Int32) (post : Int32 -> Int32 -> Int32 -> Int32 -> Nat -> Int32 -> Int32 -> Int32 -> Int32 -> Int32 -> Int32 -> Int32 -> Int32 -> Int32 -> Int32 -> Int32 -> (Nat -> Int32) -> (Nat -> Int32) -> (Nat -> Int32) -> (Nat -> Int32) -> (Nat -> Int32) -> Prop) : Array Value -> State -> Outcome -> State -> Prop := va_Qi (fun (r : Int32) (u : Int32 × Int32 × Int32 × Nat × Int32 × Int32 × Int32 × Int32 × Int32 × Int32 × Int32 × Int32 × Int32 × Int32 × Int32 × (Nat -> Int32) × (Nat -> Int32) × (Nat -> Int32) × (Nat -> Int32) × (Nat -> Int32)) => post r u.1 u.2.1 u.2.2.1 u.2.2.2.1 u.2.2.2.2.1 u.2.2.2.2.2.1 u.2.2.2.2.2.2.1 u.2.2.2.2.2.2.2.1 u.2.2.2.2.2.2.2.2.1 u.2.2.2.2.2.2.2.2.2.1 u.2.2.2.2.2.2.2.2.2.2.1 u.2.2.2.2.2.2.2.2.2.2.2.1 u.2.2.2.2.2.2.2.2.2.2.2.2.1 u.2.2.2.2.2.2.2.2.2.2.2.2.2.1 u.2.2.2.2.2.2.2.2.2.2.2.2.2.2.1 u.2.2.2.2.2.2.2.2.2.2.2.2.2.2.2.1 u.2.2.2.2.2.2.2.2.2.2.2.2.2.2.2.2.1 u.2.2.2.2.2.2.2.2.2.2.2.2.2.2.2.2.2.1 u.2.2.2.2.2.2.2.2.2.2.2.2.2.2.2.2.2.2.1 u.2.2.2.2.2.2.2.2.2.2.2.2.2.2.2.2.2.2.2) (fun u t => gB (dC, dI) (tyl cI cC cZ cB cJ) A (aFx cI cC cZ cB cJ a_m nY sJ eG iY lY jR jW jZ jO oQ bR aY jQ gY iJ mQ lJ jA bG mK jB mW mJ eJ dG bT aG u.1 u.2.1 u.2.2.1 u.2.2.2.1 u.2.2.2.2.1 u.2.2.2.2.2.1 u.2.2.2.2.2.2.1 u.2.2.2.2.2.2.2.1 aJ aB bW u.2.2.2.2.2.2.2.2.1 u.2.2.2.2.2.2.2.2.2.1 u.2.2.2.2.2.2.2.2.2.2.1 u.2.2.2.2.2.2.2.2.2.2.2.1 u.2.2.2.2.2.2.2.2.2.2.2.2.1 u.2.2.2.2.2.2.2.2.2.2.2.2.2.1 u.2.2.2.2.2.2.2.2.2.2.2.2.2.2.1 dO bM bQ bO jY oX u.2.2.2.2.2.2.2.2.2.2.2.2.2.2.2.1 m_x gR pW qR nG oO pJ qO u.2.2.2.2.2.2.2.2.2.2.2.2.2.2.2.2.1 qQ u.2.2.2.2.2.2.2.2.2.2.2.2.2.2.2.2.2.1 u.2.2.2.2.2.2.2.2.2.2.2.2.2.2.2.2.2.2.1 u.2.2.2.2.2.2.2.2.2.2.2.2.2.2.2.2.2.2.2) t) A
abbrev rm_X10_day : Room := { frames := 268, cells := 0, slots := 0, locals := 8828 }
section S_X10_day
variable {p : Program} {l : Launch} {e : Env} {s : State} {m : MethodId} {args : Array Value} {below : List Frame} {meth : Method} {c : Code} {dC : Nat -> ClassId} {dI : Nat -> Nat -> Nat} {cI cC cZ cB cJ : ClassId} {A : Nat -> Prop} {a_m nY sJ eG iY lY jR jW jZ jO oQ bR aY jQ gY iJ mQ lJ jA bG mK jB mW mJ eJ dG : Nat} {bT aG aJ aB bW dO bM bQ bO jY oX : Int32} {m_x gR pW qR nG oO pJ qO qQ : Nat -> Int32} {post : Int32 -> Int32 -> Int32 -> Int32 -> Nat -> Int32 -> Int32 -> Int32 -> Int32 -> Int32 -> Int32 -> Int32 -> Int32 -> Int32 -> Int32 -> Int32 -> (Nat -> Int32) -> (Nat -> Int32) -> (Nat -> Int32) -> (Nat -> Int32) -> (Nat -> Int32) -> Prop}
def ws_X10_day_186 (post : Int32 -> Int32 -> Int32 -> Int32 -> Nat -> Int32 -> Int32 -> Int32 -> Int32 -> Int32 -> Int32 -> Int32 -> Int32 -> Int32 -> Int32 -> Int32 -> (Nat -> Int32) -> (Nat -> Int32) -> (Nat -> Int32) -> (Nat -> Int32) -> (Nat -> Int32) -> Prop) (bT aG bW : Int32) (m_x gR pW qR nG oO pJ qO qQ : Nat -> Int32) (x3 k1 jC bL bY : Int32) (jD : Nat) (mLn oF rP dQ bZ aR aE bI aW bU fJ : Int32) (qG sW uL vF wJ : Nat -> Int32) : Prop := aDs (fun aG6 aUs => aDs (fun aDZ aHj => post x3 jC aDZ bY jD mLn oF rP dQ bZ aR aE bI aW bU fJ qG aHj uL vF wJ) fJ aG6 aUs) k1 bL sW
set_option maxHeartbeats 4000000 in
set_option maxRecDepth 100000 in
theorem ks_X10_day_186 (C0 : gc aCe (some .int) 4 zX (dC, dI) (tyl cI cC cZ cB cJ) A p s m args meth c) : ∀ (x3 k1 jC bL bY : Int32) (jD : Nat) (mLn oF rP dQ bZ aR aE bI aW bU fJ : Int32) (qG sW uL vF wJ : Nat -> Int32) (H : Heap) (locs : List Loc) (ls : Array Slot), (ws_X10_day_186 post bT aG bW m_x gR pW qR nG oO pJ qO qQ) x3 k1 jC bL bY jD mLn oF rP dQ bZ aR aE bI aW bU fJ qG sW uL vF wJ -> va_P (dC, dI) classes (aFx cI cC cZ cB cJ a_m nY sJ eG iY lY jR jW jZ jO oQ bR aY jQ gY iJ mQ lJ jA bG mK jB mW mJ eJ dG bT aG jC bL bY jD mLn oF rP dQ aJ aB bW bZ aR aE bI aW bU fJ dO bM bQ bO jY oX qG m_x gR pW qR nG oO pJ qO sW qQ uL vF wJ) H -> va_D A (aFx cI cC cZ cB cJ a_m nY sJ eG iY lY jR jW jZ jO oQ bR aY jQ gY iJ mQ lJ jA bG mK jB mW mJ eJ dG bT aG jC bL bY jD mLn oF rP dQ aJ aB bW bZ aR aE bI aW bU fJ dO bM bQ bO jY oX qG m_x gR pW qR nG oO pJ qO sW qQ uL vF wJ) -> va_S A s.heap H locs -> lv_has ls 4 [(0, .ref a_m), (3, .int x3)] -> W p l e rm_X10_day s m args below meth c H locs 0 0 (MQ below (q_X10_day dC dI cI cC cZ cB cJ A a_m nY sJ eG iY lY jR jW jZ jO oQ bR aY jQ gY iJ mQ lJ jA bG mK jB mW mJ eJ dG bT aG aJ aB bW dO bM bQ bO jY oX m_x gR pW qR nG oO pJ qO qQ post) args s 0 0 A) (F0 m 186 ls [.int k1, .ref a_m]) := by
  obtain ⟨hx, hb, hr, hml, hown, hts, hlocks, hA, hK, hN, tL, tM, hZL, hTL, hZM, hTM, hZX⟩ := id C0
  intro x3 k1 jC bL bY jD mLn oF rP dQ bZ aR aE bI aW bU fJ qG sW uL vF wJ H locs ls hp hP hD hS hl
  unfold ws_X10_day_186 at hp
  have hm := mgk (wc := (aD0 cI cC cZ cB cJ a_m nY sJ eG iY lY jR jW jZ jO oQ bR aY jQ gY iJ mQ lJ jA bG mK jB mW mJ eJ dG bT aG jC bL bY jD mLn oF rP dQ aJ aB bW bZ aR aE bI aW bU fJ dO bM bQ bO jY oX sW)) hP mk_233 15 rfl rfl rfl
  refine aBn hP hD hS hA (yS mk_233) (aAi mk_233) hm.1 hm.2 (aAk _) (zW _) (zF (As := [.int k1]) (rest := []) C0 hP hD hS (yS mk_233) hm.1 (aAl _) 0 10 rfl rfl (aGE l dC dI cI cC cZ cB cJ a_m nY sJ eG iY lY jR jW jZ jO oQ bR aY jQ gY iJ mQ lJ jA bG mK jB mW mJ eJ dG H.size k1 bT aG jC bL bY jD mLn oF rP dQ aJ aB bW bZ aR aE bI aW bU fJ dO bM bQ bO jY oX sW _ hp) q_849 q_852 q_850 q_851 aBL aGF rfl rfl ⟨lbz rfl, lbz rfl⟩ rfl rfl hl.1 rfl (lv_room (lbz rfl)) aYU.2.2.2.2.2.2.2.2.1 ⟨Nat.zero_le _, Nat.zero_le _⟩) (fun u H locs hp hP hD hS => ?_)
  obtain ⟨aG6, aUs⟩ := u
  have hPD := PDm (ws' := (aFx cI cC cZ cB cJ a_m nY sJ eG iY lY jR jW jZ jO oQ bR aY jQ gY iJ mQ lJ jA bG mK jB mW mJ eJ dG bT aG jC aG6 bY jD mLn oF rP dQ aJ aB bW bZ aR aE bI aW bU fJ dO bM bQ bO jY oX qG m_x gR pW qR nG oO pJ qO aUs qQ uL vF wJ)) hP hD 15 rfl rfl rfl
  have hP := hPD.1
  have hD := hPD.2
  refine lv_aload_n hx hb aYU.2.2.2.2.2.2.2.2.2.1 rfl (lv_at hl 0 rfl) ?_
  refine lv_aload_n hx hb aYU.2.2.2.2.2.2.2.2.2.2.1 rfl (lv_at hl 0 rfl) ?_
  refine va_get (D := (dC, dI)) (ci := 10) (v := .int fJ) (C := zX) (T := aBe) (N := 51) hx hb hts aAt hown hK hP 0 rfl rfl 35 (lbz rfl) (hts _ q_845) (fun _ h9 => h9) rfl aYU.2.2.2.2.2.2.2.2.2.2.2.1 ?_
  have hm := mgk (wc := (aD0 cI cC cZ cB cJ a_m nY sJ eG iY lY jR jW jZ jO oQ bR aY jQ gY iJ mQ lJ jA bG mK jB mW mJ eJ dG bT aG jC aG6 bY jD mLn oF rP dQ aJ aB bW bZ aR aE bI aW bU fJ dO bM bQ bO jY oX aUs)) hP mk_233 15 rfl rfl rfl
  refine aBn hP hD hS hA (yS mk_233) (aAi mk_233) hm.1 hm.2 (aAk _) (zW _) (zF (As := [.int fJ]) (rest := []) C0 hP hD hS (yS mk_233) hm.1 (aAl _) 0 10 rfl rfl (aGE l dC dI cI cC cZ cB cJ a_m nY sJ eG iY lY jR jW jZ jO oQ bR aY jQ gY iJ mQ lJ jA bG mK jB mW mJ eJ dG H.size fJ bT aG jC aG6 bY jD mLn oF rP dQ aJ aB bW bZ aR aE bI aW bU fJ dO bM bQ bO jY oX aUs _ hp) q_849 q_852 q_850 q_851 aBL aGF rfl rfl ⟨lbz rfl, lbz rfl⟩ rfl rfl hl.1 rfl (lv_room (lbz rfl)) aYU.2.2.2.2.2.2.2.2.2.2.2.2.1 ⟨Nat.zero_le _, Nat.zero_le _⟩) (fun u H locs hp hP hD hS => ?_)
  obtain ⟨aDZ, aHj⟩ := u
  have hPD := PDm (ws' := (aFx cI cC cZ cB cJ a_m nY sJ eG iY lY jR jW jZ jO oQ bR aY jQ gY iJ mQ lJ jA bG mK jB mW mJ eJ dG bT aG jC aDZ bY jD mLn oF rP dQ aJ aB bW bZ aR aE bI aW bU fJ dO bM bQ bO jY oX qG m_x gR pW qR nG oO pJ qO aHj qQ uL vF wJ)) hP hD 15 rfl rfl rfl
  have hP := hPD.1
  have hD := hPD.2
  refine lv_iload_n hx hb aYU.2.2.2.2.2.2.2.2.2.2.2.2.2.1 rfl (lv_at hl 1 rfl) ?_
  exact W.iret (v := x3) hx hb hr (fun t ht hW => ⟨⟨x3, (jC, aDZ, bY, jD, mLn, oF, rP, dQ, bZ, aR, aE, bI, aW, bU, fJ, qG, aHj, uL, vF, wJ), rfl, hp, by rw [ht]; exact hP, va_K.moved hW.alike hK, hD⟩, hS.F ht⟩) hS.2.2 aYU.2.2.2.2.2.2.2.2.2.2.2.2.2.2
def ws_X10_day_170 (post : Int32 -> Int32 -> Int32 -> Int32 -> Nat -> Int32 -> Int32 -> Int32 -> Int32 -> Int32 -> Int32 -> Int32 -> Int32 -> Int32 -> Int32 -> Int32 -> (Nat -> Int32) -> (Nat -> Int32) -> (Nat -> Int32) -> (Nat -> Int32) -> (Nat -> Int32) -> Prop) (bT aG bW : Int32) (m_x gR pW qR nG oO pJ qO qQ : Nat -> Int32) (x1 x3 jC bL bY : Int32) (jD : Nat) (mLn oF rP dQ bZ aR aE bI aW bU fJ : Int32) (qG sW uL vF wJ : Nat -> Int32) : Prop := (x1 <= x3 -> ws_X10_day_186 post bT aG bW m_x gR pW qR nG oO pJ qO qQ x3 0 jC 0 bY jD mLn oF rP dQ bZ aR aE bI aW bU fJ qG sW uL vF wJ) /\ (¬ x1 <= x3 -> ws_X10_day_186 post bT aG bW m_x gR pW qR nG oO pJ qO qQ x3 1 jC 0 bY jD mLn oF rP dQ bZ aR aE bI aW bU fJ qG sW uL vF wJ)
set_option maxHeartbeats 4000000 in
set_option maxRecDepth 100000 in
theorem ks_X10_day_170 (C0 : gc aCe (some .int) 4 zX (dC, dI) (tyl cI cC cZ cB cJ) A p s m args meth c) : ∀ (x1 x3 jC bL bY : Int32) (jD : Nat) (mLn oF rP dQ bZ aR aE bI aW bU fJ : Int32) (qG sW uL vF wJ : Nat -> Int32) (H : Heap) (locs : List Loc) (ls : Array Slot), (ws_X10_day_170 post bT aG bW m_x gR pW qR nG oO pJ qO qQ) x1 x3 jC bL bY jD mLn oF rP dQ bZ aR aE bI aW bU fJ qG sW uL vF wJ -> va_P (dC, dI) classes (aFx cI cC cZ cB cJ a_m nY sJ eG iY lY jR jW jZ jO oQ bR aY jQ gY iJ mQ lJ jA bG mK jB mW mJ eJ dG bT aG jC bL bY jD mLn oF rP dQ aJ aB bW bZ aR aE bI aW bU fJ dO bM bQ bO jY oX qG m_x gR pW qR nG oO pJ qO sW qQ uL vF wJ) H -> va_D A (aFx cI cC cZ cB cJ a_m nY sJ eG iY lY jR jW jZ jO oQ bR aY jQ gY iJ mQ lJ jA bG mK jB mW mJ eJ dG bT aG jC bL bY jD mLn oF rP dQ aJ aB bW bZ aR aE bI aW bU fJ dO bM bQ bO jY oX qG m_x gR pW qR nG oO pJ qO sW qQ uL vF wJ) -> va_S A s.heap H locs -> lv_has ls 4 [(0, .ref a_m), (1, .int x1), (3, .int x3)] -> W p l e rm_X10_day s m args below meth c H locs 0 0 (MQ below (q_X10_day dC dI cI cC cZ cB cJ A a_m nY sJ eG iY lY jR jW jZ jO oQ bR aY jQ gY iJ mQ lJ jA bG mK jB mW mJ eJ dG bT aG aJ aB bW dO bM bQ bO jY oX m_x gR pW qR nG oO pJ qO qQ post) args s 0 0 A) (F0 m 170 ls []) := by
  obtain ⟨hx, hb, hr, hml, hown, hts, hlocks, hA, hK, hN, tL, tM, hZL, hTL, hZM, hTM, hZX⟩ := id C0
  intro x1 x3 jC bL bY jD mLn oF rP dQ bZ aR aE bI aW bU fJ qG sW uL vF wJ H locs ls hp hP hD hS hl
  unfold ws_X10_day_170 at hp
  refine lv_aload_n hx hb aVw.2.2.2.2.2.2.2.2.2.2.2.2.2.2.1 rfl (lv_at hl 0 rfl) ?_
  refine lv_iconst (v := 0) hx hb aVw.2.2.2.2.2.2.2.2.2.2.2.2.2.2.2 aCi ?_
  refine va_put (D := (dC, dI)) (ci := 10) (v := .int 0) (ty := .int) (C := zX) (T := aBe) (N := 51) hx hb hts aAt aD2 aAa aEC hown hK hP hD hS 0 rfl rfl 13 (lbz rfl) (hts _ q_847) (fun _ h9 => h9) rfl (aAa 13 (lbz rfl)) rfl rfl (lbz rfl) aYU.1 (fun H locs hP hD hS => ?_)
  have hPD := PDw (ws' := (aFx cI cC cZ cB cJ a_m nY sJ eG iY lY jR jW jZ jO oQ bR aY jQ gY iJ mQ lJ jA bG mK jB mW mJ eJ dG bT aG jC 0 bY jD mLn oF rP dQ aJ aB bW bZ aR aE bI aW bU fJ dO bM bQ bO jY oX qG m_x gR pW qR nG oO pJ qO sW qQ uL vF wJ)) hP hD rfl
  have hP := hPD.1
  have hD := hPD.2
  refine lv_aload_n hx hb aYU.2.1 rfl (lv_at hl 0 rfl) ?_
  refine lv_iload_n hx hb aYU.2.2.1 rfl (lv_at hl 2 rfl) ?_
  refine lv_iload_n hx hb aYU.2.2.2.1 rfl (lv_at hl 1 rfl) ?_
  refine lv_icmp_ge (tgt := 185) hx hb aYU.2.2.2.2.1 (by decide) (fun hc => ?_) (fun hc => ?_)
  · have hp := hp.1 hc
    refine lv_iconst (v := 0) hx hb aYU.2.2.2.2.2.2.2.1 aCi ?_
    exact ks_X10_day_186 C0 x3 0 jC 0 bY jD mLn oF rP dQ bZ aR aE bI aW bU fJ qG sW uL vF wJ H locs ls hp hP hD hS (lv_sub hl [0, 2] rfl)
  · have hp := hp.2 hc
    refine lv_iconst (v := 1) hx hb aYU.2.2.2.2.2.1 aDx ?_
    refine lv_goto (tgt := 186) hx hb aYU.2.2.2.2.2.2.1 (by decide) ?_
    exact ks_X10_day_186 C0 x3 1 jC 0 bY jD mLn oF rP dQ bZ aR aE bI aW bU fJ qG sW uL vF wJ H locs ls hp hP hD hS (lv_sub hl [0, 2] rfl)
def ws_X10_day_158 (post : Int32 -> Int32 -> Int32 -> Int32 -> Nat -> Int32 -> Int32 -> Int32 -> Int32 -> Int32 -> Int32 -> Int32 -> Int32 -> Int32 -> Int32 -> Int32 -> (Nat -> Int32) -> (Nat -> Int32) -> (Nat -> Int32) -> (Nat -> Int32) -> (Nat -> Int32) -> Prop) (bT aG bW : Int32) (m_x gR pW qR nG oO pJ qO qQ : Nat -> Int32) (x1 x3 jC bL bY : Int32) (jD : Nat) (mLn oF rP dQ bZ aR aE bI aW bU fJ : Int32) (qG sW uL vF wJ : Nat -> Int32) : Prop := (x3 <= 0 -> ws_X10_day_170 post bT aG bW m_x gR pW qR nG oO pJ qO qQ x1 x3 jC bL bY jD mLn oF rP dQ bZ aR aE bI aW bU fJ qG sW uL vF wJ) /\ (¬ x3 <= 0 -> bBu (fun m_undoMany_12 m_undos_13 => ws_X10_day_170 post bT aG bW m_x gR pW qR nG oO pJ qO qQ x1 x3 jC bL bY jD mLn oF rP dQ bZ aR aE bI aW m_undoMany_12 fJ qG sW m_undos_13 vF wJ) bU uL vF)
set_option maxHeartbeats 4000000 in
set_option maxRecDepth 100000 in
theorem ks_X10_day_158 (C0 : gc aCe (some .int) 4 zX (dC, dI) (tyl cI cC cZ cB cJ) A p s m args meth c) : ∀ (x1 x3 jC bL bY : Int32) (jD : Nat) (mLn oF rP dQ bZ aR aE bI aW bU fJ : Int32) (qG sW uL vF wJ : Nat -> Int32) (H : Heap) (locs : List Loc) (ls : Array Slot), (ws_X10_day_158 post bT aG bW m_x gR pW qR nG oO pJ qO qQ) x1 x3 jC bL bY jD mLn oF rP dQ bZ aR aE bI aW bU fJ qG sW uL vF wJ -> va_P (dC, dI) classes (aFx cI cC cZ cB cJ a_m nY sJ eG iY lY jR jW jZ jO oQ bR aY jQ gY iJ mQ lJ jA bG mK jB mW mJ eJ dG bT aG jC bL bY jD mLn oF rP dQ aJ aB bW bZ aR aE bI aW bU fJ dO bM bQ bO jY oX qG m_x gR pW qR nG oO pJ qO sW qQ uL vF wJ) H -> va_D A (aFx cI cC cZ cB cJ a_m nY sJ eG iY lY jR jW jZ jO oQ bR aY jQ gY iJ mQ lJ jA bG mK jB mW mJ eJ dG bT aG jC bL bY jD mLn oF rP dQ aJ aB bW bZ aR aE bI aW bU fJ dO bM bQ bO jY oX qG m_x gR pW qR nG oO pJ qO sW qQ uL vF wJ) -> va_S A s.heap H locs -> lv_has ls 4 [(0, .ref a_m), (1, .int x1), (3, .int x3)] -> W p l e rm_X10_day s m args below meth c H locs 0 0 (MQ below (q_X10_day dC dI cI cC cZ cB cJ A a_m nY sJ eG iY lY jR jW jZ jO oQ bR aY jQ gY iJ mQ lJ jA bG mK jB mW mJ eJ dG bT aG aJ aB bW dO bM bQ bO jY oX m_x gR pW qR nG oO pJ qO qQ post) args s 0 0 A) (F0 m 158 ls []) := by
  obtain ⟨hx, hb, hr, hml, hown, hts, hlocks, hA, hK, hN, tL, tM, hZL, hTL, hZM, hTM, hZX⟩ := id C0
  intro x1 x3 jC bL bY jD mLn oF rP dQ bZ aR aE bI aW bU fJ qG sW uL vF wJ H locs ls hp hP hD hS hl
  unfold ws_X10_day_158 at hp
  refine lv_iload_n hx hb aVw.2.2.2.2.2.2.2.2.1 rfl (lv_at hl 2 rfl) ?_
  refine lv_if_le (tgt := 170) hx hb aVw.2.2.2.2.2.2.2.2.2.1 (by decide) (fun hc => ?_) (fun hc => ?_)
  · have hp := hp.1 hc
    exact ks_X10_day_170 C0 x1 x3 jC bL bY jD mLn oF rP dQ bZ aR aE bI aW bU fJ qG sW uL vF wJ H locs ls hp hP hD hS (lv_sub hl [0, 1, 2] rfl)
  · have hp := hp.2 hc
    refine lv_aload_n hx hb aVw.2.2.2.2.2.2.2.2.2.2.1 rfl (lv_at hl 0 rfl) ?_
    refine lv_aload_n hx hb aVw.2.2.2.2.2.2.2.2.2.2.2.1 rfl (lv_at hl 0 rfl) ?_
    refine va_get (D := (dC, dI)) (ci := 10) (v := .ref iJ) (C := zX) (T := aBe) (N := 51) hx hb hts aAt hown hK hP 0 rfl rfl 33 (lbz rfl) (hts _ q_848) (fun _ h9 => h9) rfl aVw.2.2.2.2.2.2.2.2.2.2.2.2.1 ?_
    have hm := mgk (wc := (aGs cI cC cZ cB cJ a_m nY sJ eG iY lY jR jW jZ jO oQ bR aY jQ gY iJ mQ lJ jA bG mK jB mW mJ eJ dG bT aG jC bL bY jD mLn oF rP dQ aJ aB bW bZ aR aE bI aW bU fJ dO bM bQ bO jY oX uL vF)) hP mk_234 15 rfl rfl rfl
    refine aBn hP hD hS hA (yS mk_234) (aAi mk_234) hm.1 hm.2 (aAk _) (zW _) (zF (As := [.ref iJ]) (rest := []) C0 hP hD hS (yS mk_234) hm.1 (aAl _) 0 10 rfl rfl (c_X10_remember_b2 l dC dI cI cC cZ cB cJ a_m nY sJ eG iY lY jR jW jZ jO oQ bR aY jQ gY iJ mQ lJ jA bG mK jB mW mJ eJ dG H.size bT aG jC bL bY jD mLn oF rP dQ aJ aB bW bZ aR aE bI aW bU fJ dO bM bQ bO jY oX uL vF _ hp) q_787 q_790 q_788 q_789 aBL h_X10_remember rfl rfl ⟨lbz rfl, lbz rfl⟩ rfl rfl hl.1 rfl (lv_room (lbz rfl)) aVw.2.2.2.2.2.2.2.2.2.2.2.2.2.1 ⟨Nat.zero_le _, Nat.zero_le _⟩) (fun u H locs hp hP hD hS => ?_)
    obtain ⟨m_undoMany_12, m_undos_13⟩ := u
    have hPD := PDm (ws' := (aFx cI cC cZ cB cJ a_m nY sJ eG iY lY jR jW jZ jO oQ bR aY jQ gY iJ mQ lJ jA bG mK jB mW mJ eJ dG bT aG jC bL bY jD mLn oF rP dQ aJ aB bW bZ aR aE bI aW m_undoMany_12 fJ dO bM bQ bO jY oX qG m_x gR pW qR nG oO pJ qO sW qQ m_undos_13 vF wJ)) hP hD 15 rfl rfl rfl
    have hP := hPD.1
    have hD := hPD.2
    exact ks_X10_day_170 C0 x1 x3 jC bL bY jD mLn oF rP dQ bZ aR aE bI aW m_undoMany_12 fJ qG sW m_undos_13 vF wJ H locs ls hp hP hD hS (lv_sub hl [0, 1, 2] rfl)
def ws_X10_day_122 (post : Int32 -> Int32 -> Int32 -> Int32 -> Nat -> Int32 -> Int32 -> Int32 -> Int32 -> Int32 -> Int32 -> Int32 -> Int32 -> Int32 -> Int32 -> Int32 -> (Nat -> Int32) -> (Nat -> Int32) -> (Nat -> Int32) -> (Nat -> Int32) -> (Nat -> Int32) -> Prop) (next : Int32 -> Int32 -> Int32 -> Int32 -> Int32 -> Nat -> Int32 -> Int32 -> Int32 -> Int32 -> Int32 -> Int32 -> Int32 -> Int32 -> Int32 -> Int32 -> Int32 -> (Nat -> Int32) -> (Nat -> Int32) -> (Nat -> Int32) -> (Nat -> Int32) -> (Nat -> Int32) -> Prop) (bT aG bW : Int32) (m_x gR pW qR nG oO pJ qO qQ : Nat -> Int32) (x1 x3 jC bL bY : Int32) (jD : Nat) (mLn oF rP dQ bZ aR aE bI aW bU fJ : Int32) (qG sW uL vF wJ : Nat -> Int32) : Prop := (x1 <= x3 -> ws_X10_day_158 post bT aG bW m_x gR pW qR nG oO pJ qO qQ x1 x3 jC bL bY jD mLn oF rP dQ bZ aR aE bI aW bU fJ qG sW uL vF wJ) /\ (¬ x1 <= x3 -> ∀ aGC : Int32, aGC = 2 * x3 -> vp_in aGC 160 /\ (∀ aHe : Int32, aHe = wJ aGC.toNatClampNeg -> ∀ aHb : Int32, aHb = 2 * x3 -> ∀ v_17 : Int32, v_17 = aHb + 1 -> vp_in v_17 160 /\ (∀ v_18 : Int32, v_18 = wJ v_17.toNatClampNeg -> aVD (fun r_19 m_read_20 m_length_21 m_top_22 m_at_23 m_wrong_24 m_isAsked_25 aYy aR0 bBj aYx m_picked_30 m_now_31 => (r_19 = 0 -> ws_X10_day_158 post bT aG bW m_x gR pW qR nG oO pJ qO qQ x1 x3 jC bL bY m_read_20 m_length_21 m_top_22 m_at_23 m_wrong_24 m_isAsked_25 aYy aR0 bBj aYx bU m_picked_30 m_now_31 sW uL vF wJ) /\ (¬ r_19 = 0 -> ∀ v_32 : Int32, v_32 = x3 + 1 -> next x1 v_32 jC bL bY m_read_20 m_length_21 m_top_22 m_at_23 m_wrong_24 m_isAsked_25 aYy aR0 bBj aYx bU m_picked_30 m_now_31 sW uL vF wJ)) aHe v_18 bT aG jD mLn oF rP dQ bW bZ aR aE bI aW fJ qG m_x gR pW qR nG oO pJ qO qQ)))
noncomputable def wb_X10_day_122 (post : Int32 -> Int32 -> Int32 -> Int32 -> Nat -> Int32 -> Int32 -> Int32 -> Int32 -> Int32 -> Int32 -> Int32 -> Int32 -> Int32 -> Int32 -> Int32 -> (Nat -> Int32) -> (Nat -> Int32) -> (Nat -> Int32) -> (Nat -> Int32) -> (Nat -> Int32) -> Prop) (bT aG bW : Int32) (m_x gR pW qR nG oO pJ qO qQ : Nat -> Int32) : Nat -> Int32 -> Int32 -> Int32 -> Int32 -> Int32 -> Nat -> Int32 -> Int32 -> Int32 -> Int32 -> Int32 -> Int32 -> Int32 -> Int32 -> Int32 -> Int32 -> Int32 -> (Nat -> Int32) -> (Nat -> Int32) -> (Nat -> Int32) -> (Nat -> Int32) -> (Nat -> Int32) -> Prop := fun n => Nat.rec (motive := fun _ => Int32 -> Int32 -> Int32 -> Int32 -> Int32 -> Nat -> Int32 -> Int32 -> Int32 -> Int32 -> Int32 -> Int32 -> Int32 -> Int32 -> Int32 -> Int32 -> Int32 -> (Nat -> Int32) -> (Nat -> Int32) -> (Nat -> Int32) -> (Nat -> Int32) -> (Nat -> Int32) -> Prop) (fun _ _ _ _ _ _ _ _ _ _ _ _ _ _ _ _ _ _ _ _ _ _ => False) (fun _ ih => ws_X10_day_122 post ih bT aG bW m_x gR pW qR nG oO pJ qO qQ) n
set_option maxHeartbeats 4000000 in
set_option maxRecDepth 100000 in
theorem ks_X10_day_122 (C0 : gc aCe (some .int) 4 zX (dC, dI) (tyl cI cC cZ cB cJ) A p s m args meth c) {next : Int32 -> Int32 -> Int32 -> Int32 -> Int32 -> Nat -> Int32 -> Int32 -> Int32 -> Int32 -> Int32 -> Int32 -> Int32 -> Int32 -> Int32 -> Int32 -> Int32 -> (Nat -> Int32) -> (Nat -> Int32) -> (Nat -> Int32) -> (Nat -> Int32) -> (Nat -> Int32) -> Prop} (hKn : ∀ (x1 : Int32) (x3 : Int32) (jC : Int32) (bL : Int32) (bY : Int32) (jD : Nat) (mLn : Int32) (oF : Int32) (rP : Int32) (dQ : Int32) (bZ : Int32) (aR : Int32) (aE : Int32) (bI : Int32) (aW : Int32) (bU : Int32) (fJ : Int32) (qG : Nat -> Int32) (sW : Nat -> Int32) (uL : Nat -> Int32) (vF : Nat -> Int32) (wJ : Nat -> Int32) (H : Heap) (locs : List Loc) (ls : Array Slot), next x1 x3 jC bL bY jD mLn oF rP dQ bZ aR aE bI aW bU fJ qG sW uL vF wJ -> va_P (dC, dI) classes (aFx cI cC cZ cB cJ a_m nY sJ eG iY lY jR jW jZ jO oQ bR aY jQ gY iJ mQ lJ jA bG mK jB mW mJ eJ dG bT aG jC bL bY jD mLn oF rP dQ aJ aB bW bZ aR aE bI aW bU fJ dO bM bQ bO jY oX qG m_x gR pW qR nG oO pJ qO sW qQ uL vF wJ) H -> va_D A (aFx cI cC cZ cB cJ a_m nY sJ eG iY lY jR jW jZ jO oQ bR aY jQ gY iJ mQ lJ jA bG mK jB mW mJ eJ dG bT aG jC bL bY jD mLn oF rP dQ aJ aB bW bZ aR aE bI aW bU fJ dO bM bQ bO jY oX qG m_x gR pW qR nG oO pJ qO sW qQ uL vF wJ) -> va_S A s.heap H locs -> lv_has ls 4 [(0, .ref a_m), (1, .int x1), (3, .int x3)] -> W p l e rm_X10_day s m args below meth c H locs 0 0 (MQ below (q_X10_day dC dI cI cC cZ cB cJ A a_m nY sJ eG iY lY jR jW jZ jO oQ bR aY jQ gY iJ mQ lJ jA bG mK jB mW mJ eJ dG bT aG aJ aB bW dO bM bQ bO jY oX m_x gR pW qR nG oO pJ qO qQ post) args s 0 0 A) (F0 m 122 ls [])) : ∀ (x1 x3 jC bL bY : Int32) (jD : Nat) (mLn oF rP dQ bZ aR aE bI aW bU fJ : Int32) (qG sW uL vF wJ : Nat -> Int32) (H : Heap) (locs : List Loc) (ls : Array Slot), (ws_X10_day_122 post next bT aG bW m_x gR pW qR nG oO pJ qO qQ) x1 x3 jC bL bY jD mLn oF rP dQ bZ aR aE bI aW bU fJ qG sW uL vF wJ -> va_P (dC, dI) classes (aFx cI cC cZ cB cJ a_m nY sJ eG iY lY jR jW jZ jO oQ bR aY jQ gY iJ mQ lJ jA bG mK jB mW mJ eJ dG bT aG jC bL bY jD mLn oF rP dQ aJ aB bW bZ aR aE bI aW bU fJ dO bM bQ bO jY oX qG m_x gR pW qR nG oO pJ qO sW qQ uL vF wJ) H -> va_D A (aFx cI cC cZ cB cJ a_m nY sJ eG iY lY jR jW jZ jO oQ bR aY jQ gY iJ mQ lJ jA bG mK jB mW mJ eJ dG bT aG jC bL bY jD mLn oF rP dQ aJ aB bW bZ aR aE bI aW bU fJ dO bM bQ bO jY oX qG m_x gR pW qR nG oO pJ qO sW qQ uL vF wJ) -> va_S A s.heap H locs -> lv_has ls 4 [(0, .ref a_m), (1, .int x1), (3, .int x3)] -> W p l e rm_X10_day s m args below meth c H locs 0 0 (MQ below (q_X10_day dC dI cI cC cZ cB cJ A a_m nY sJ eG iY lY jR jW jZ jO oQ bR aY jQ gY iJ mQ lJ jA bG mK jB mW mJ eJ dG bT aG aJ aB bW dO bM bQ bO jY oX m_x gR pW qR nG oO pJ qO qQ post) args s 0 0 A) (F0 m 122 ls []) := by
  obtain ⟨hx, hb, hr, hml, hown, hts, hlocks, hA, hK, hN, tL, tM, hZL, hTL, hZM, hTM, hZX⟩ := id C0
  intro x1 x3 jC bL bY jD mLn oF rP dQ bZ aR aE bI aW bU fJ qG sW uL vF wJ H locs ls hp hP hD hS hl
  unfold ws_X10_day_122 at hp
  refine lv_iload_n hx hb aVv.2.2.1 rfl (lv_at hl 2 rfl) ?_
  refine lv_iload_n hx hb aVv.2.2.2.1 rfl (lv_at hl 1 rfl) ?_
  refine lv_icmp_ge (tgt := 158) hx hb aVv.2.2.2.2.1 (by decide) (fun hc => ?_) (fun hc => ?_)
  · have hp := hp.1 hc
    exact ks_X10_day_158 C0 x1 x3 jC bL bY jD mLn oF rP dQ bZ aR aE bI aW bU fJ qG sW uL vF wJ H locs ls hp hP hD hS (lv_sub hl [0, 1, 2] rfl)
  · have hp := hp.2 hc
    refine lv_aload_n hx hb aVv.2.2.2.2.2.1 rfl (lv_at hl 0 rfl) ?_
    refine lv_aload_n hx hb aVv.2.2.2.2.2.2.1 rfl (lv_at hl 0 rfl) ?_
    refine va_get (D := (dC, dI)) (ci := 10) (v := .ref mQ) (C := zX) (T := aBe) (N := 51) hx hb hts aAt hown hK hP 0 rfl rfl 34 (lbz rfl) (hts _ q_844) (fun _ h9 => h9) rfl aVv.2.2.2.2.2.2.2.1 ?_
    refine lv_iconst (v := 2) hx hb aVv.2.2.2.2.2.2.2.2.1 ic_2 ?_
    refine lv_iload_n hx hb aVv.2.2.2.2.2.2.2.2.2.1 rfl (lv_at hl 2 rfl) ?_
    refine lv_imul hx hb aVv.2.2.2.2.2.2.2.2.2.2.1 ?_
    refine lv_topi (fun aGC ev_14 => ?_)
    have hp := hp aGC ev_14
    have hin := hp.1
    have hp := hp.2
    refine va_iald hx hb hK hP 14 0 rfl rfl hin aVv.2.2.2.2.2.2.2.2.2.2.2.1 ?_
    refine lv_topi (fun aHe ev_15 => ?_)
    have hp := hp aHe ev_15
    refine lv_aload_n hx hb aVv.2.2.2.2.2.2.2.2.2.2.2.2.1 rfl (lv_at hl 0 rfl) ?_
    refine va_get (D := (dC, dI)) (ci := 10) (v := .ref mQ) (C := zX) (T := aBe) (N := 51) hx hb hts aAt hown hK hP 0 rfl rfl 34 (lbz rfl) (hts _ q_844) (fun _ h9 => h9) rfl aVv.2.2.2.2.2.2.2.2.2.2.2.2.2.1 ?_
    refine lv_iconst (v := 2) hx hb aVv.2.2.2.2.2.2.2.2.2.2.2.2.2.2.1 ic_2 ?_
    refine lv_iload_n hx hb aVv.2.2.2.2.2.2.2.2.2.2.2.2.2.2.2 rfl (lv_at hl 2 rfl) ?_
    refine lv_imul hx hb aVw.1 ?_
    refine lv_topi (fun aHb ev_16 => ?_)
    have hp := hp aHb ev_16
    refine lv_iconst (v := 1) hx hb aVw.2.1 aDx ?_
    refine lv_iadd hx hb aVw.2.2.1 ?_
    refine lv_topi (fun v_17 ev_17 => ?_)
    have hp := hp v_17 ev_17
    have hin := hp.1
    have hp := hp.2
    refine va_iald hx hb hK hP 14 0 rfl rfl hin aVw.2.2.2.1 ?_
    refine lv_topi (fun v_18 ev_18 => ?_)
    have hp := hp v_18 ev_18
    have hm := mgk (wc := (aMw cI cC cZ cB cJ a_m nY sJ eG iY lY jR jW jZ jO oQ bR aY jQ gY iJ mQ lJ jA bG mK jB mW mJ eJ dG bT aG jC bL bY jD mLn oF rP dQ aJ aB bW bZ aR aE bI aW bU fJ dO bM bQ bO jY oX qG m_x gR pW qR nG oO pJ qO qQ)) hP mk_235 15 rfl rfl rfl
    refine yW hP hD hS hA (yS mk_235) (aAi mk_235) hm.1 hm.2 (aAk _) (zW _) (zF (As := [.int aHe, .int v_18]) (rest := []) C0 hP hD hS (yS mk_235) hm.1 (aAl _) 0 10 rfl rfl (c_X10_act l dC dI cI cC cZ cB cJ a_m nY sJ eG iY lY jR jW jZ jO oQ bR aY jQ gY iJ mQ lJ jA bG mK jB mW mJ eJ dG H.size aHe v_18 bT aG jC bL bY jD mLn oF rP dQ aJ aB bW bZ aR aE bI aW bU fJ dO bM bQ bO jY oX qG m_x gR pW qR nG oO pJ qO qQ _ hp) q_853 q_856 q_854 q_855 aBL h_X10_act rfl rfl ⟨lbz rfl, lbz rfl⟩ rfl rfl hl.1 rfl (lv_room (lbz rfl)) aVw.2.2.2.2.1 ⟨Nat.zero_le _, Nat.zero_le _⟩) (fun r_19 u H locs hp hP hD hS => ?_)
    obtain ⟨m_read_20, m_length_21, m_top_22, m_at_23, m_wrong_24, m_isAsked_25, aYy, aR0, bBj, aYx, m_picked_30, m_now_31⟩ := u
    have hPD := PDm (ws' := (aFx cI cC cZ cB cJ a_m nY sJ eG iY lY jR jW jZ jO oQ bR aY jQ gY iJ mQ lJ jA bG mK jB mW mJ eJ dG bT aG jC bL bY m_read_20 m_length_21 m_top_22 m_at_23 m_wrong_24 aJ aB bW m_isAsked_25 aYy aR0 bBj aYx bU m_picked_30 dO bM bQ bO jY oX m_now_31 m_x gR pW qR nG oO pJ qO sW qQ uL vF wJ)) hP hD 15 rfl rfl rfl
    have hP := hPD.1
    have hD := hPD.2
    refine lv_if_eq (tgt := 158) hx hb aVw.2.2.2.2.2.1 (by decide) (fun hc => ?_) (fun hc => ?_)
    · have hp := hp.1 hc
      exact ks_X10_day_158 C0 x1 x3 jC bL bY m_read_20 m_length_21 m_top_22 m_at_23 m_wrong_24 m_isAsked_25 aYy aR0 bBj aYx bU m_picked_30 m_now_31 sW uL vF wJ H locs ls hp hP hD hS (lv_sub hl [0, 1, 2] rfl)
    · have hp := hp.2 hc
      obtain ⟨v_32, ev_32⟩ : ∃ y : Int32, y = x3 + 1 := ⟨_, rfl⟩
      refine lv_iinc (v := v_32) (lv' := [(3, .int v_32), (0, .ref a_m), (1, .int x1)]) hx hb aVw.2.2.2.2.2.2.1 hl (k := 2) rfl (by rw [ev_32]; rfl) (by decide) rfl (fun ls hl => ?_)
      have hp := hp v_32 ev_32
      refine lv_goto (tgt := 122) hx hb aVw.2.2.2.2.2.2.2.1 (by decide) ?_
      exact hKn x1 v_32 jC bL bY m_read_20 m_length_21 m_top_22 m_at_23 m_wrong_24 m_isAsked_25 aYy aR0 bBj aYx bU m_picked_30 m_now_31 sW uL vF wJ H locs ls hp hP hD hS (lv_sub hl [1, 2, 0] rfl)
set_option maxHeartbeats 4000000 in
set_option maxRecDepth 100000 in
theorem kb_X10_day_122 (C0 : gc aCe (some .int) 4 zX (dC, dI) (tyl cI cC cZ cB cJ) A p s m args meth c) : ∀ (n : Nat), ∀ (x1 x3 jC bL bY : Int32) (jD : Nat) (mLn oF rP dQ bZ aR aE bI aW bU fJ : Int32) (qG sW uL vF wJ : Nat -> Int32) (H : Heap) (locs : List Loc) (ls : Array Slot), (wb_X10_day_122 post bT aG bW m_x gR pW qR nG oO pJ qO qQ n) x1 x3 jC bL bY jD mLn oF rP dQ bZ aR aE bI aW bU fJ qG sW uL vF wJ -> va_P (dC, dI) classes (aFx cI cC cZ cB cJ a_m nY sJ eG iY lY jR jW jZ jO oQ bR aY jQ gY iJ mQ lJ jA bG mK jB mW mJ eJ dG bT aG jC bL bY jD mLn oF rP dQ aJ aB bW bZ aR aE bI aW bU fJ dO bM bQ bO jY oX qG m_x gR pW qR nG oO pJ qO sW qQ uL vF wJ) H -> va_D A (aFx cI cC cZ cB cJ a_m nY sJ eG iY lY jR jW jZ jO oQ bR aY jQ gY iJ mQ lJ jA bG mK jB mW mJ eJ dG bT aG jC bL bY jD mLn oF rP dQ aJ aB bW bZ aR aE bI aW bU fJ dO bM bQ bO jY oX qG m_x gR pW qR nG oO pJ qO sW qQ uL vF wJ) -> va_S A s.heap H locs -> lv_has ls 4 [(0, .ref a_m), (1, .int x1), (3, .int x3)] -> W p l e rm_X10_day s m args below meth c H locs 0 0 (MQ below (q_X10_day dC dI cI cC cZ cB cJ A a_m nY sJ eG iY lY jR jW jZ jO oQ bR aY jQ gY iJ mQ lJ jA bG mK jB mW mJ eJ dG bT aG aJ aB bW dO bM bQ bO jY oX m_x gR pW qR nG oO pJ qO qQ post) args s 0 0 A) (F0 m 122 ls []) := by
  intro n
  induction n with
  | zero =>
    intro x1 x3 jC bL bY jD mLn oF rP dQ bZ aR aE bI aW bU fJ qG sW uL vF wJ H locs ls hp
    exact False.elim hp
  | succ n ih =>
    intro x1 x3 jC bL bY jD mLn oF rP dQ bZ aR aE bI aW bU fJ qG sW uL vF wJ H locs ls hp
    exact ks_X10_day_122 C0 ih x1 x3 jC bL bY jD mLn oF rP dQ bZ aR aE bI aW bU fJ qG sW uL vF wJ H locs ls hp
def ws_X10_day_89 (post : Int32 -> Int32 -> Int32 -> Int32 -> Nat -> Int32 -> Int32 -> Int32 -> Int32 -> Int32 -> Int32 -> Int32 -> Int32 -> Int32 -> Int32 -> Int32 -> (Nat -> Int32) -> (Nat -> Int32) -> (Nat -> Int32) -> (Nat -> Int32) -> (Nat -> Int32) -> Prop) (bT aG bW : Int32) (m_x gR pW qR nG oO pJ qO qQ : Nat -> Int32) (x1 jC bL bY : Int32) (jD : Nat) (mLn oF rP dQ bZ aR aE bI aW bU fJ : Int32) (qG sW uL vF wJ : Nat -> Int32) : Prop := aRX (fun r_6 => (¬ r_6 = 0 -> wp_X10_lay_b2 (fun m_aside_7 => ∃ n : Nat, wb_X10_day_122 post bT aG bW m_x gR pW qR nG oO pJ qO qQ n x1 0 jC bL bY jD mLn oF rP dQ bZ aR aE bI aW bU 0 qG sW uL m_aside_7 wJ) 0 qG vF) /\ (r_6 = 0 -> post ((-1) - dQ) jC bL bY jD mLn oF rP dQ bZ aR aE bI aW bU fJ qG sW uL vF wJ)) dQ
set_option maxHeartbeats 4000000 in
set_option maxRecDepth 100000 in
theorem ks_X10_day_89 (C0 : gc aCe (some .int) 4 zX (dC, dI) (tyl cI cC cZ cB cJ) A p s m args meth c) : ∀ (x1 jC bL bY : Int32) (jD : Nat) (mLn oF rP dQ bZ aR aE bI aW bU fJ : Int32) (qG sW uL vF wJ : Nat -> Int32) (H : Heap) (locs : List Loc) (ls : Array Slot), (ws_X10_day_89 post bT aG bW m_x gR pW qR nG oO pJ qO qQ) x1 jC bL bY jD mLn oF rP dQ bZ aR aE bI aW bU fJ qG sW uL vF wJ -> va_P (dC, dI) classes (aFx cI cC cZ cB cJ a_m nY sJ eG iY lY jR jW jZ jO oQ bR aY jQ gY iJ mQ lJ jA bG mK jB mW mJ eJ dG bT aG jC bL bY jD mLn oF rP dQ aJ aB bW bZ aR aE bI aW bU fJ dO bM bQ bO jY oX qG m_x gR pW qR nG oO pJ qO sW qQ uL vF wJ) H -> va_D A (aFx cI cC cZ cB cJ a_m nY sJ eG iY lY jR jW jZ jO oQ bR aY jQ gY iJ mQ lJ jA bG mK jB mW mJ eJ dG bT aG jC bL bY jD mLn oF rP dQ aJ aB bW bZ aR aE bI aW bU fJ dO bM bQ bO jY oX qG m_x gR pW qR nG oO pJ qO sW qQ uL vF wJ) -> va_S A s.heap H locs -> lv_has ls 4 [(0, .ref a_m), (1, .int x1)] -> W p l e rm_X10_day s m args below meth c H locs 0 0 (MQ below (q_X10_day dC dI cI cC cZ cB cJ A a_m nY sJ eG iY lY jR jW jZ jO oQ bR aY jQ gY iJ mQ lJ jA bG mK jB mW mJ eJ dG bT aG aJ aB bW dO bM bQ bO jY oX m_x gR pW qR nG oO pJ qO qQ post) args s 0 0 A) (F0 m 89 ls []) := by
  obtain ⟨hx, hb, hr, hml, hown, hts, hlocks, hA, hK, hN, tL, tM, hZL, hTL, hZM, hTM, hZX⟩ := id C0
  intro x1 jC bL bY jD mLn oF rP dQ bZ aR aE bI aW bU fJ qG sW uL vF wJ H locs ls hp hP hD hS hl
  unfold ws_X10_day_89 at hp
  refine lv_aload_n hx hb aZ9.2.2.2.2.2.2.2.2.2.2.2.2.2.2.2 rfl (lv_at hl 0 rfl) ?_
  have hm := mgk (wc := (aVf cI cC cZ cB cJ a_m nY sJ eG iY lY jR jW jZ jO oQ bR aY jQ gY iJ mQ lJ jA bG mK jB mW mJ eJ dG bT aG jC bL bY jD mLn oF rP dQ aJ aB bW bZ aR aE bI aW bU fJ dO bM bQ bO jY oX)) hP mk_236 15 rfl rfl rfl
  refine yW hP hD hS hA (yS mk_236) (aAi mk_236) hm.1 hm.2 (aAk _) (zW _) (zF (As := []) (rest := []) C0 hP hD hS (yS mk_236) hm.1 (aAl _) 0 10 rfl rfl (c_X10_fine l dC dI cI cC cZ cB cJ a_m nY sJ eG iY lY jR jW jZ jO oQ bR aY jQ gY iJ mQ lJ jA bG mK jB mW mJ eJ dG H.size bT aG jC bL bY jD mLn oF rP dQ aJ aB bW bZ aR aE bI aW bU fJ dO bM bQ bO jY oX _ hp) q_650 q_653 q_651 q_652 aBL h_X10_fine rfl rfl ⟨lbz rfl, lbz rfl⟩ rfl rfl hl.1 rfl (lv_room (lbz rfl)) bAA.1 ⟨Nat.zero_le _, Nat.zero_le _⟩) (fun r_6 u H locs hp hP hD hS => ?_)
  have hPD := PDm (ws' := (aFx cI cC cZ cB cJ a_m nY sJ eG iY lY jR jW jZ jO oQ bR aY jQ gY iJ mQ lJ jA bG mK jB mW mJ eJ dG bT aG jC bL bY jD mLn oF rP dQ aJ aB bW bZ aR aE bI aW bU fJ dO bM bQ bO jY oX qG m_x gR pW qR nG oO pJ qO sW qQ uL vF wJ)) hP hD 15 rfl rfl rfl
  have hP := hPD.1
  have hD := hPD.2
  refine lv_if_ne (tgt := 103) hx hb bAA.2.1 (by decide) (fun hc => ?_) (fun hc => ?_)
  · have hp := hp.1 hc
    refine lv_aload_n hx hb bAA.2.2.2.2.2.2.2.1 rfl (lv_at hl 0 rfl) ?_
    refine va_get (D := (dC, dI)) (ci := 10) (v := .ref nY) (C := zX) (T := aBe) (N := 51) hx hb hts aAt hown hK hP 0 rfl rfl 0 (lbz rfl) (hts _ aHO) (fun _ h9 => h9) rfl bAA.2.2.2.2.2.2.2.2.1 ?_
    refine lv_aload_n hx hb bAA.2.2.2.2.2.2.2.2.2.1 rfl (lv_at hl 0 rfl) ?_
    refine va_get (D := (dC, dI)) (ci := 10) (v := .ref iJ) (C := zX) (T := aBe) (N := 51) hx hb hts aAt hown hK hP 0 rfl rfl 33 (lbz rfl) (hts _ q_848) (fun _ h9 => h9) rfl bAA.2.2.2.2.2.2.2.2.2.2.1 ?_
    refine lv_iconst (v := 0) hx hb bAA.2.2.2.2.2.2.2.2.2.2.2.1 aCi ?_
    have hm := mgk (wc := (aX9 cI cC cZ cB cJ nY iJ qG vF)) hP mk_237 15 rfl rfl rfl
    refine aBn hP hD hS hA (yS mk_237) (aAi mk_237) hm.1 hm.2 (aAk _) (zW _) (aDn (As := [.ref nY, .ref iJ, .int 0]) (rest := []) C0 hP hD hS (yS mk_237) hm.1 (aAl _) (c_X10_lay_b2 l dC dI cI cC cZ cB cJ nY iJ H.size 0 qG vF _ hp) q_768 q_770 q_769 aBL h_X10_lay rfl rfl ⟨lbz rfl, lbz rfl⟩ rfl rfl hl.1 rfl (lv_room (lbz rfl)) bAA.2.2.2.2.2.2.2.2.2.2.2.2.1 ⟨Nat.zero_le _, Nat.zero_le _⟩) (fun u H locs hp hP hD hS => ?_)
    obtain ⟨m_aside_7, rfl⟩ : ∃ z, z = u := ⟨_, rfl⟩
    have hPD := PDm (ws' := (aFx cI cC cZ cB cJ a_m nY sJ eG iY lY jR jW jZ jO oQ bR aY jQ gY iJ mQ lJ jA bG mK jB mW mJ eJ dG bT aG jC bL bY jD mLn oF rP dQ aJ aB bW bZ aR aE bI aW bU fJ dO bM bQ bO jY oX qG m_x gR pW qR nG oO pJ qO sW qQ uL m_aside_7 wJ)) hP hD 15 rfl rfl rfl
    have hP := hPD.1
    have hD := hPD.2
    refine lv_aload_n hx hb bAA.2.2.2.2.2.2.2.2.2.2.2.2.2.1 rfl (lv_at hl 0 rfl) ?_
    refine lv_iconst (v := 0) hx hb bAA.2.2.2.2.2.2.2.2.2.2.2.2.2.2.1 aCi ?_
    refine va_put (D := (dC, dI)) (ci := 10) (v := .int 0) (ty := .int) (C := zX) (T := aBe) (N := 51) hx hb hts aAt aD2 aAa aEC hown hK hP hD hS 0 rfl rfl 35 (lbz rfl) (hts _ q_845) (fun _ h9 => h9) rfl (aAa 35 (lbz rfl)) rfl rfl (lbz rfl) bAA.2.2.2.2.2.2.2.2.2.2.2.2.2.2.2 (fun H locs hP hD hS => ?_)
    have hPD := PDw (ws' := (aFx cI cC cZ cB cJ a_m nY sJ eG iY lY jR jW jZ jO oQ bR aY jQ gY iJ mQ lJ jA bG mK jB mW mJ eJ dG bT aG jC bL bY jD mLn oF rP dQ aJ aB bW bZ aR aE bI aW bU 0 dO bM bQ bO jY oX qG m_x gR pW qR nG oO pJ qO sW qQ uL m_aside_7 wJ)) hP hD rfl
    have hP := hPD.1
    have hD := hPD.2
    refine lv_iconst (v := 0) hx hb aVv.1 aCi ?_
    refine lv_istore_n (lv' := [(3, .int 0), (0, .ref a_m), (1, .int x1)]) hx hb aVv.2.1 rfl hl (by decide) rfl (fun ls hl => ?_)
    obtain ⟨n9, hp⟩ := hp
    exact kb_X10_day_122 C0 n9 x1 0 jC bL bY jD mLn oF rP dQ bZ aR aE bI aW bU 0 qG sW uL m_aside_7 wJ H locs ls hp hP hD hS (lv_sub hl [1, 2, 0] rfl)
  · have hp := hp.2 hc
    refine lv_iconst (v := (-1)) hx hb bAA.2.2.1 aEJ ?_
    refine lv_aload_n hx hb bAA.2.2.2.1 rfl (lv_at hl 0 rfl) ?_
    refine va_get (D := (dC, dI)) (ci := 10) (v := .int dQ) (C := zX) (T := aBe) (N := 51) hx hb hts aAt hown hK hP 0 rfl rfl 19 (lbz rfl) (hts _ q_649) (fun _ h9 => h9) rfl bAA.2.2.2.2.1 ?_
    refine lv_isub hx hb bAA.2.2.2.2.2.1 ?_
    exact W.iret (v := (-1) - dQ) hx hb hr (fun t ht hW => ⟨⟨(-1) - dQ, (jC, bL, bY, jD, mLn, oF, rP, dQ, bZ, aR, aE, bI, aW, bU, fJ, qG, sW, uL, vF, wJ), rfl, hp, by rw [ht]; exact hP, va_K.moved hW.alike hK, hD⟩, hS.F ht⟩) hS.2.2 bAA.2.2.2.2.2.2.1
def ws_X10_day_70 (post : Int32 -> Int32 -> Int32 -> Int32 -> Nat -> Int32 -> Int32 -> Int32 -> Int32 -> Int32 -> Int32 -> Int32 -> Int32 -> Int32 -> Int32 -> Int32 -> (Nat -> Int32) -> (Nat -> Int32) -> (Nat -> Int32) -> (Nat -> Int32) -> (Nat -> Int32) -> Prop) (bT aG bW : Int32) (m_x gR pW qR nG oO pJ qO qQ : Nat -> Int32) (x1 jC bL bY : Int32) (jD : Nat) (mLn oF rP dQ bZ aR aE bI aW bU fJ : Int32) (qG sW uL vF wJ : Nat -> Int32) : Prop := (mLn <= rP -> ws_X10_day_89 post bT aG bW m_x gR pW qR nG oO pJ qO qQ x1 jC bL bY jD mLn oF rP dQ bZ aR aE bI aW bU fJ qG sW uL vF wJ) /\ (¬ mLn <= rP -> aSQ (fun m_wrong_33 => ws_X10_day_89 post bT aG bW m_x gR pW qR nG oO pJ qO qQ x1 jC bL bY jD mLn oF rP m_wrong_33 bZ aR aE bI aW bU fJ qG sW uL vF wJ) rP dQ)
set_option maxHeartbeats 4000000 in
set_option maxRecDepth 100000 in
theorem ks_X10_day_70 (C0 : gc aCe (some .int) 4 zX (dC, dI) (tyl cI cC cZ cB cJ) A p s m args meth c) : ∀ (x1 jC bL bY : Int32) (jD : Nat) (mLn oF rP dQ bZ aR aE bI aW bU fJ : Int32) (qG sW uL vF wJ : Nat -> Int32) (H : Heap) (locs : List Loc) (ls : Array Slot), (ws_X10_day_70 post bT aG bW m_x gR pW qR nG oO pJ qO qQ) x1 jC bL bY jD mLn oF rP dQ bZ aR aE bI aW bU fJ qG sW uL vF wJ -> va_P (dC, dI) classes (aFx cI cC cZ cB cJ a_m nY sJ eG iY lY jR jW jZ jO oQ bR aY jQ gY iJ mQ lJ jA bG mK jB mW mJ eJ dG bT aG jC bL bY jD mLn oF rP dQ aJ aB bW bZ aR aE bI aW bU fJ dO bM bQ bO jY oX qG m_x gR pW qR nG oO pJ qO sW qQ uL vF wJ) H -> va_D A (aFx cI cC cZ cB cJ a_m nY sJ eG iY lY jR jW jZ jO oQ bR aY jQ gY iJ mQ lJ jA bG mK jB mW mJ eJ dG bT aG jC bL bY jD mLn oF rP dQ aJ aB bW bZ aR aE bI aW bU fJ dO bM bQ bO jY oX qG m_x gR pW qR nG oO pJ qO sW qQ uL vF wJ) -> va_S A s.heap H locs -> lv_has ls 4 [(0, .ref a_m), (1, .int x1)] -> W p l e rm_X10_day s m args below meth c H locs 0 0 (MQ below (q_X10_day dC dI cI cC cZ cB cJ A a_m nY sJ eG iY lY jR jW jZ jO oQ bR aY jQ gY iJ mQ lJ jA bG mK jB mW mJ eJ dG bT aG aJ aB bW dO bM bQ bO jY oX m_x gR pW qR nG oO pJ qO qQ post) args s 0 0 A) (F0 m 70 ls []) := by
  obtain ⟨hx, hb, hr, hml, hown, hts, hlocks, hA, hK, hN, tL, tM, hZL, hTL, hZM, hTM, hZX⟩ := id C0
  intro x1 jC bL bY jD mLn oF rP dQ bZ aR aE bI aW bU fJ qG sW uL vF wJ H locs ls hp hP hD hS hl
  unfold ws_X10_day_70 at hp
  refine lv_aload_n hx hb aZ9.2.2.2.2.2.2.1 rfl (lv_at hl 0 rfl) ?_
  refine va_get (D := (dC, dI)) (ci := 10) (v := .int rP) (C := zX) (T := aBe) (N := 51) hx hb hts aAt hown hK hP 0 rfl rfl 18 (lbz rfl) (hts _ q_648) (fun _ h9 => h9) rfl aZ9.2.2.2.2.2.2.2.1 ?_
  refine lv_aload_n hx hb aZ9.2.2.2.2.2.2.2.2.1 rfl (lv_at hl 0 rfl) ?_
  refine va_get (D := (dC, dI)) (ci := 10) (v := .int mLn) (C := zX) (T := aBe) (N := 51) hx hb hts aAt hown hK hP 0 rfl rfl 16 (lbz rfl) (hts _ q_646) (fun _ h9 => h9) rfl aZ9.2.2.2.2.2.2.2.2.2.1 ?_
  refine lv_icmp_ge (tgt := 89) hx hb aZ9.2.2.2.2.2.2.2.2.2.2.1 (by decide) (fun hc => ?_) (fun hc => ?_)
  · have hp := hp.1 hc
    exact ks_X10_day_89 C0 x1 jC bL bY jD mLn oF rP dQ bZ aR aE bI aW bU fJ qG sW uL vF wJ H locs ls hp hP hD hS (lv_sub hl [0, 1] rfl)
  · have hp := hp.2 hc
    refine lv_aload_n hx hb aZ9.2.2.2.2.2.2.2.2.2.2.2.1 rfl (lv_at hl 0 rfl) ?_
    refine lv_aload_n hx hb aZ9.2.2.2.2.2.2.2.2.2.2.2.2.1 rfl (lv_at hl 0 rfl) ?_
    refine va_get (D := (dC, dI)) (ci := 10) (v := .int rP) (C := zX) (T := aBe) (N := 51) hx hb hts aAt hown hK hP 0 rfl rfl 18 (lbz rfl) (hts _ q_648) (fun _ h9 => h9) rfl aZ9.2.2.2.2.2.2.2.2.2.2.2.2.2.1 ?_
    have hm := mgk (wc := (aSM cI cC cZ cB cJ a_m nY sJ eG iY lY jR jW jZ jO oQ bR aY jQ gY iJ mQ lJ jA bG mK jB mW mJ eJ dG bT aG jC bL bY jD mLn oF rP dQ aJ aB bW bZ aR aE bI aW bU fJ dO bM bQ bO jY oX)) hP mk_236 15 rfl rfl rfl
    refine aBn hP hD hS hA (yS mk_236) (aAi mk_236) hm.1 hm.2 (aAk _) (zW _) (zF (As := [.int rP]) (rest := []) C0 hP hD hS (yS mk_236) hm.1 (aAl _) 0 10 rfl rfl (c_X10_fault l dC dI cI cC cZ cB cJ a_m nY sJ eG iY lY jR jW jZ jO oQ bR aY jQ gY iJ mQ lJ jA bG mK jB mW mJ eJ dG H.size rP bT aG jC bL bY jD mLn oF rP dQ aJ aB bW bZ aR aE bI aW bU fJ dO bM bQ bO jY oX _ hp) q_654 q_657 q_655 q_656 aBL h_X10_fault rfl rfl ⟨lbz rfl, lbz rfl⟩ rfl rfl hl.1 rfl (lv_room (lbz rfl)) aZ9.2.2.2.2.2.2.2.2.2.2.2.2.2.2.1 ⟨Nat.zero_le _, Nat.zero_le _⟩) (fun u H locs hp hP hD hS => ?_)
    obtain ⟨m_wrong_33, rfl⟩ : ∃ z, z = u := ⟨_, rfl⟩
    have hPD := PDm (ws' := (aFx cI cC cZ cB cJ a_m nY sJ eG iY lY jR jW jZ jO oQ bR aY jQ gY iJ mQ lJ jA bG mK jB mW mJ eJ dG bT aG jC bL bY jD mLn oF rP m_wrong_33 aJ aB bW bZ aR aE bI aW bU fJ dO bM bQ bO jY oX qG m_x gR pW qR nG oO pJ qO sW qQ uL vF wJ)) hP hD 15 rfl rfl rfl
    have hP := hPD.1
    have hD := hPD.2
    exact ks_X10_day_89 C0 x1 jC bL bY jD mLn oF rP m_wrong_33 bZ aR aE bI aW bU fJ qG sW uL vF wJ H locs ls hp hP hD hS (lv_sub hl [0, 1] rfl)
def ws_X10_day_39 (post : Int32 -> Int32 -> Int32 -> Int32 -> Nat -> Int32 -> Int32 -> Int32 -> Int32 -> Int32 -> Int32 -> Int32 -> Int32 -> Int32 -> Int32 -> Int32 -> (Nat -> Int32) -> (Nat -> Int32) -> (Nat -> Int32) -> (Nat -> Int32) -> (Nat -> Int32) -> Prop) (next : Int32 -> Int32 -> Int32 -> Int32 -> Int32 -> Nat -> Int32 -> Int32 -> Int32 -> Int32 -> Int32 -> Int32 -> Int32 -> Int32 -> Int32 -> Int32 -> Int32 -> (Nat -> Int32) -> (Nat -> Int32) -> (Nat -> Int32) -> (Nat -> Int32) -> (Nat -> Int32) -> Prop) (bT aG bW : Int32) (m_x gR pW qR nG oO pJ qO qQ : Nat -> Int32) (x1 x2 jC bL bY : Int32) (jD : Nat) (mLn oF rP dQ bZ aR aE bI aW bU fJ : Int32) (qG sW uL vF wJ : Nat -> Int32) : Prop := (x2 = 0 -> ws_X10_day_70 post bT aG bW m_x gR pW qR nG oO pJ qO qQ x1 jC bL bY jD mLn oF rP dQ bZ aR aE bI aW bU fJ qG sW uL vF wJ) /\ (¬ x2 = 0 -> aRX (fun r_34 => (r_34 = 0 -> ws_X10_day_70 post bT aG bW m_x gR pW qR nG oO pJ qO qQ x1 jC bL bY jD mLn oF rP dQ bZ aR aE bI aW bU fJ qG sW uL vF wJ) /\ (¬ r_34 = 0 -> ∀ v_35 : Int32, v_35 = 2 * x1 -> wp_X10_readAct (fun m_at_36 m_wrong_37 m_acts_38 => ∀ v_39 : Int32, v_39 = x1 + 1 -> aPM (fun r_40 m_at_41 => next v_39 r_40 jC bL bY jD mLn oF m_at_41 m_wrong_37 bZ aR aE bI aW bU fJ qG sW uL vF m_acts_38) 59 jD mLn oF m_at_36 m_wrong_37 qO qQ) v_35 jD mLn oF rP dQ qO qQ wJ)) dQ)
noncomputable def wb_X10_day_39 (post : Int32 -> Int32 -> Int32 -> Int32 -> Nat -> Int32 -> Int32 -> Int32 -> Int32 -> Int32 -> Int32 -> Int32 -> Int32 -> Int32 -> Int32 -> Int32 -> (Nat -> Int32) -> (Nat -> Int32) -> (Nat -> Int32) -> (Nat -> Int32) -> (Nat -> Int32) -> Prop) (bT aG bW : Int32) (m_x gR pW qR nG oO pJ qO qQ : Nat -> Int32) : Nat -> Int32 -> Int32 -> Int32 -> Int32 -> Int32 -> Nat -> Int32 -> Int32 -> Int32 -> Int32 -> Int32 -> Int32 -> Int32 -> Int32 -> Int32 -> Int32 -> Int32 -> (Nat -> Int32) -> (Nat -> Int32) -> (Nat -> Int32) -> (Nat -> Int32) -> (Nat -> Int32) -> Prop := fun n => Nat.rec (motive := fun _ => Int32 -> Int32 -> Int32 -> Int32 -> Int32 -> Nat -> Int32 -> Int32 -> Int32 -> Int32 -> Int32 -> Int32 -> Int32 -> Int32 -> Int32 -> Int32 -> Int32 -> (Nat -> Int32) -> (Nat -> Int32) -> (Nat -> Int32) -> (Nat -> Int32) -> (Nat -> Int32) -> Prop) (fun _ _ _ _ _ _ _ _ _ _ _ _ _ _ _ _ _ _ _ _ _ _ => False) (fun _ ih => ws_X10_day_39 post ih bT aG bW m_x gR pW qR nG oO pJ qO qQ) n
set_option maxHeartbeats 4000000 in
set_option maxRecDepth 100000 in
theorem ks_X10_day_39 (C0 : gc aCe (some .int) 4 zX (dC, dI) (tyl cI cC cZ cB cJ) A p s m args meth c) {next : Int32 -> Int32 -> Int32 -> Int32 -> Int32 -> Nat -> Int32 -> Int32 -> Int32 -> Int32 -> Int32 -> Int32 -> Int32 -> Int32 -> Int32 -> Int32 -> Int32 -> (Nat -> Int32) -> (Nat -> Int32) -> (Nat -> Int32) -> (Nat -> Int32) -> (Nat -> Int32) -> Prop} (hKn : ∀ (x1 : Int32) (x2 : Int32) (jC : Int32) (bL : Int32) (bY : Int32) (jD : Nat) (mLn : Int32) (oF : Int32) (rP : Int32) (dQ : Int32) (bZ : Int32) (aR : Int32) (aE : Int32) (bI : Int32) (aW : Int32) (bU : Int32) (fJ : Int32) (qG : Nat -> Int32) (sW : Nat -> Int32) (uL : Nat -> Int32) (vF : Nat -> Int32) (wJ : Nat -> Int32) (H : Heap) (locs : List Loc) (ls : Array Slot), next x1 x2 jC bL bY jD mLn oF rP dQ bZ aR aE bI aW bU fJ qG sW uL vF wJ -> va_P (dC, dI) classes (aFx cI cC cZ cB cJ a_m nY sJ eG iY lY jR jW jZ jO oQ bR aY jQ gY iJ mQ lJ jA bG mK jB mW mJ eJ dG bT aG jC bL bY jD mLn oF rP dQ aJ aB bW bZ aR aE bI aW bU fJ dO bM bQ bO jY oX qG m_x gR pW qR nG oO pJ qO sW qQ uL vF wJ) H -> va_D A (aFx cI cC cZ cB cJ a_m nY sJ eG iY lY jR jW jZ jO oQ bR aY jQ gY iJ mQ lJ jA bG mK jB mW mJ eJ dG bT aG jC bL bY jD mLn oF rP dQ aJ aB bW bZ aR aE bI aW bU fJ dO bM bQ bO jY oX qG m_x gR pW qR nG oO pJ qO sW qQ uL vF wJ) -> va_S A s.heap H locs -> lv_has ls 4 [(0, .ref a_m), (1, .int x1), (2, .int x2)] -> W p l e rm_X10_day s m args below meth c H locs 0 0 (MQ below (q_X10_day dC dI cI cC cZ cB cJ A a_m nY sJ eG iY lY jR jW jZ jO oQ bR aY jQ gY iJ mQ lJ jA bG mK jB mW mJ eJ dG bT aG aJ aB bW dO bM bQ bO jY oX m_x gR pW qR nG oO pJ qO qQ post) args s 0 0 A) (F0 m 39 ls [])) : ∀ (x1 x2 jC bL bY : Int32) (jD : Nat) (mLn oF rP dQ bZ aR aE bI aW bU fJ : Int32) (qG sW uL vF wJ : Nat -> Int32) (H : Heap) (locs : List Loc) (ls : Array Slot), (ws_X10_day_39 post next bT aG bW m_x gR pW qR nG oO pJ qO qQ) x1 x2 jC bL bY jD mLn oF rP dQ bZ aR aE bI aW bU fJ qG sW uL vF wJ -> va_P (dC, dI) classes (aFx cI cC cZ cB cJ a_m nY sJ eG iY lY jR jW jZ jO oQ bR aY jQ gY iJ mQ lJ jA bG mK jB mW mJ eJ dG bT aG jC bL bY jD mLn oF rP dQ aJ aB bW bZ aR aE bI aW bU fJ dO bM bQ bO jY oX qG m_x gR pW qR nG oO pJ qO sW qQ uL vF wJ) H -> va_D A (aFx cI cC cZ cB cJ a_m nY sJ eG iY lY jR jW jZ jO oQ bR aY jQ gY iJ mQ lJ jA bG mK jB mW mJ eJ dG bT aG jC bL bY jD mLn oF rP dQ aJ aB bW bZ aR aE bI aW bU fJ dO bM bQ bO jY oX qG m_x gR pW qR nG oO pJ qO sW qQ uL vF wJ) -> va_S A s.heap H locs -> lv_has ls 4 [(0, .ref a_m), (1, .int x1), (2, .int x2)] -> W p l e rm_X10_day s m args below meth c H locs 0 0 (MQ below (q_X10_day dC dI cI cC cZ cB cJ A a_m nY sJ eG iY lY jR jW jZ jO oQ bR aY jQ gY iJ mQ lJ jA bG mK jB mW mJ eJ dG bT aG aJ aB bW dO bM bQ bO jY oX m_x gR pW qR nG oO pJ qO qQ post) args s 0 0 A) (F0 m 39 ls []) := by
  obtain ⟨hx, hb, hr, hml, hown, hts, hlocks, hA, hK, hN, tL, tM, hZL, hTL, hZM, hTM, hZX⟩ := id C0
  intro x1 x2 jC bL bY jD mLn oF rP dQ bZ aR aE bI aW bU fJ qG sW uL vF wJ H locs ls hp hP hD hS hl
  unfold ws_X10_day_39 at hp
  refine lv_iload_n hx hb aZ8.2.2.2.2.2.2.1 rfl (lv_at hl 2 rfl) ?_
  refine lv_if_eq (tgt := 70) hx hb aZ8.2.2.2.2.2.2.2.1 (by decide) (fun hc => ?_) (fun hc => ?_)
  · have hp := hp.1 hc
    exact ks_X10_day_70 C0 x1 jC bL bY jD mLn oF rP dQ bZ aR aE bI aW bU fJ qG sW uL vF wJ H locs ls hp hP hD hS (lv_sub hl [0, 1] rfl)
  · have hp := hp.2 hc
    refine lv_aload_n hx hb aZ8.2.2.2.2.2.2.2.2.1 rfl (lv_at hl 0 rfl) ?_
    have hm := mgk (wc := (aVf cI cC cZ cB cJ a_m nY sJ eG iY lY jR jW jZ jO oQ bR aY jQ gY iJ mQ lJ jA bG mK jB mW mJ eJ dG bT aG jC bL bY jD mLn oF rP dQ aJ aB bW bZ aR aE bI aW bU fJ dO bM bQ bO jY oX)) hP mk_236 15 rfl rfl rfl
    refine yW hP hD hS hA (yS mk_236) (aAi mk_236) hm.1 hm.2 (aAk _) (zW _) (zF (As := []) (rest := []) C0 hP hD hS (yS mk_236) hm.1 (aAl _) 0 10 rfl rfl (c_X10_fine l dC dI cI cC cZ cB cJ a_m nY sJ eG iY lY jR jW jZ jO oQ bR aY jQ gY iJ mQ lJ jA bG mK jB mW mJ eJ dG H.size bT aG jC bL bY jD mLn oF rP dQ aJ aB bW bZ aR aE bI aW bU fJ dO bM bQ bO jY oX _ hp) q_650 q_653 q_651 q_652 aBL h_X10_fine rfl rfl ⟨lbz rfl, lbz rfl⟩ rfl rfl hl.1 rfl (lv_room (lbz rfl)) aZ8.2.2.2.2.2.2.2.2.2.1 ⟨Nat.zero_le _, Nat.zero_le _⟩) (fun r_34 u H locs hp hP hD hS => ?_)
    have hPD := PDm (ws' := (aFx cI cC cZ cB cJ a_m nY sJ eG iY lY jR jW jZ jO oQ bR aY jQ gY iJ mQ lJ jA bG mK jB mW mJ eJ dG bT aG jC bL bY jD mLn oF rP dQ aJ aB bW bZ aR aE bI aW bU fJ dO bM bQ bO jY oX qG m_x gR pW qR nG oO pJ qO sW qQ uL vF wJ)) hP hD 15 rfl rfl rfl
    have hP := hPD.1
    have hD := hPD.2
    refine lv_if_eq (tgt := 70) hx hb aZ8.2.2.2.2.2.2.2.2.2.2.1 (by decide) (fun hc => ?_) (fun hc => ?_)
    · have hp := hp.1 hc
      exact ks_X10_day_70 C0 x1 jC bL bY jD mLn oF rP dQ bZ aR aE bI aW bU fJ qG sW uL vF wJ H locs ls hp hP hD hS (lv_sub hl [0, 1] rfl)
    · have hp := hp.2 hc
      refine lv_aload_n hx hb aZ8.2.2.2.2.2.2.2.2.2.2.2.1 rfl (lv_at hl 0 rfl) ?_
      refine lv_iconst (v := 2) hx hb aZ8.2.2.2.2.2.2.2.2.2.2.2.2.1 ic_2 ?_
      refine lv_iload_n hx hb aZ8.2.2.2.2.2.2.2.2.2.2.2.2.2.1 rfl (lv_at hl 1 rfl) ?_
      refine lv_imul hx hb aZ8.2.2.2.2.2.2.2.2.2.2.2.2.2.2.1 ?_
      refine lv_topi (fun v_35 ev_35 => ?_)
      have hp := hp v_35 ev_35
      have hm := mgk (wc := (aIb cI cC cZ cB cJ a_m nY sJ eG iY lY jR jW jZ jO oQ bR aY jQ gY iJ mQ lJ jA bG mK jB mW mJ eJ dG bT aG jC bL bY jD mLn oF rP dQ aJ aB bW bZ aR aE bI aW bU fJ dO bM bQ bO jY oX qO qQ wJ)) hP mk_238 15 rfl rfl rfl
      refine aBn hP hD hS hA (yS mk_238) (aAi mk_238) hm.1 hm.2 (aAk _) (zW _) (zF (As := [.int v_35]) (rest := []) C0 hP hD hS (yS mk_238) hm.1 (aAl _) 0 10 rfl rfl (c_X10_readAct l dC dI cI cC cZ cB cJ a_m nY sJ eG iY lY jR jW jZ jO oQ bR aY jQ gY iJ mQ lJ jA bG mK jB mW mJ eJ dG H.size v_35 bT aG jC bL bY jD mLn oF rP dQ aJ aB bW bZ aR aE bI aW bU fJ dO bM bQ bO jY oX qO qQ wJ _ hp) q_857 q_860 q_858 q_859 aBL h_X10_readAct rfl rfl ⟨lbz rfl, lbz rfl⟩ rfl rfl hl.1 rfl (lv_room (lbz rfl)) aZ8.2.2.2.2.2.2.2.2.2.2.2.2.2.2.2 ⟨Nat.zero_le _, Nat.zero_le _⟩) (fun u H locs hp hP hD hS => ?_)
      obtain ⟨m_at_36, m_wrong_37, m_acts_38⟩ := u
      have hPD := PDm (ws' := (aFx cI cC cZ cB cJ a_m nY sJ eG iY lY jR jW jZ jO oQ bR aY jQ gY iJ mQ lJ jA bG mK jB mW mJ eJ dG bT aG jC bL bY jD mLn oF m_at_36 m_wrong_37 aJ aB bW bZ aR aE bI aW bU fJ dO bM bQ bO jY oX qG m_x gR pW qR nG oO pJ qO sW qQ uL vF m_acts_38)) hP hD 15 rfl rfl rfl
      have hP := hPD.1
      have hD := hPD.2
      obtain ⟨v_39, ev_39⟩ : ∃ y : Int32, y = x1 + 1 := ⟨_, rfl⟩
      refine lv_iinc (v := v_39) (lv' := [(1, .int v_39), (0, .ref a_m), (2, .int x2)]) hx hb aZ9.1 hl (k := 1) rfl (by rw [ev_39]; rfl) (by decide) rfl (fun ls hl => ?_)
      have hp := hp v_39 ev_39
      refine lv_aload_n hx hb aZ9.2.1 rfl (lv_at hl 1 rfl) ?_
      refine lv_bipush (v := 59) hx hb aZ9.2.2.1 bp_59 ?_
      have hm := mgk (wc := (aOh cI cC cZ cB cJ a_m nY sJ eG iY lY jR jW jZ jO oQ bR aY jQ gY iJ mQ lJ jA bG mK jB mW mJ eJ dG bT aG jC bL bY jD mLn oF m_at_36 m_wrong_37 aJ aB bW bZ aR aE bI aW bU fJ dO bM bQ bO jY oX qO qQ)) hP mk_239 15 rfl rfl rfl
      refine yW hP hD hS hA (yS mk_239) (aAi mk_239) hm.1 hm.2 (aAk _) (zW _) (zF (As := [.int 59]) (rest := []) C0 hP hD hS (yS mk_239) hm.1 (aAl _) 0 10 rfl rfl (c_X10_passes l dC dI cI cC cZ cB cJ a_m nY sJ eG iY lY jR jW jZ jO oQ bR aY jQ gY iJ mQ lJ jA bG mK jB mW mJ eJ dG H.size 59 bT aG jC bL bY jD mLn oF m_at_36 m_wrong_37 aJ aB bW bZ aR aE bI aW bU fJ dO bM bQ bO jY oX qO qQ _ hp) q_662 q_665 q_663 q_664 aBL h_X10_passes rfl rfl ⟨lbz rfl, lbz rfl⟩ rfl rfl hl.1 rfl (lv_room (lbz rfl)) aZ9.2.2.2.1 ⟨Nat.zero_le _, Nat.zero_le _⟩) (fun r_40 u H locs hp hP hD hS => ?_)
      obtain ⟨m_at_41, rfl⟩ : ∃ z, z = u := ⟨_, rfl⟩
      have hPD := PDm (ws' := (aFx cI cC cZ cB cJ a_m nY sJ eG iY lY jR jW jZ jO oQ bR aY jQ gY iJ mQ lJ jA bG mK jB mW mJ eJ dG bT aG jC bL bY jD mLn oF m_at_41 m_wrong_37 aJ aB bW bZ aR aE bI aW bU fJ dO bM bQ bO jY oX qG m_x gR pW qR nG oO pJ qO sW qQ uL vF m_acts_38)) hP hD 15 rfl rfl rfl
      have hP := hPD.1
      have hD := hPD.2
      refine lv_istore_n (lv' := [(2, .int r_40), (1, .int v_39), (0, .ref a_m)]) hx hb aZ9.2.2.2.2.1 rfl hl (by decide) rfl (fun ls hl => ?_)
      refine lv_goto (tgt := 39) hx hb aZ9.2.2.2.2.2.1 (by decide) ?_
      exact hKn v_39 r_40 jC bL bY jD mLn oF m_at_41 m_wrong_37 bZ aR aE bI aW bU fJ qG sW uL vF m_acts_38 H locs ls hp hP hD hS (lv_sub hl [2, 1, 0] rfl)
set_option maxHeartbeats 4000000 in
set_option maxRecDepth 100000 in
theorem kb_X10_day_39 (C0 : gc aCe (some .int) 4 zX (dC, dI) (tyl cI cC cZ cB cJ) A p s m args meth c) : ∀ (n : Nat), ∀ (x1 x2 jC bL bY : Int32) (jD : Nat) (mLn oF rP dQ bZ aR aE bI aW bU fJ : Int32) (qG sW uL vF wJ : Nat -> Int32) (H : Heap) (locs : List Loc) (ls : Array Slot), (wb_X10_day_39 post bT aG bW m_x gR pW qR nG oO pJ qO qQ n) x1 x2 jC bL bY jD mLn oF rP dQ bZ aR aE bI aW bU fJ qG sW uL vF wJ -> va_P (dC, dI) classes (aFx cI cC cZ cB cJ a_m nY sJ eG iY lY jR jW jZ jO oQ bR aY jQ gY iJ mQ lJ jA bG mK jB mW mJ eJ dG bT aG jC bL bY jD mLn oF rP dQ aJ aB bW bZ aR aE bI aW bU fJ dO bM bQ bO jY oX qG m_x gR pW qR nG oO pJ qO sW qQ uL vF wJ) H -> va_D A (aFx cI cC cZ cB cJ a_m nY sJ eG iY lY jR jW jZ jO oQ bR aY jQ gY iJ mQ lJ jA bG mK jB mW mJ eJ dG bT aG jC bL bY jD mLn oF rP dQ aJ aB bW bZ aR aE bI aW bU fJ dO bM bQ bO jY oX qG m_x gR pW qR nG oO pJ qO sW qQ uL vF wJ) -> va_S A s.heap H locs -> lv_has ls 4 [(0, .ref a_m), (1, .int x1), (2, .int x2)] -> W p l e rm_X10_day s m args below meth c H locs 0 0 (MQ below (q_X10_day dC dI cI cC cZ cB cJ A a_m nY sJ eG iY lY jR jW jZ jO oQ bR aY jQ gY iJ mQ lJ jA bG mK jB mW mJ eJ dG bT aG aJ aB bW dO bM bQ bO jY oX m_x gR pW qR nG oO pJ qO qQ post) args s 0 0 A) (F0 m 39 ls []) := by
  intro n
  induction n with
  | zero =>
    intro x1 x2 jC bL bY jD mLn oF rP dQ bZ aR aE bI aW bU fJ qG sW uL vF wJ H locs ls hp
    exact False.elim hp
  | succ n ih =>
    intro x1 x2 jC bL bY jD mLn oF rP dQ bZ aR aE bI aW bU fJ qG sW uL vF wJ H locs ls hp
    exact ks_X10_day_39 C0 ih x1 x2 jC bL bY jD mLn oF rP dQ bZ aR aE bI aW bU fJ qG sW uL vF wJ H locs ls hp
def ws_X10_day_38 (post : Int32 -> Int32 -> Int32 -> Int32 -> Nat -> Int32 -> Int32 -> Int32 -> Int32 -> Int32 -> Int32 -> Int32 -> Int32 -> Int32 -> Int32 -> Int32 -> (Nat -> Int32) -> (Nat -> Int32) -> (Nat -> Int32) -> (Nat -> Int32) -> (Nat -> Int32) -> Prop) (bT aG bW : Int32) (m_x gR pW qR nG oO pJ qO qQ : Nat -> Int32) (x1 k0 jC bL bY : Int32) (jD : Nat) (mLn oF rP dQ bZ aR aE bI aW bU fJ : Int32) (qG sW uL vF wJ : Nat -> Int32) : Prop := ∃ n : Nat, wb_X10_day_39 post bT aG bW m_x gR pW qR nG oO pJ qO qQ n x1 k0 jC bL bY jD mLn oF rP dQ bZ aR aE bI aW bU fJ qG sW uL vF wJ
set_option maxHeartbeats 4000000 in
set_option maxRecDepth 100000 in
theorem ks_X10_day_38 (C0 : gc aCe (some .int) 4 zX (dC, dI) (tyl cI cC cZ cB cJ) A p s m args meth c) : ∀ (x1 k0 jC bL bY : Int32) (jD : Nat) (mLn oF rP dQ bZ aR aE bI aW bU fJ : Int32) (qG sW uL vF wJ : Nat -> Int32) (H : Heap) (locs : List Loc) (ls : Array Slot), (ws_X10_day_38 post bT aG bW m_x gR pW qR nG oO pJ qO qQ) x1 k0 jC bL bY jD mLn oF rP dQ bZ aR aE bI aW bU fJ qG sW uL vF wJ -> va_P (dC, dI) classes (aFx cI cC cZ cB cJ a_m nY sJ eG iY lY jR jW jZ jO oQ bR aY jQ gY iJ mQ lJ jA bG mK jB mW mJ eJ dG bT aG jC bL bY jD mLn oF rP dQ aJ aB bW bZ aR aE bI aW bU fJ dO bM bQ bO jY oX qG m_x gR pW qR nG oO pJ qO sW qQ uL vF wJ) H -> va_D A (aFx cI cC cZ cB cJ a_m nY sJ eG iY lY jR jW jZ jO oQ bR aY jQ gY iJ mQ lJ jA bG mK jB mW mJ eJ dG bT aG jC bL bY jD mLn oF rP dQ aJ aB bW bZ aR aE bI aW bU fJ dO bM bQ bO jY oX qG m_x gR pW qR nG oO pJ qO sW qQ uL vF wJ) -> va_S A s.heap H locs -> lv_has ls 4 [(0, .ref a_m), (1, .int x1)] -> W p l e rm_X10_day s m args below meth c H locs 0 0 (MQ below (q_X10_day dC dI cI cC cZ cB cJ A a_m nY sJ eG iY lY jR jW jZ jO oQ bR aY jQ gY iJ mQ lJ jA bG mK jB mW mJ eJ dG bT aG aJ aB bW dO bM bQ bO jY oX m_x gR pW qR nG oO pJ qO qQ post) args s 0 0 A) (F0 m 38 ls [.int k0]) := by
  obtain ⟨hx, hb, hr, hml, hown, hts, hlocks, hA, hK, hN, tL, tM, hZL, hTL, hZM, hTM, hZX⟩ := id C0
  intro x1 k0 jC bL bY jD mLn oF rP dQ bZ aR aE bI aW bU fJ qG sW uL vF wJ H locs ls hp hP hD hS hl
  unfold ws_X10_day_38 at hp
  refine lv_istore_n (lv' := [(2, .int k0), (0, .ref a_m), (1, .int x1)]) hx hb aZ8.2.2.2.2.2.1 rfl hl (by decide) rfl (fun ls hl => ?_)
  obtain ⟨n9, hp⟩ := hp
  exact kb_X10_day_39 C0 n9 x1 k0 jC bL bY jD mLn oF rP dQ bZ aR aE bI aW bU fJ qG sW uL vF wJ H locs ls hp hP hD hS (lv_sub hl [1, 2, 0] rfl)
end S_X10_day
def wp_X10_day (post : Int32 -> Int32 -> Int32 -> Int32 -> Nat -> Int32 -> Int32 -> Int32 -> Int32 -> Int32 -> Int32 -> Int32 -> Int32 -> Int32 -> Int32 -> Int32 -> (Nat -> Int32) -> (Nat -> Int32) -> (Nat -> Int32) -> (Nat -> Int32) -> (Nat -> Int32) -> Prop) (bT aG jC bL bY : Int32) (jD : Nat) (mLn oF rP dQ bW bZ aR aE bI aW bU fJ : Int32) (qG m_x gR pW qR nG oO pJ qO sW qQ uL vF wJ : Nat -> Int32) : Prop := wp_X10_begin (fun aH5 aEf aKT aQ5 aGh => (aEf <= 0 -> ws_X10_day_38 post bT aG bW m_x gR pW qR nG oO pJ qO qQ 0 0 0 bL 0 aH5 aEf aKT aQ5 aGh bZ aR aE bI aW bU fJ qG sW uL vF wJ) /\ (¬ aEf <= 0 -> ws_X10_day_38 post bT aG bW m_x gR pW qR nG oO pJ qO qQ 0 1 0 bL 0 aH5 aEf aKT aQ5 aGh bZ aR aE bI aW bU fJ qG sW uL vF wJ)) jC 60 jD mLn oF rP dQ
set_option maxHeartbeats 4000000 in
set_option maxRecDepth 100000 in
theorem c_X10_day (l : Launch) (dC : Nat -> ClassId) (dI : Nat -> Nat -> Nat) (cI cC cZ cB cJ : ClassId) (a_m nY sJ eG iY lY jR jW jZ jO oQ bR aY jQ gY iJ mQ lJ jA bG mK jB mW mJ eJ dG sz : Nat) (bT aG jC bL bY : Int32) (jD : Nat) (mLn oF rP dQ aJ aB bW bZ aR aE bI aW bU fJ dO bM bQ bO jY oX : Int32) (qG m_x gR pW qR nG oO pJ qO sW qQ uL vF wJ : Nat -> Int32) (post : Int32 -> Int32 -> Int32 -> Int32 -> Nat -> Int32 -> Int32 -> Int32 -> Int32 -> Int32 -> Int32 -> Int32 -> Int32 -> Int32 -> Int32 -> Int32 -> (Nat -> Int32) -> (Nat -> Int32) -> (Nat -> Int32) -> (Nat -> Int32) -> (Nat -> Int32) -> Prop) (hw : wp_X10_day post bT aG jC bL bY jD mLn oF rP dQ bW bZ aR aE bI aW bU fJ qG m_x gR pW qR nG oO pJ qO sW qQ uL vF wJ) : Met l yX10_day (gw yX10_day aCe 4 (some .int)) rm_X10_day (va_Pc [.ref a_m] (gPre (dC, dI) (tyl cI cC cZ cB cJ) (aFx cI cC cZ cB cJ a_m nY sJ eG iY lY jR jW jZ jO oQ bR aY jQ gY iJ mQ lJ jA bG mK jB mW mJ eJ dG bT aG jC bL bY jD mLn oF rP dQ aJ aB bW bZ aR aE bI aW bU fJ dO bM bQ bO jY oX qG m_x gR pW qR nG oO pJ qO sW qQ uL vF wJ) sz)) (q_X10_day dC dI cI cC cZ cB cJ (va_A (aFx cI cC cZ cB cJ a_m nY sJ eG iY lY jR jW jZ jO oQ bR aY jQ gY iJ mQ lJ jA bG mK jB mW mJ eJ dG bT aG jC bL bY jD mLn oF rP dQ aJ aB bW bZ aR aE bI aW bU fJ dO bM bQ bO jY oX qG m_x gR pW qR nG oO pJ qO sW qQ uL vF wJ) sz) a_m nY sJ eG iY lY jR jW jZ jO oQ bR aY jQ gY iJ mQ lJ jA bG mK jB mW mJ eJ dG bT aG aJ aB bW dO bM bQ bO jY oX m_x gR pW qR nG oO pJ qO qQ post) 0 0 (va_A (aFx cI cC cZ cB cJ a_m nY sJ eG iY lY jR jW jZ jO oQ bR aY jQ gY iJ mQ lJ jA bG mK jB mW mJ eJ dG bT aG jC bL bY jD mLn oF rP dQ aJ aB bW bZ aR aE bI aW bU fJ dO bM bQ bO jY oX qG m_x gR pW qR nG oO pJ qO sW qQ uL vF wJ) sz) := by
  refine aBJ (own := zX) (dC, dI) (tyl cI cC cZ cB cJ) (aFx cI cC cZ cB cJ a_m nY sJ eG iY lY jR jW jZ jO oQ bR aY jQ gY iJ mQ lJ jA bG mK jB mW mJ eJ dG bT aG jC bL bY jD mLn oF rP dQ aJ aB bW bZ aR aE bI aW bU fJ dO bM bQ bO jY oX qG m_x gR pW qR nG oO pJ qO sW qQ uL vF wJ) sz [.ref a_m] (fun A => q_X10_day dC dI cI cC cZ cB cJ A a_m nY sJ eG iY lY jR jW jZ jO oQ bR aY jQ gY iJ mQ lJ jA bG mK jB mW mJ eJ dG bT aG aJ aB bW dO bM bQ bO jY oX m_x gR pW qR nG oO pJ qO qQ post) aFY rfl (lbz rfl) ?_
  intro p e s m args below meth c A H locs ls C0 hP hD hS hl
  have hl : lv_has ls 4 [(0, .ref a_m)] := hl
  obtain ⟨hx, hb, hr, hml, hown, hts, hlocks, hA, hK, hN, tL, tM, hZL, hTL, hZM, hTM, hZX⟩ := id C0
  have hp := hw
  unfold wp_X10_day at hp
  refine lv_aload_n hx hb eX10_day_0.1 rfl (lv_at hl 0 rfl) ?_
  refine lv_iconst (v := 0) hx hb eX10_day_0.2.1 aCi ?_
  refine va_put (D := (dC, dI)) (ci := 10) (v := .int 0) (ty := .int) (C := zX) (T := aBe) (N := 51) hx hb hts aAt aD2 aAa aEC hown hK hP hD hS 0 rfl rfl 14 (lbz rfl) (hts _ q_638) (fun _ h9 => h9) rfl (aAa 14 (lbz rfl)) rfl rfl (lbz rfl) eX10_day_0.2.2.1 (fun H locs hP hD hS => ?_)
  have hPD := PDw (ws' := (aFx cI cC cZ cB cJ a_m nY sJ eG iY lY jR jW jZ jO oQ bR aY jQ gY iJ mQ lJ jA bG mK jB mW mJ eJ dG bT aG jC bL 0 jD mLn oF rP dQ aJ aB bW bZ aR aE bI aW bU fJ dO bM bQ bO jY oX qG m_x gR pW qR nG oO pJ qO sW qQ uL vF wJ)) hP hD rfl
  have hP := hPD.1
  have hD := hPD.2
  refine lv_aload_n hx hb eX10_day_0.2.2.2.1 rfl (lv_at hl 0 rfl) ?_
  refine lv_aload_n hx hb eX10_day_0.2.2.2.2.1 rfl (lv_at hl 0 rfl) ?_
  refine va_get (D := (dC, dI)) (ci := 10) (v := .ref jO) (C := zX) (T := aBe) (N := 51) hx hb hts aAt hown hK hP 0 rfl rfl 10 (lbz rfl) (hts _ q_640) (fun _ h9 => h9) rfl eX10_day_0.2.2.2.2.2.1 ?_
  refine lv_aload_n hx hb eX10_day_0.2.2.2.2.2.2.1 rfl (lv_at hl 0 rfl) ?_
  refine va_get (D := (dC, dI)) (ci := 10) (v := .int jC) (C := zX) (T := aBe) (N := 51) hx hb hts aAt hown hK hP 0 rfl rfl 11 (lbz rfl) (hts _ q_639) (fun _ h9 => h9) rfl eX10_day_0.2.2.2.2.2.2.2.1 ?_
  refine lv_bipush (v := 60) hx hb eX10_day_0.2.2.2.2.2.2.2.2.1 bp_60 ?_
  have hm := mgk (wc := (aRM cI cC cZ cB cJ a_m nY sJ eG iY lY jR jW jZ jO oQ bR aY jQ gY iJ mQ lJ jA bG mK jB mW mJ eJ dG bT aG jC bL 0 jD mLn oF rP dQ aJ aB bW bZ aR aE bI aW bU fJ dO bM bQ bO jY oX)) hP mk_236 15 rfl rfl rfl
  refine aBn hP hD hS hA (yS mk_236) (aAi mk_236) hm.1 hm.2 (aAk _) (zW _) (zF (As := [.ref jO, .int jC, .int 60]) (rest := []) C0 hP hD hS (yS mk_236) hm.1 (aAl _) 0 10 rfl rfl (c_X10_begin l dC dI cI cC cZ cB cJ a_m nY sJ eG iY lY jR jW jZ jO oQ bR aY jQ gY iJ mQ lJ jA bG mK jB mW mJ eJ dG H.size jC 60 bT aG jC bL 0 jD mLn oF rP dQ aJ aB bW bZ aR aE bI aW bU fJ dO bM bQ bO jY oX _ hp) q_680 q_683 q_681 q_682 aBL h_X10_begin rfl rfl ⟨lbz rfl, lbz rfl⟩ rfl rfl hl.1 rfl (lv_room (lbz rfl)) eX10_day_0.2.2.2.2.2.2.2.2.2.1 ⟨Nat.zero_le _, Nat.zero_le _⟩) (fun u H locs hp hP hD hS => ?_)
  obtain ⟨aH5, aEf, aKT, aQ5, aGh⟩ := u
  have hPD := PDm (ws' := (aFx cI cC cZ cB cJ a_m nY sJ eG iY lY jR jW jZ jO oQ bR aY jQ gY iJ mQ lJ jA bG mK jB mW mJ eJ dG bT aG jC bL 0 aH5 aEf aKT aQ5 aGh aJ aB bW bZ aR aE bI aW bU fJ dO bM bQ bO jY oX qG m_x gR pW qR nG oO pJ qO sW qQ uL vF wJ)) hP hD 15 rfl rfl rfl
  have hP := hPD.1
  have hD := hPD.2
  refine lv_aload_n hx hb eX10_day_0.2.2.2.2.2.2.2.2.2.2.1 rfl (lv_at hl 0 rfl) ?_
  refine lv_iconst (v := 0) hx hb eX10_day_0.2.2.2.2.2.2.2.2.2.2.2.1 aCi ?_
  refine va_put (D := (dC, dI)) (ci := 10) (v := .int 0) (ty := .int) (C := zX) (T := aBe) (N := 51) hx hb hts aAt aD2 aAa aEC hown hK hP hD hS 0 rfl rfl 11 (lbz rfl) (hts _ q_639) (fun _ h9 => h9) rfl (aAa 11 (lbz rfl)) rfl rfl (lbz rfl) eX10_day_0.2.2.2.2.2.2.2.2.2.2.2.2.1 (fun H locs hP hD hS => ?_)
  have hPD := PDw (ws' := (aFx cI cC cZ cB cJ a_m nY sJ eG iY lY jR jW jZ jO oQ bR aY jQ gY iJ mQ lJ jA bG mK jB mW mJ eJ dG bT aG 0 bL 0 aH5 aEf aKT aQ5 aGh aJ aB bW bZ aR aE bI aW bU fJ dO bM bQ bO jY oX qG m_x gR pW qR nG oO pJ qO sW qQ uL vF wJ)) hP hD rfl
  have hP := hPD.1
  have hD := hPD.2
  refine lv_iconst (v := 0) hx hb eX10_day_0.2.2.2.2.2.2.2.2.2.2.2.2.2.1 aCi ?_
  refine lv_istore_n (lv' := [(1, .int 0), (0, .ref a_m)]) hx hb eX10_day_0.2.2.2.2.2.2.2.2.2.2.2.2.2.2.1 rfl hl (by decide) rfl (fun ls hl => ?_)
  refine lv_aload_n hx hb eX10_day_0.2.2.2.2.2.2.2.2.2.2.2.2.2.2.2 rfl (lv_at hl 1 rfl) ?_
  refine va_get (D := (dC, dI)) (ci := 10) (v := .int aEf) (C := zX) (T := aBe) (N := 51) hx hb hts aAt hown hK hP 0 rfl rfl 16 (lbz rfl) (hts _ q_646) (fun _ h9 => h9) rfl aZ8.1 ?_
  refine lv_if_le (tgt := 37) hx hb aZ8.2.1 (by decide) (fun hc => ?_) (fun hc => ?_)
  · have hp := hp.1 hc
    refine lv_iconst (v := 0) hx hb aZ8.2.2.2.2.1 aCi ?_
    exact ks_X10_day_38 C0 0 0 0 bL 0 aH5 aEf aKT aQ5 aGh bZ aR aE bI aW bU fJ qG sW uL vF wJ H locs ls hp hP hD hS (lv_sub hl [1, 0] rfl)
  · have hp := hp.2 hc
    refine lv_iconst (v := 1) hx hb aZ8.2.2.1 aDx ?_
    refine lv_goto (tgt := 38) hx hb aZ8.2.2.2.1 (by decide) ?_
    exact ks_X10_day_38 C0 0 1 0 bL 0 aH5 aEf aKT aQ5 aGh bZ aR aE bI aW bU fJ qG sW uL vF wJ H locs ls hp hP hD hS (lv_sub hl [1, 0] rfl)
abbrev aVi (cI cC cZ cB cJ : ClassId) (a_m nY sJ eG iY lY jR jW jZ jO oQ bR aY jQ gY iJ mQ lJ jA bG mK jB mW mJ eJ dG : Nat) (bT aG jC bL bY : Int32) (jD : Nat) (mLn oF rP dQ aJ aB bW bZ aR aE bI aW bU fJ dO bM bQ bO jY oX : Int32) (qG uL : Nat -> Int32) : va_W := [(a_m, .inr (10, [.ref nY, .int bT, .ref sJ, .ref eG, .ref iY, .ref lY, .int aG, .ref jR, .ref jW, .ref jZ, .ref jO, .int jC, .ref oQ, .int bL, .int bY, rdv jO jQ jD, .int mLn, .int oF, .int rP, .int dQ, .ref bR, .ref aY, .int aJ, .int aB, .ref jQ, .int bW, .int bZ, .int aR, .int aE, .int bI, .int aW, .ref gY, .int bU, .ref iJ, .ref mQ, .int fJ, .ref lJ, .int dO, .ref jA, .ref bG, .int bM, .int bQ, .int bO, .ref mK, .ref jB, .ref mW, .int jY, .int oX, .ref mJ, .ref eJ, .ref dG])), (nY, .inl (cI, 21, .inl qG)), (gY, .inl (cI, 252, .inl uL))]
abbrev q_X10_undo (dC : Nat -> ClassId) (dI : Nat -> Nat -> Nat) (cI cC cZ cB cJ : ClassId) (A : Nat -> Prop) (a_m nY sJ eG iY lY jR jW jZ jO oQ bR aY jQ gY iJ mQ lJ jA bG mK jB mW mJ eJ dG : Nat) (bT aG jC bL : Int32) (jD : Nat) (mLn oF rP dQ aJ aB bW bZ aR aE bI aW fJ dO bM bQ bO jY oX : Int32) (uL : Nat -> Int32) (post : Int32 -> Int32 -> Int32 -> (Nat -> Int32) -> Prop) : Array Value -> State -> Outcome -> State -> Prop := va_Qi (fun (r : Int32) (u : Int32 × Int32 × (Nat -> Int32)) => post r u.1 u.2.1 u.2.2) (fun u t => gB (dC, dI) (tyl cI cC cZ cB cJ) A (aVi cI cC cZ cB cJ a_m nY sJ eG iY lY jR jW jZ jO oQ bR aY jQ gY iJ mQ lJ jA bG mK jB mW mJ eJ dG bT aG jC bL u.1 jD mLn oF rP dQ aJ aB bW bZ aR aE bI aW u.2.1 fJ dO bM bQ bO jY oX u.2.2 uL) t) A
abbrev rm_X10_undo : Room := { frames := 0, cells := 0, slots := 0, locals := 0 }
section S_X10_undo
variable {p : Program} {l : Launch} {e : Env} {s : State} {m : MethodId} {args : Array Value} {below : List Frame} {meth : Method} {c : Code} {dC : Nat -> ClassId} {dI : Nat -> Nat -> Nat} {cI cC cZ cB cJ : ClassId} {A : Nat -> Prop} {a_m nY sJ eG iY lY jR jW jZ jO oQ bR aY jQ gY iJ mQ lJ jA bG mK jB mW mJ eJ dG : Nat} {bT aG jC bL : Int32} {jD : Nat} {mLn oF rP dQ aJ aB bW bZ aR aE bI aW fJ dO bM bQ bO jY oX : Int32} {uL : Nat -> Int32} {post : Int32 -> Int32 -> Int32 -> (Nat -> Int32) -> Prop}
def ws_X10_undo_26 (post next : Int32 -> Int32 -> Int32 -> (Nat -> Int32) -> Prop) (uL : Nat -> Int32) (x1 bY bU : Int32) (qG : Nat -> Int32) : Prop := (21 <= x1 -> post bU bY bU qG) /\ (¬ 21 <= x1 -> ∀ v_2 : Int32, v_2 = 21 * bU -> ∀ v_3 : Int32, v_3 = v_2 + x1 -> vp_in v_3 252 /\ (∀ v_4 : Int32, v_4 = uL v_3.toNatClampNeg -> vp_in x1 21 /\ (∀ v_5 : Int32, v_5 = x1 + 1 -> next v_5 bY bU (upd qG x1.toNatClampNeg v_4))))
noncomputable def wb_X10_undo_26 (post : Int32 -> Int32 -> Int32 -> (Nat -> Int32) -> Prop) (uL : Nat -> Int32) : Nat -> Int32 -> Int32 -> Int32 -> (Nat -> Int32) -> Prop := fun n => Nat.rec (motive := fun _ => Int32 -> Int32 -> Int32 -> (Nat -> Int32) -> Prop) (fun _ _ _ _ => False) (fun _ ih => ws_X10_undo_26 post ih uL) n
set_option maxHeartbeats 4000000 in
set_option maxRecDepth 100000 in
theorem ks_X10_undo_26 (C0 : gc aIk (some .int) 2 zX (dC, dI) (tyl cI cC cZ cB cJ) A p s m args meth c) {next : Int32 -> Int32 -> Int32 -> (Nat -> Int32) -> Prop} (hKn : ∀ (x1 : Int32) (bY : Int32) (bU : Int32) (qG : Nat -> Int32) (H : Heap) (locs : List Loc) (ls : Array Slot), next x1 bY bU qG -> va_P (dC, dI) classes (aVi cI cC cZ cB cJ a_m nY sJ eG iY lY jR jW jZ jO oQ bR aY jQ gY iJ mQ lJ jA bG mK jB mW mJ eJ dG bT aG jC bL bY jD mLn oF rP dQ aJ aB bW bZ aR aE bI aW bU fJ dO bM bQ bO jY oX qG uL) H -> va_D A (aVi cI cC cZ cB cJ a_m nY sJ eG iY lY jR jW jZ jO oQ bR aY jQ gY iJ mQ lJ jA bG mK jB mW mJ eJ dG bT aG jC bL bY jD mLn oF rP dQ aJ aB bW bZ aR aE bI aW bU fJ dO bM bQ bO jY oX qG uL) -> va_S A s.heap H locs -> lv_has ls 2 [(0, .ref a_m), (1, .int x1)] -> W p l e rm_X10_undo s m args below meth c H locs 0 0 (MQ below (q_X10_undo dC dI cI cC cZ cB cJ A a_m nY sJ eG iY lY jR jW jZ jO oQ bR aY jQ gY iJ mQ lJ jA bG mK jB mW mJ eJ dG bT aG jC bL jD mLn oF rP dQ aJ aB bW bZ aR aE bI aW fJ dO bM bQ bO jY oX uL post) args s 0 0 A) (F0 m 26 ls [])) : ∀ (x1 bY bU : Int32) (qG : Nat -> Int32) (H : Heap) (locs : List Loc) (ls : Array Slot), (ws_X10_undo_26 post next uL) x1 bY bU qG -> va_P (dC, dI) classes (aVi cI cC cZ cB cJ a_m nY sJ eG iY lY jR jW jZ jO oQ bR aY jQ gY iJ mQ lJ jA bG mK jB mW mJ eJ dG bT aG jC bL bY jD mLn oF rP dQ aJ aB bW bZ aR aE bI aW bU fJ dO bM bQ bO jY oX qG uL) H -> va_D A (aVi cI cC cZ cB cJ a_m nY sJ eG iY lY jR jW jZ jO oQ bR aY jQ gY iJ mQ lJ jA bG mK jB mW mJ eJ dG bT aG jC bL bY jD mLn oF rP dQ aJ aB bW bZ aR aE bI aW bU fJ dO bM bQ bO jY oX qG uL) -> va_S A s.heap H locs -> lv_has ls 2 [(0, .ref a_m), (1, .int x1)] -> W p l e rm_X10_undo s m args below meth c H locs 0 0 (MQ below (q_X10_undo dC dI cI cC cZ cB cJ A a_m nY sJ eG iY lY jR jW jZ jO oQ bR aY jQ gY iJ mQ lJ jA bG mK jB mW mJ eJ dG bT aG jC bL jD mLn oF rP dQ aJ aB bW bZ aR aE bI aW fJ dO bM bQ bO jY oX uL post) args s 0 0 A) (F0 m 26 ls []) := by
  obtain ⟨hx, hb, hr, hml, hown, hts, hlocks, hA, hK, hN, tL, tM, hZL, hTL, hZM, hTM, hZX⟩ := id C0
  intro x1 bY bU qG H locs ls hp hP hD hS hl
  unfold ws_X10_undo_26 at hp
  refine lv_iload_n hx hb aWY.1 rfl (lv_at hl 1 rfl) ?_
  refine lv_bipush (v := 21) hx hb aWY.2.1 bp_21 ?_
  refine lv_icmp_ge (tgt := 58) hx hb aWY.2.2.1 (by decide) (fun hc => ?_) (fun hc => ?_)
  · have hp := hp.1 hc
    refine lv_aload_n hx hb eX10_undo_52.2.2.1 rfl (lv_at hl 0 rfl) ?_
    refine va_get (D := (dC, dI)) (ci := 10) (v := .int bU) (C := zX) (T := aBe) (N := 51) hx hb hts aAt hown hK hP 0 rfl rfl 32 (lbz rfl) (hts _ q_684) (fun _ h9 => h9) rfl eX10_undo_52.2.2.2.1 ?_
    exact W.iret (v := bU) hx hb hr (fun t ht hW => ⟨⟨bU, (bY, bU, qG), rfl, hp, by rw [ht]; exact hP, va_K.moved hW.alike hK, hD⟩, hS.F ht⟩) hS.2.2 eX10_undo_52.2.2.2.2
  · have hp := hp.2 hc
    refine lv_aload_n hx hb aWY.2.2.2.1 rfl (lv_at hl 0 rfl) ?_
    refine va_get (D := (dC, dI)) (ci := 10) (v := .ref nY) (C := zX) (T := aBe) (N := 51) hx hb hts aAt hown hK hP 0 rfl rfl 0 (lbz rfl) (hts _ aHO) (fun _ h9 => h9) rfl aWY.2.2.2.2.1 ?_
    refine lv_iload_n hx hb aWY.2.2.2.2.2.1 rfl (lv_at hl 1 rfl) ?_
    refine lv_aload_n hx hb aWY.2.2.2.2.2.2.1 rfl (lv_at hl 0 rfl) ?_
    refine va_get (D := (dC, dI)) (ci := 10) (v := .ref gY) (C := zX) (T := aBe) (N := 51) hx hb hts aAt hown hK hP 0 rfl rfl 31 (lbz rfl) (hts _ q_767) (fun _ h9 => h9) rfl aWY.2.2.2.2.2.2.2.1 ?_
    refine lv_bipush (v := 21) hx hb aWY.2.2.2.2.2.2.2.2.1 bp_21 ?_
    refine lv_aload_n hx hb aWY.2.2.2.2.2.2.2.2.2.1 rfl (lv_at hl 0 rfl) ?_
    refine va_get (D := (dC, dI)) (ci := 10) (v := .int bU) (C := zX) (T := aBe) (N := 51) hx hb hts aAt hown hK hP 0 rfl rfl 32 (lbz rfl) (hts _ q_684) (fun _ h9 => h9) rfl aWY.2.2.2.2.2.2.2.2.2.2.1 ?_
    refine lv_imul hx hb aWY.2.2.2.2.2.2.2.2.2.2.2.1 ?_
    refine lv_topi (fun v_2 aGO => ?_)
    have hp := hp v_2 aGO
    refine lv_iload_n hx hb aWY.2.2.2.2.2.2.2.2.2.2.2.2.1 rfl (lv_at hl 1 rfl) ?_
    refine lv_iadd hx hb aWY.2.2.2.2.2.2.2.2.2.2.2.2.2.1 ?_
    refine lv_topi (fun v_3 aGW => ?_)
    have hp := hp v_3 aGW
    have hin := hp.1
    have hp := hp.2
    refine va_iald hx hb hK hP 2 0 rfl rfl hin aWY.2.2.2.2.2.2.2.2.2.2.2.2.2.2.1 ?_
    refine lv_topi (fun v_4 aHM => ?_)
    have hp := hp v_4 aHM
    have hin := hp.1
    have hp := hp.2
    refine va_iast hx hb hK hP hD hS 1 0 rfl rfl hin aWY.2.2.2.2.2.2.2.2.2.2.2.2.2.2.2 (fun H locs hP hD hS => ?_)
    have hPD := PDw (ws' := (aVi cI cC cZ cB cJ a_m nY sJ eG iY lY jR jW jZ jO oQ bR aY jQ gY iJ mQ lJ jA bG mK jB mW mJ eJ dG bT aG jC bL bY jD mLn oF rP dQ aJ aB bW bZ aR aE bI aW bU fJ dO bM bQ bO jY oX (upd qG x1.toNatClampNeg v_4) uL)) hP hD rfl
    have hP := hPD.1
    have hD := hPD.2
    obtain ⟨v_5, aJD⟩ : ∃ y : Int32, y = x1 + 1 := ⟨_, rfl⟩
    refine lv_iinc (v := v_5) (lv' := [(1, .int v_5), (0, .ref a_m)]) hx hb eX10_undo_52.1 hl (k := 1) rfl (by rw [aJD]; rfl) (by decide) rfl (fun ls hl => ?_)
    have hp := hp v_5 aJD
    refine lv_goto (tgt := 26) hx hb eX10_undo_52.2.1 (by decide) ?_
    exact hKn v_5 bY bU (upd qG x1.toNatClampNeg v_4) H locs ls hp hP hD hS (lv_sub hl [1, 0] rfl)
set_option maxHeartbeats 4000000 in
set_option maxRecDepth 100000 in
theorem kb_X10_undo_26 (C0 : gc aIk (some .int) 2 zX (dC, dI) (tyl cI cC cZ cB cJ) A p s m args meth c) : ∀ (n : Nat), ∀ (x1 bY bU : Int32) (qG : Nat -> Int32) (H : Heap) (locs : List Loc) (ls : Array Slot), (wb_X10_undo_26 post uL n) x1 bY bU qG -> va_P (dC, dI) classes (aVi cI cC cZ cB cJ a_m nY sJ eG iY lY jR jW jZ jO oQ bR aY jQ gY iJ mQ lJ jA bG mK jB mW mJ eJ dG bT aG jC bL bY jD mLn oF rP dQ aJ aB bW bZ aR aE bI aW bU fJ dO bM bQ bO jY oX qG uL) H -> va_D A (aVi cI cC cZ cB cJ a_m nY sJ eG iY lY jR jW jZ jO oQ bR aY jQ gY iJ mQ lJ jA bG mK jB mW mJ eJ dG bT aG jC bL bY jD mLn oF rP dQ aJ aB bW bZ aR aE bI aW bU fJ dO bM bQ bO jY oX qG uL) -> va_S A s.heap H locs -> lv_has ls 2 [(0, .ref a_m), (1, .int x1)] -> W p l e rm_X10_undo s m args below meth c H locs 0 0 (MQ below (q_X10_undo dC dI cI cC cZ cB cJ A a_m nY sJ eG iY lY jR jW jZ jO oQ bR aY jQ gY iJ mQ lJ jA bG mK jB mW mJ eJ dG bT aG jC bL jD mLn oF rP dQ aJ aB bW bZ aR aE bI aW fJ dO bM bQ bO jY oX uL post) args s 0 0 A) (F0 m 26 ls []) := by
  intro n
  induction n with
  | zero =>
    intro x1 bY bU qG H locs ls hp
    exact False.elim hp
  | succ n ih =>
    intro x1 bY bU qG H locs ls hp
    exact ks_X10_undo_26 C0 ih x1 bY bU qG H locs ls hp
end S_X10_undo
def wp_X10_undo (post : Int32 -> Int32 -> Int32 -> (Nat -> Int32) -> Prop) (bY bU : Int32) (qG uL : Nat -> Int32) : Prop := (¬ bU = 0 -> ∀ v_1 : Int32, v_1 = bU - 1 -> ∃ n : Nat, wb_X10_undo_26 post uL n 0 0 v_1 qG) /\ (bU = 0 -> post (-1) 0 bU qG)
set_option maxHeartbeats 4000000 in
set_option maxRecDepth 100000 in
theorem c_X10_undo (l : Launch) (dC : Nat -> ClassId) (dI : Nat -> Nat -> Nat) (cI cC cZ cB cJ : ClassId) (a_m nY sJ eG iY lY jR jW jZ jO oQ bR aY jQ gY iJ mQ lJ jA bG mK jB mW mJ eJ dG sz : Nat) (bT aG jC bL bY : Int32) (jD : Nat) (mLn oF rP dQ aJ aB bW bZ aR aE bI aW bU fJ dO bM bQ bO jY oX : Int32) (qG uL : Nat -> Int32) (post : Int32 -> Int32 -> Int32 -> (Nat -> Int32) -> Prop) (hw : wp_X10_undo post bY bU qG uL) : Met l yX10_undo (gw yX10_undo aIk 2 (some .int)) rm_X10_undo (va_Pc [.ref a_m] (gPre (dC, dI) (tyl cI cC cZ cB cJ) (aVi cI cC cZ cB cJ a_m nY sJ eG iY lY jR jW jZ jO oQ bR aY jQ gY iJ mQ lJ jA bG mK jB mW mJ eJ dG bT aG jC bL bY jD mLn oF rP dQ aJ aB bW bZ aR aE bI aW bU fJ dO bM bQ bO jY oX qG uL) sz)) (q_X10_undo dC dI cI cC cZ cB cJ (va_A (aVi cI cC cZ cB cJ a_m nY sJ eG iY lY jR jW jZ jO oQ bR aY jQ gY iJ mQ lJ jA bG mK jB mW mJ eJ dG bT aG jC bL bY jD mLn oF rP dQ aJ aB bW bZ aR aE bI aW bU fJ dO bM bQ bO jY oX qG uL) sz) a_m nY sJ eG iY lY jR jW jZ jO oQ bR aY jQ gY iJ mQ lJ jA bG mK jB mW mJ eJ dG bT aG jC bL jD mLn oF rP dQ aJ aB bW bZ aR aE bI aW fJ dO bM bQ bO jY oX uL post) 0 0 (va_A (aVi cI cC cZ cB cJ a_m nY sJ eG iY lY jR jW jZ jO oQ bR aY jQ gY iJ mQ lJ jA bG mK jB mW mJ eJ dG bT aG jC bL bY jD mLn oF rP dQ aJ aB bW bZ aR aE bI aW bU fJ dO bM bQ bO jY oX qG uL) sz) := by
  refine aBJ (own := zX) (dC, dI) (tyl cI cC cZ cB cJ) (aVi cI cC cZ cB cJ a_m nY sJ eG iY lY jR jW jZ jO oQ bR aY jQ gY iJ mQ lJ jA bG mK jB mW mJ eJ dG bT aG jC bL bY jD mLn oF rP dQ aJ aB bW bZ aR aE bI aW bU fJ dO bM bQ bO jY oX qG uL) sz [.ref a_m] (fun A => q_X10_undo dC dI cI cC cZ cB cJ A a_m nY sJ eG iY lY jR jW jZ jO oQ bR aY jQ gY iJ mQ lJ jA bG mK jB mW mJ eJ dG bT aG jC bL jD mLn oF rP dQ aJ aB bW bZ aR aE bI aW fJ dO bM bQ bO jY oX uL post) aFY rfl (lbz rfl) ?_
  intro p e s m args below meth c A H locs ls C0 hP hD hS hl
  have hl : lv_has ls 2 [(0, .ref a_m)] := hl
  obtain ⟨hx, hb, hr, hml, hown, hts, hlocks, hA, hK, hN, tL, tM, hZL, hTL, hZM, hTM, hZX⟩ := id C0
  have hp := hw
  unfold wp_X10_undo at hp
  refine lv_aload_n hx hb bAQ.1 rfl (lv_at hl 0 rfl) ?_
  refine lv_iconst (v := 0) hx hb bAQ.2.1 aCi ?_
  refine va_put (D := (dC, dI)) (ci := 10) (v := .int 0) (ty := .int) (C := zX) (T := aBe) (N := 51) hx hb hts aAt aD2 aAa aEC hown hK hP hD hS 0 rfl rfl 14 (lbz rfl) (hts _ q_638) (fun _ h9 => h9) rfl (aAa 14 (lbz rfl)) rfl rfl (lbz rfl) bAQ.2.2.1 (fun H locs hP hD hS => ?_)
  have hPD := PDw (ws' := (aVi cI cC cZ cB cJ a_m nY sJ eG iY lY jR jW jZ jO oQ bR aY jQ gY iJ mQ lJ jA bG mK jB mW mJ eJ dG bT aG jC bL 0 jD mLn oF rP dQ aJ aB bW bZ aR aE bI aW bU fJ dO bM bQ bO jY oX qG uL)) hP hD rfl
  have hP := hPD.1
  have hD := hPD.2
  refine lv_aload_n hx hb bAQ.2.2.2.1 rfl (lv_at hl 0 rfl) ?_
  refine va_get (D := (dC, dI)) (ci := 10) (v := .int bU) (C := zX) (T := aBe) (N := 51) hx hb hts aAt hown hK hP 0 rfl rfl 32 (lbz rfl) (hts _ q_684) (fun _ h9 => h9) rfl bAQ.2.2.2.2.1 ?_
  refine lv_if_ne (tgt := 14) hx hb bAQ.2.2.2.2.2.1 (by decide) (fun hc => ?_) (fun hc => ?_)
  · have hp := hp.1 hc
    refine lv_aload_n hx hb bAQ.2.2.2.2.2.2.2.2.1 rfl (lv_at hl 0 rfl) ?_
    refine lv_dup hx hb bAQ.2.2.2.2.2.2.2.2.2.1 rfl ?_
    refine va_get (D := (dC, dI)) (ci := 10) (v := .int bU) (C := zX) (T := aBe) (N := 51) hx hb hts aAt hown hK hP 0 rfl rfl 32 (lbz rfl) (hts _ q_684) (fun _ h9 => h9) rfl bAQ.2.2.2.2.2.2.2.2.2.2.1 ?_
    refine lv_iconst (v := 1) hx hb bAQ.2.2.2.2.2.2.2.2.2.2.2.1 aDx ?_
    refine lv_isub hx hb bAQ.2.2.2.2.2.2.2.2.2.2.2.2.1 ?_
    refine lv_topi (fun v_1 aFJ => ?_)
    have hp := hp v_1 aFJ
    refine va_put (D := (dC, dI)) (ci := 10) (v := .int v_1) (ty := .int) (C := zX) (T := aBe) (N := 51) hx hb hts aAt aD2 aAa aEC hown hK hP hD hS 0 rfl rfl 32 (lbz rfl) (hts _ q_684) (fun _ h9 => h9) rfl (aAa 32 (lbz rfl)) rfl rfl (lbz rfl) bAQ.2.2.2.2.2.2.2.2.2.2.2.2.2.1 (fun H locs hP hD hS => ?_)
    have hPD := PDw (ws' := (aVi cI cC cZ cB cJ a_m nY sJ eG iY lY jR jW jZ jO oQ bR aY jQ gY iJ mQ lJ jA bG mK jB mW mJ eJ dG bT aG jC bL 0 jD mLn oF rP dQ aJ aB bW bZ aR aE bI aW v_1 fJ dO bM bQ bO jY oX qG uL)) hP hD rfl
    have hP := hPD.1
    have hD := hPD.2
    refine lv_iconst (v := 0) hx hb bAQ.2.2.2.2.2.2.2.2.2.2.2.2.2.2.1 aCi ?_
    refine lv_istore_n (lv' := [(1, .int 0), (0, .ref a_m)]) hx hb bAQ.2.2.2.2.2.2.2.2.2.2.2.2.2.2.2 rfl hl (by decide) rfl (fun ls hl => ?_)
    obtain ⟨n9, hp⟩ := hp
    exact kb_X10_undo_26 C0 n9 0 0 v_1 qG H locs ls hp hP hD hS (lv_sub hl [1, 0] rfl)
  · have hp := hp.2 hc
    refine lv_iconst (v := (-1)) hx hb bAQ.2.2.2.2.2.2.1 aEJ ?_
    exact W.iret (v := (-1)) hx hb hr (fun t ht hW => ⟨⟨(-1), (0, bU, qG), rfl, hp, by rw [ht]; exact hP, va_K.moved hW.alike hK, hD⟩, hS.F ht⟩) hS.2.2 bAQ.2.2.2.2.2.2.2.1
abbrev aQ7 (cI cC cZ cB cJ : ClassId) (a_m nY sJ eG iY lY jR jW jZ jO oQ bR aY jQ gY iJ mQ lJ jA bG mK jB mW mJ eJ dG : Nat) (bT aG jC bL bY : Int32) (jD : Nat) (mLn oF rP dQ aJ aB bW bZ aR aE bI aW bU fJ dO bM bQ bO jY oX : Int32) (m_x gR nG oO pJ sW : Nat -> Int32) : va_W := [(a_m, .inr (10, [.ref nY, .int bT, .ref sJ, .ref eG, .ref iY, .ref lY, .int aG, .ref jR, .ref jW, .ref jZ, .ref jO, .int jC, .ref oQ, .int bL, .int bY, rdv jO jQ jD, .int mLn, .int oF, .int rP, .int dQ, .ref bR, .ref aY, .int aJ, .int aB, .ref jQ, .int bW, .int bZ, .int aR, .int aE, .int bI, .int aW, .ref gY, .int bU, .ref iJ, .ref mQ, .int fJ, .ref lJ, .int dO, .ref jA, .ref bG, .int bM, .int bQ, .int bO, .ref mK, .ref jB, .ref mW, .int jY, .int oX, .ref mJ, .ref eJ, .ref dG])), (sJ, .inl (cI, 16, .inl m_x)), (eG, .inl (cI, 16, .inl gR)), (jR, .inl (cI, 8, .inl nG)), (jW, .inl (cI, 8, .inl oO)), (jZ, .inl (cI, 5, .inl pJ)), (oQ, .inl (cI, 32, .inl sW))]
abbrev q_X10_reached (dC : Nat -> ClassId) (dI : Nat -> Nat -> Nat) (cI cC cZ cB cJ : ClassId) (A : Nat -> Prop) (a_m nY sJ eG iY lY jR jW jZ jO oQ bR aY jQ gY iJ mQ lJ jA bG mK jB mW mJ eJ dG : Nat) (bT aG jC : Int32) (jD : Nat) (mLn oF rP dQ aJ aB bW bZ aR aE bI aW bU fJ dO bM bQ bO jY oX : Int32) (m_x gR nG oO pJ : Nat -> Int32) (post : Int32 -> Int32 -> Int32 -> (Nat -> Int32) -> Prop) : Array Value -> State -> Outcome -> State -> Prop := va_Qi (fun (r : Int32) (u : Int32 × Int32 × (Nat -> Int32)) => post r u.1 u.2.1 u.2.2) (fun u t => gB (dC, dI) (tyl cI cC cZ cB cJ) A (aQ7 cI cC cZ cB cJ a_m nY sJ eG iY lY jR jW jZ jO oQ bR aY jQ gY iJ mQ lJ jA bG mK jB mW mJ eJ dG bT aG jC u.1 u.2.1 jD mLn oF rP dQ aJ aB bW bZ aR aE bI aW bU fJ dO bM bQ bO jY oX m_x gR nG oO pJ u.2.2) t) A
abbrev rm_X10_reached : Room := { frames := 4, cells := 0, slots := 0, locals := 91 }
def wp_X10_reached (post : Int32 -> Int32 -> Int32 -> (Nat -> Int32) -> Prop) (p0 bT aG bL bY : Int32) (m_x gR nG oO pJ sW : Nat -> Int32) : Prop := aJI (fun r_1 => (¬ r_1 = 0 -> aJz (fun r_2 => aDs (fun aPZ m_row_4 => aJz (fun r_5 => aDs (fun aVd m_row_7 => aJz (fun r_8 => post r_8 aVd 0 m_row_7) p0 0 0 bT m_x gR nG oO pJ) r_5 aPZ m_row_4) p0 1 1 bT m_x gR nG oO pJ) r_2 0 sW) p0 1 0 bT m_x gR nG oO pJ) /\ (r_1 = 0 -> post (-1) bL 0 sW)) p0 aG
set_option maxHeartbeats 4000000 in
set_option maxRecDepth 100000 in
theorem c_X10_reached (l : Launch) (dC : Nat -> ClassId) (dI : Nat -> Nat -> Nat) (cI cC cZ cB cJ : ClassId) (a_m nY sJ eG iY lY jR jW jZ jO oQ bR aY jQ gY iJ mQ lJ jA bG mK jB mW mJ eJ dG sz : Nat) (p0 bT aG jC bL bY : Int32) (jD : Nat) (mLn oF rP dQ aJ aB bW bZ aR aE bI aW bU fJ dO bM bQ bO jY oX : Int32) (m_x gR nG oO pJ sW : Nat -> Int32) (post : Int32 -> Int32 -> Int32 -> (Nat -> Int32) -> Prop) (hw : wp_X10_reached post p0 bT aG bL bY m_x gR nG oO pJ sW) : Met l yX10_reached (gw yX10_reached aGy 2 (some .int)) rm_X10_reached (va_Pc [.ref a_m, .int p0] (gPre (dC, dI) (tyl cI cC cZ cB cJ) (aQ7 cI cC cZ cB cJ a_m nY sJ eG iY lY jR jW jZ jO oQ bR aY jQ gY iJ mQ lJ jA bG mK jB mW mJ eJ dG bT aG jC bL bY jD mLn oF rP dQ aJ aB bW bZ aR aE bI aW bU fJ dO bM bQ bO jY oX m_x gR nG oO pJ sW) sz)) (q_X10_reached dC dI cI cC cZ cB cJ (va_A (aQ7 cI cC cZ cB cJ a_m nY sJ eG iY lY jR jW jZ jO oQ bR aY jQ gY iJ mQ lJ jA bG mK jB mW mJ eJ dG bT aG jC bL bY jD mLn oF rP dQ aJ aB bW bZ aR aE bI aW bU fJ dO bM bQ bO jY oX m_x gR nG oO pJ sW) sz) a_m nY sJ eG iY lY jR jW jZ jO oQ bR aY jQ gY iJ mQ lJ jA bG mK jB mW mJ eJ dG bT aG jC jD mLn oF rP dQ aJ aB bW bZ aR aE bI aW bU fJ dO bM bQ bO jY oX m_x gR nG oO pJ post) 0 0 (va_A (aQ7 cI cC cZ cB cJ a_m nY sJ eG iY lY jR jW jZ jO oQ bR aY jQ gY iJ mQ lJ jA bG mK jB mW mJ eJ dG bT aG jC bL bY jD mLn oF rP dQ aJ aB bW bZ aR aE bI aW bU fJ dO bM bQ bO jY oX m_x gR nG oO pJ sW) sz) := by
  refine aBJ (own := zX) (dC, dI) (tyl cI cC cZ cB cJ) (aQ7 cI cC cZ cB cJ a_m nY sJ eG iY lY jR jW jZ jO oQ bR aY jQ gY iJ mQ lJ jA bG mK jB mW mJ eJ dG bT aG jC bL bY jD mLn oF rP dQ aJ aB bW bZ aR aE bI aW bU fJ dO bM bQ bO jY oX m_x gR nG oO pJ sW) sz [.ref a_m, .int p0] (fun A => q_X10_reached dC dI cI cC cZ cB cJ A a_m nY sJ eG iY lY jR jW jZ jO oQ bR aY jQ gY iJ mQ lJ jA bG mK jB mW mJ eJ dG bT aG jC jD mLn oF rP dQ aJ aB bW bZ aR aE bI aW bU fJ dO bM bQ bO jY oX m_x gR nG oO pJ post) aFY rfl (lbz rfl) ?_
  intro p e s m args below meth c A H locs ls C0 hP hD hS hl
  have hl : lv_has ls 2 [(0, .ref a_m), (1, .int p0)] := hl
  obtain ⟨hx, hb, hr, hml, hown, hts, hlocks, hA, hK, hN, tL, tM, hZL, hTL, hZM, hTM, hZX⟩ := id C0
  have hp := hw
  unfold wp_X10_reached at hp
  refine lv_aload_n hx hb aQS.1 rfl (lv_at hl 0 rfl) ?_
  refine lv_iconst (v := 0) hx hb aQS.2.1 aCi ?_
  refine va_put (D := (dC, dI)) (ci := 10) (v := .int 0) (ty := .int) (C := zX) (T := aBe) (N := 51) hx hb hts aAt aD2 aAa aEC hown hK hP hD hS 0 rfl rfl 14 (lbz rfl) (hts _ q_638) (fun _ h9 => h9) rfl (aAa 14 (lbz rfl)) rfl rfl (lbz rfl) aQS.2.2.1 (fun H locs hP hD hS => ?_)
  have hPD := PDw (ws' := (aQ7 cI cC cZ cB cJ a_m nY sJ eG iY lY jR jW jZ jO oQ bR aY jQ gY iJ mQ lJ jA bG mK jB mW mJ eJ dG bT aG jC bL 0 jD mLn oF rP dQ aJ aB bW bZ aR aE bI aW bU fJ dO bM bQ bO jY oX m_x gR nG oO pJ sW)) hP hD rfl
  have hP := hPD.1
  have hD := hPD.2
  refine lv_aload_n hx hb aQS.2.2.2.1 rfl (lv_at hl 0 rfl) ?_
  refine lv_iload_n hx hb aQS.2.2.2.2.1 rfl (lv_at hl 1 rfl) ?_
  have hm := mgk (wc := (aK5 cI cC cZ cB cJ a_m nY sJ eG iY lY jR jW jZ jO oQ bR aY jQ gY iJ mQ lJ jA bG mK jB mW mJ eJ dG bT aG jC bL 0 jD mLn oF rP dQ aJ aB bW bZ aR aE bI aW bU fJ dO bM bQ bO jY oX)) hP mk_240 7 rfl rfl rfl
  refine yW hP hD hS hA (yS mk_240) (aAi mk_240) hm.1 hm.2 (aAk _) (zW _) (zF (As := [.int p0]) (rest := []) C0 hP hD hS (yS mk_240) hm.1 (aAl _) 0 10 rfl rfl (aZR l dC dI cI cC cZ cB cJ a_m nY sJ eG iY lY jR jW jZ jO oQ bR aY jQ gY iJ mQ lJ jA bG mK jB mW mJ eJ dG H.size p0 bT aG jC bL 0 jD mLn oF rP dQ aJ aB bW bZ aR aE bI aW bU fJ dO bM bQ bO jY oX _ hp) q_757 q_760 q_758 q_759 aBL aZY rfl rfl ⟨lbz rfl, lbz rfl⟩ rfl rfl hl.1 rfl (lv_room (lbz rfl)) aQS.2.2.2.2.2.1 ⟨Nat.zero_le _, Nat.zero_le _⟩) (fun r_1 u H locs hp hP hD hS => ?_)
  have hPD := PDm (ws' := (aQ7 cI cC cZ cB cJ a_m nY sJ eG iY lY jR jW jZ jO oQ bR aY jQ gY iJ mQ lJ jA bG mK jB mW mJ eJ dG bT aG jC bL 0 jD mLn oF rP dQ aJ aB bW bZ aR aE bI aW bU fJ dO bM bQ bO jY oX m_x gR nG oO pJ sW)) hP hD 7 rfl rfl rfl
  have hP := hPD.1
  have hD := hPD.2
  refine lv_if_ne (tgt := 15) hx hb aQS.2.2.2.2.2.2.1 (by decide) (fun hc => ?_) (fun hc => ?_)
  · have hp := hp.1 hc
    refine lv_aload_n hx hb aQS.2.2.2.2.2.2.2.2.2.1 rfl (lv_at hl 0 rfl) ?_
    refine lv_iconst (v := 0) hx hb aQS.2.2.2.2.2.2.2.2.2.2.1 aCi ?_
    refine va_put (D := (dC, dI)) (ci := 10) (v := .int 0) (ty := .int) (C := zX) (T := aBe) (N := 51) hx hb hts aAt aD2 aAa aEC hown hK hP hD hS 0 rfl rfl 13 (lbz rfl) (hts _ q_847) (fun _ h9 => h9) rfl (aAa 13 (lbz rfl)) rfl rfl (lbz rfl) aQS.2.2.2.2.2.2.2.2.2.2.2.1 (fun H locs hP hD hS => ?_)
    have hPD := PDw (ws' := (aQ7 cI cC cZ cB cJ a_m nY sJ eG iY lY jR jW jZ jO oQ bR aY jQ gY iJ mQ lJ jA bG mK jB mW mJ eJ dG bT aG jC 0 0 jD mLn oF rP dQ aJ aB bW bZ aR aE bI aW bU fJ dO bM bQ bO jY oX m_x gR nG oO pJ sW)) hP hD rfl
    have hP := hPD.1
    have hD := hPD.2
    refine lv_aload_n hx hb aQS.2.2.2.2.2.2.2.2.2.2.2.2.1 rfl (lv_at hl 0 rfl) ?_
    refine lv_aload_n hx hb aQS.2.2.2.2.2.2.2.2.2.2.2.2.2.1 rfl (lv_at hl 0 rfl) ?_
    refine lv_iload_n hx hb aQS.2.2.2.2.2.2.2.2.2.2.2.2.2.2.1 rfl (lv_at hl 1 rfl) ?_
    refine lv_iconst (v := 1) hx hb aQS.2.2.2.2.2.2.2.2.2.2.2.2.2.2.2 aDx ?_
    refine lv_iconst (v := 0) hx hb aNw.1 aCi ?_
    have hm := mgk (wc := (aFy cI cC cZ cB cJ a_m nY sJ eG iY lY jR jW jZ jO oQ bR aY jQ gY iJ mQ lJ jA bG mK jB mW mJ eJ dG bT aG jC 0 0 jD mLn oF rP dQ aJ aB bW bZ aR aE bI aW bU fJ dO bM bQ bO jY oX m_x gR nG oO pJ)) hP mk_241 7 rfl rfl rfl
    refine yW hP hD hS hA (yS mk_241) (aAi mk_241) hm.1 hm.2 (aAk _) (zW _) (zF (As := [.int p0, .int 1, .int 0]) (rest := [.ref a_m]) C0 hP hD hS (yS mk_241) hm.1 (aAl _) 0 10 rfl rfl (c_X10_reachedFrom l dC dI cI cC cZ cB cJ a_m nY sJ eG iY lY jR jW jZ jO oQ bR aY jQ gY iJ mQ lJ jA bG mK jB mW mJ eJ dG H.size p0 1 0 bT aG jC 0 0 jD mLn oF rP dQ aJ aB bW bZ aR aE bI aW bU fJ dO bM bQ bO jY oX m_x gR nG oO pJ _ hp) q_824 q_827 q_825 q_826 aBL h_X10_reachedFrom rfl rfl ⟨lbz rfl, lbz rfl⟩ rfl rfl hl.1 rfl (lv_room (lbz rfl)) aNw.2.1 ⟨Nat.zero_le _, Nat.zero_le _⟩) (fun r_2 u H locs hp hP hD hS => ?_)
    have hPD := PDm (ws' := (aQ7 cI cC cZ cB cJ a_m nY sJ eG iY lY jR jW jZ jO oQ bR aY jQ gY iJ mQ lJ jA bG mK jB mW mJ eJ dG bT aG jC 0 0 jD mLn oF rP dQ aJ aB bW bZ aR aE bI aW bU fJ dO bM bQ bO jY oX m_x gR nG oO pJ sW)) hP hD 7 rfl rfl rfl
    have hP := hPD.1
    have hD := hPD.2
    have hm := mgk (wc := (aD0 cI cC cZ cB cJ a_m nY sJ eG iY lY jR jW jZ jO oQ bR aY jQ gY iJ mQ lJ jA bG mK jB mW mJ eJ dG bT aG jC 0 0 jD mLn oF rP dQ aJ aB bW bZ aR aE bI aW bU fJ dO bM bQ bO jY oX sW)) hP mk_242 7 rfl rfl rfl
    refine aBn hP hD hS hA (yS mk_242) (aAi mk_242) hm.1 hm.2 (aAk _) (zW _) (zF (As := [.int r_2]) (rest := []) C0 hP hD hS (yS mk_242) hm.1 (aAl _) 0 10 rfl rfl (aGE l dC dI cI cC cZ cB cJ a_m nY sJ eG iY lY jR jW jZ jO oQ bR aY jQ gY iJ mQ lJ jA bG mK jB mW mJ eJ dG H.size r_2 bT aG jC 0 0 jD mLn oF rP dQ aJ aB bW bZ aR aE bI aW bU fJ dO bM bQ bO jY oX sW _ hp) q_849 q_852 q_850 q_851 aBL aGF rfl rfl ⟨lbz rfl, lbz rfl⟩ rfl rfl hl.1 rfl (lv_room (lbz rfl)) aNw.2.2.1 ⟨Nat.zero_le _, Nat.zero_le _⟩) (fun u H locs hp hP hD hS => ?_)
    obtain ⟨aPZ, m_row_4⟩ := u
    have hPD := PDm (ws' := (aQ7 cI cC cZ cB cJ a_m nY sJ eG iY lY jR jW jZ jO oQ bR aY jQ gY iJ mQ lJ jA bG mK jB mW mJ eJ dG bT aG jC aPZ 0 jD mLn oF rP dQ aJ aB bW bZ aR aE bI aW bU fJ dO bM bQ bO jY oX m_x gR nG oO pJ m_row_4)) hP hD 7 rfl rfl rfl
    have hP := hPD.1
    have hD := hPD.2
    refine lv_aload_n hx hb aNw.2.2.2.1 rfl (lv_at hl 0 rfl) ?_
    refine lv_aload_n hx hb aNw.2.2.2.2.1 rfl (lv_at hl 0 rfl) ?_
    refine lv_iload_n hx hb aNw.2.2.2.2.2.1 rfl (lv_at hl 1 rfl) ?_
    refine lv_iconst (v := 1) hx hb aNw.2.2.2.2.2.2.1 aDx ?_
    refine lv_iconst (v := 1) hx hb aNw.2.2.2.2.2.2.2.1 aDx ?_
    have hm := mgk (wc := (aFy cI cC cZ cB cJ a_m nY sJ eG iY lY jR jW jZ jO oQ bR aY jQ gY iJ mQ lJ jA bG mK jB mW mJ eJ dG bT aG jC aPZ 0 jD mLn oF rP dQ aJ aB bW bZ aR aE bI aW bU fJ dO bM bQ bO jY oX m_x gR nG oO pJ)) hP mk_241 7 rfl rfl rfl
    refine yW hP hD hS hA (yS mk_241) (aAi mk_241) hm.1 hm.2 (aAk _) (zW _) (zF (As := [.int p0, .int 1, .int 1]) (rest := [.ref a_m]) C0 hP hD hS (yS mk_241) hm.1 (aAl _) 0 10 rfl rfl (c_X10_reachedFrom l dC dI cI cC cZ cB cJ a_m nY sJ eG iY lY jR jW jZ jO oQ bR aY jQ gY iJ mQ lJ jA bG mK jB mW mJ eJ dG H.size p0 1 1 bT aG jC aPZ 0 jD mLn oF rP dQ aJ aB bW bZ aR aE bI aW bU fJ dO bM bQ bO jY oX m_x gR nG oO pJ _ hp) q_824 q_827 q_825 q_826 aBL h_X10_reachedFrom rfl rfl ⟨lbz rfl, lbz rfl⟩ rfl rfl hl.1 rfl (lv_room (lbz rfl)) aNw.2.2.2.2.2.2.2.2.1 ⟨Nat.zero_le _, Nat.zero_le _⟩) (fun r_5 u H locs hp hP hD hS => ?_)
    have hPD := PDm (ws' := (aQ7 cI cC cZ cB cJ a_m nY sJ eG iY lY jR jW jZ jO oQ bR aY jQ gY iJ mQ lJ jA bG mK jB mW mJ eJ dG bT aG jC aPZ 0 jD mLn oF rP dQ aJ aB bW bZ aR aE bI aW bU fJ dO bM bQ bO jY oX m_x gR nG oO pJ m_row_4)) hP hD 7 rfl rfl rfl
    have hP := hPD.1
    have hD := hPD.2
    have hm := mgk (wc := (aD0 cI cC cZ cB cJ a_m nY sJ eG iY lY jR jW jZ jO oQ bR aY jQ gY iJ mQ lJ jA bG mK jB mW mJ eJ dG bT aG jC aPZ 0 jD mLn oF rP dQ aJ aB bW bZ aR aE bI aW bU fJ dO bM bQ bO jY oX m_row_4)) hP mk_242 7 rfl rfl rfl
    refine aBn hP hD hS hA (yS mk_242) (aAi mk_242) hm.1 hm.2 (aAk _) (zW _) (zF (As := [.int r_5]) (rest := []) C0 hP hD hS (yS mk_242) hm.1 (aAl _) 0 10 rfl rfl (aGE l dC dI cI cC cZ cB cJ a_m nY sJ eG iY lY jR jW jZ jO oQ bR aY jQ gY iJ mQ lJ jA bG mK jB mW mJ eJ dG H.size r_5 bT aG jC aPZ 0 jD mLn oF rP dQ aJ aB bW bZ aR aE bI aW bU fJ dO bM bQ bO jY oX m_row_4 _ hp) q_849 q_852 q_850 q_851 aBL aGF rfl rfl ⟨lbz rfl, lbz rfl⟩ rfl rfl hl.1 rfl (lv_room (lbz rfl)) aNw.2.2.2.2.2.2.2.2.2.1 ⟨Nat.zero_le _, Nat.zero_le _⟩) (fun u H locs hp hP hD hS => ?_)
    obtain ⟨aVd, m_row_7⟩ := u
    have hPD := PDm (ws' := (aQ7 cI cC cZ cB cJ a_m nY sJ eG iY lY jR jW jZ jO oQ bR aY jQ gY iJ mQ lJ jA bG mK jB mW mJ eJ dG bT aG jC aVd 0 jD mLn oF rP dQ aJ aB bW bZ aR aE bI aW bU fJ dO bM bQ bO jY oX m_x gR nG oO pJ m_row_7)) hP hD 7 rfl rfl rfl
    have hP := hPD.1
    have hD := hPD.2
    refine lv_aload_n hx hb aNw.2.2.2.2.2.2.2.2.2.2.1 rfl (lv_at hl 0 rfl) ?_
    refine lv_iload_n hx hb aNw.2.2.2.2.2.2.2.2.2.2.2.1 rfl (lv_at hl 1 rfl) ?_
    refine lv_iconst (v := 0) hx hb aNw.2.2.2.2.2.2.2.2.2.2.2.2.1 aCi ?_
    refine lv_iconst (v := 0) hx hb aNw.2.2.2.2.2.2.2.2.2.2.2.2.2.1 aCi ?_
    have hm := mgk (wc := (aFy cI cC cZ cB cJ a_m nY sJ eG iY lY jR jW jZ jO oQ bR aY jQ gY iJ mQ lJ jA bG mK jB mW mJ eJ dG bT aG jC aVd 0 jD mLn oF rP dQ aJ aB bW bZ aR aE bI aW bU fJ dO bM bQ bO jY oX m_x gR nG oO pJ)) hP mk_241 7 rfl rfl rfl
    refine yW hP hD hS hA (yS mk_241) (aAi mk_241) hm.1 hm.2 (aAk _) (zW _) (zF (As := [.int p0, .int 0, .int 0]) (rest := []) C0 hP hD hS (yS mk_241) hm.1 (aAl _) 0 10 rfl rfl (c_X10_reachedFrom l dC dI cI cC cZ cB cJ a_m nY sJ eG iY lY jR jW jZ jO oQ bR aY jQ gY iJ mQ lJ jA bG mK jB mW mJ eJ dG H.size p0 0 0 bT aG jC aVd 0 jD mLn oF rP dQ aJ aB bW bZ aR aE bI aW bU fJ dO bM bQ bO jY oX m_x gR nG oO pJ _ hp) q_824 q_827 q_825 q_826 aBL h_X10_reachedFrom rfl rfl ⟨lbz rfl, lbz rfl⟩ rfl rfl hl.1 rfl (lv_room (lbz rfl)) aNw.2.2.2.2.2.2.2.2.2.2.2.2.2.2.1 ⟨Nat.zero_le _, Nat.zero_le _⟩) (fun r_8 u H locs hp hP hD hS => ?_)
    have hPD := PDm (ws' := (aQ7 cI cC cZ cB cJ a_m nY sJ eG iY lY jR jW jZ jO oQ bR aY jQ gY iJ mQ lJ jA bG mK jB mW mJ eJ dG bT aG jC aVd 0 jD mLn oF rP dQ aJ aB bW bZ aR aE bI aW bU fJ dO bM bQ bO jY oX m_x gR nG oO pJ m_row_7)) hP hD 7 rfl rfl rfl
    have hP := hPD.1
    have hD := hPD.2
    exact W.iret (v := r_8) hx hb hr (fun t ht hW => ⟨⟨r_8, (aVd, 0, m_row_7), rfl, hp, by rw [ht]; exact hP, va_K.moved hW.alike hK, hD⟩, hS.F ht⟩) hS.2.2 aNw.2.2.2.2.2.2.2.2.2.2.2.2.2.2.2
  · have hp := hp.2 hc
    refine lv_iconst (v := (-1)) hx hb aQS.2.2.2.2.2.2.2.1 aEJ ?_
    exact W.iret (v := (-1)) hx hb hr (fun t ht hW => ⟨⟨(-1), (bL, 0, sW), rfl, hp, by rw [ht]; exact hP, va_K.moved hW.alike hK, hD⟩, hS.F ht⟩) hS.2.2 aQS.2.2.2.2.2.2.2.2.1
abbrev aPc (cI cC cZ cB cJ : ClassId) (a_m nY sJ eG iY lY jR jW jZ jO oQ bR aY jQ gY iJ mQ lJ jA bG mK jB mW mJ eJ dG : Nat) (bT aG jC bL bY : Int32) (jD : Nat) (mLn oF rP dQ aJ aB bW bZ aR aE bI aW bU fJ dO bM bQ bO jY oX : Int32) (qG m_x gR nG oO pJ : Nat -> Int32) : va_W := [(a_m, .inr (10, [.ref nY, .int bT, .ref sJ, .ref eG, .ref iY, .ref lY, .int aG, .ref jR, .ref jW, .ref jZ, .ref jO, .int jC, .ref oQ, .int bL, .int bY, rdv jO jQ jD, .int mLn, .int oF, .int rP, .int dQ, .ref bR, .ref aY, .int aJ, .int aB, .ref jQ, .int bW, .int bZ, .int aR, .int aE, .int bI, .int aW, .ref gY, .int bU, .ref iJ, .ref mQ, .int fJ, .ref lJ, .int dO, .ref jA, .ref bG, .int bM, .int bQ, .int bO, .ref mK, .ref jB, .ref mW, .int jY, .int oX, .ref mJ, .ref eJ, .ref dG])), (nY, .inl (cI, 21, .inl qG)), (sJ, .inl (cI, 16, .inl m_x)), (eG, .inl (cI, 16, .inl gR)), (jR, .inl (cI, 8, .inl nG)), (jW, .inl (cI, 8, .inl oO)), (jZ, .inl (cI, 5, .inl pJ))]
abbrev q_X10_from (dC : Nat -> ClassId) (dI : Nat -> Nat -> Nat) (cI cC cZ cB cJ : ClassId) (A : Nat -> Prop) (a_m nY sJ eG iY lY jR jW jZ jO oQ bR aY jQ gY iJ mQ lJ jA bG mK jB mW mJ eJ dG : Nat) (bT aG jC bL : Int32) (jD : Nat) (mLn oF rP dQ aJ aB bW bZ aR aE bI aW bU fJ dO bM bQ bO jY oX : Int32) (qG m_x gR nG oO pJ : Nat -> Int32) (post : Int32 -> Int32 -> Prop) : Array Value -> State -> Outcome -> State -> Prop := va_Qi (fun (r u : Int32) => post r u) (fun u t => gB (dC, dI) (tyl cI cC cZ cB cJ) A (aPc cI cC cZ cB cJ a_m nY sJ eG iY lY jR jW jZ jO oQ bR aY jQ gY iJ mQ lJ jA bG mK jB mW mJ eJ dG bT aG jC bL u jD mLn oF rP dQ aJ aB bW bZ aR aE bI aW bU fJ dO bM bQ bO jY oX qG m_x gR nG oO pJ) t) A
abbrev rm_X10_from : Room := { frames := 3, cells := 0, slots := 0, locals := 66 }
section S_X10_from
variable {p : Program} {l : Launch} {e : Env} {s : State} {m : MethodId} {args : Array Value} {below : List Frame} {meth : Method} {c : Code} {dC : Nat -> ClassId} {dI : Nat -> Nat -> Nat} {cI cC cZ cB cJ : ClassId} {A : Nat -> Prop} {a_m nY sJ eG iY lY jR jW jZ jO oQ bR aY jQ gY iJ mQ lJ jA bG mK jB mW mJ eJ dG : Nat} {bT aG jC bL : Int32} {jD : Nat} {mLn oF rP dQ aJ aB bW bZ aR aE bI aW bU fJ dO bM bQ bO jY oX : Int32} {qG m_x gR nG oO pJ : Nat -> Int32} {post : Int32 -> Int32 -> Prop}
def ws_X10_from_69 (post : Int32 -> Int32 -> Prop) (K29 : Int32 -> Int32 -> Int32 -> Int32 -> Int32 -> Prop) (bT aG : Int32) (qG m_x gR nG oO pJ : Nat -> Int32) (x1 x2 x4 k0 k1 bY : Int32) : Prop := ∀ v_6 : Int32, v_6 = k0 ||| k1 -> ∀ v_7 : Int32, v_7 = x4 + 1 -> K29 x1 x2 v_6 v_7 bY
set_option maxHeartbeats 4000000 in
set_option maxRecDepth 100000 in
theorem ks_X10_from_69 (C0 : gc aGX (some .int) 5 zX (dC, dI) (tyl cI cC cZ cB cJ) A p s m args meth c) {K29 : Int32 -> Int32 -> Int32 -> Int32 -> Int32 -> Prop} (hK29 : ∀ (x1 : Int32) (x2 : Int32) (x3 : Int32) (x4 : Int32) (bY : Int32) (H : Heap) (locs : List Loc) (ls : Array Slot), K29 x1 x2 x3 x4 bY -> va_P (dC, dI) classes (aPc cI cC cZ cB cJ a_m nY sJ eG iY lY jR jW jZ jO oQ bR aY jQ gY iJ mQ lJ jA bG mK jB mW mJ eJ dG bT aG jC bL bY jD mLn oF rP dQ aJ aB bW bZ aR aE bI aW bU fJ dO bM bQ bO jY oX qG m_x gR nG oO pJ) H -> va_D A (aPc cI cC cZ cB cJ a_m nY sJ eG iY lY jR jW jZ jO oQ bR aY jQ gY iJ mQ lJ jA bG mK jB mW mJ eJ dG bT aG jC bL bY jD mLn oF rP dQ aJ aB bW bZ aR aE bI aW bU fJ dO bM bQ bO jY oX qG m_x gR nG oO pJ) -> va_S A s.heap H locs -> lv_has ls 5 [(0, .ref a_m), (1, .int x1), (2, .int x2), (3, .int x3), (4, .int x4)] -> W p l e rm_X10_from s m args below meth c H locs 0 0 (MQ below (q_X10_from dC dI cI cC cZ cB cJ A a_m nY sJ eG iY lY jR jW jZ jO oQ bR aY jQ gY iJ mQ lJ jA bG mK jB mW mJ eJ dG bT aG jC bL jD mLn oF rP dQ aJ aB bW bZ aR aE bI aW bU fJ dO bM bQ bO jY oX qG m_x gR nG oO pJ post) args s 0 0 A) (F0 m 29 ls [])) : ∀ (x1 x2 x4 k0 k1 bY : Int32) (H : Heap) (locs : List Loc) (ls : Array Slot), (ws_X10_from_69 post K29 bT aG qG m_x gR nG oO pJ) x1 x2 x4 k0 k1 bY -> va_P (dC, dI) classes (aPc cI cC cZ cB cJ a_m nY sJ eG iY lY jR jW jZ jO oQ bR aY jQ gY iJ mQ lJ jA bG mK jB mW mJ eJ dG bT aG jC bL bY jD mLn oF rP dQ aJ aB bW bZ aR aE bI aW bU fJ dO bM bQ bO jY oX qG m_x gR nG oO pJ) H -> va_D A (aPc cI cC cZ cB cJ a_m nY sJ eG iY lY jR jW jZ jO oQ bR aY jQ gY iJ mQ lJ jA bG mK jB mW mJ eJ dG bT aG jC bL bY jD mLn oF rP dQ aJ aB bW bZ aR aE bI aW bU fJ dO bM bQ bO jY oX qG m_x gR nG oO pJ) -> va_S A s.heap H locs -> lv_has ls 5 [(0, .ref a_m), (1, .int x1), (2, .int x2), (4, .int x4)] -> W p l e rm_X10_from s m args below meth c H locs 0 0 (MQ below (q_X10_from dC dI cI cC cZ cB cJ A a_m nY sJ eG iY lY jR jW jZ jO oQ bR aY jQ gY iJ mQ lJ jA bG mK jB mW mJ eJ dG bT aG jC bL jD mLn oF rP dQ aJ aB bW bZ aR aE bI aW bU fJ dO bM bQ bO jY oX qG m_x gR nG oO pJ post) args s 0 0 A) (F0 m 69 ls [.int k1, .int k0]) := by
  obtain ⟨hx, hb, hr, hml, hown, hts, hlocks, hA, hK, hN, tL, tM, hZL, hTL, hZM, hTM, hZX⟩ := id C0
  intro x1 x2 x4 k0 k1 bY H locs ls hp hP hD hS hl
  unfold ws_X10_from_69 at hp
  refine lv_ior hx hb bBA.2.2.2.2.2.2.2.2.1 ?_
  refine lv_topi (fun v_6 ev_6 => ?_)
  have hp := hp v_6 ev_6
  refine lv_istore_n (lv' := [(3, .int v_6), (0, .ref a_m), (1, .int x1), (2, .int x2), (4, .int x4)]) hx hb bBA.2.2.2.2.2.2.2.2.2.1 rfl hl (by decide) rfl (fun ls hl => ?_)
  obtain ⟨v_7, ev_7⟩ : ∃ y : Int32, y = x4 + 1 := ⟨_, rfl⟩
  refine lv_iinc (v := v_7) (lv' := [(4, .int v_7), (3, .int v_6), (0, .ref a_m), (1, .int x1), (2, .int x2)]) hx hb bBA.2.2.2.2.2.2.2.2.2.2.1 hl (k := 4) rfl (by rw [ev_7]; rfl) (by decide) rfl (fun ls hl => ?_)
  have hp := hp v_7 ev_7
  refine lv_goto (tgt := 29) hx hb bBA.2.2.2.2.2.2.2.2.2.2.2.1 (by decide) ?_
  exact hK29 x1 x2 v_6 v_7 bY H locs ls hp hP hD hS (lv_sub hl [2, 3, 4, 1, 0] rfl)
def ws_X10_from_29 (post : Int32 -> Int32 -> Prop) (next : Int32 -> Int32 -> Int32 -> Int32 -> Int32 -> Prop) (bT aG : Int32) (qG m_x gR nG oO pJ : Nat -> Int32) (x1 x2 x3 x4 bY : Int32) : Prop := (aG <= x4 -> post x3 bY) /\ (¬ aG <= x4 -> ∀ v_3 : Int32, v_3 = qG (18 : Int32).toNatClampNeg -> aY7 (fun r_4 => aUZ (fun r_5 => (r_5 = 0 -> ws_X10_from_69 post next bT aG qG m_x gR nG oO pJ x1 x2 x4 x3 0 bY) /\ (¬ r_5 = 0 -> ∀ v_8 : Int32, v_8 = 1 <<< (x4 &&& 31) -> ws_X10_from_69 post next bT aG qG m_x gR nG oO pJ x1 x2 x4 x3 v_8 bY)) x1 x4 r_4 m_x gR nG oO) v_3 x2 pJ)
noncomputable def wb_X10_from_29 (post : Int32 -> Int32 -> Prop) (bT aG : Int32) (qG m_x gR nG oO pJ : Nat -> Int32) : Nat -> Int32 -> Int32 -> Int32 -> Int32 -> Int32 -> Prop := fun n => Nat.rec (motive := fun _ => Int32 -> Int32 -> Int32 -> Int32 -> Int32 -> Prop) (fun _ _ _ _ _ => False) (fun _ ih => ws_X10_from_29 post ih bT aG qG m_x gR nG oO pJ) n
set_option maxHeartbeats 4000000 in
set_option maxRecDepth 100000 in
theorem ks_X10_from_29 (C0 : gc aGX (some .int) 5 zX (dC, dI) (tyl cI cC cZ cB cJ) A p s m args meth c) {next : Int32 -> Int32 -> Int32 -> Int32 -> Int32 -> Prop} (hKn : ∀ (x1 : Int32) (x2 : Int32) (x3 : Int32) (x4 : Int32) (bY : Int32) (H : Heap) (locs : List Loc) (ls : Array Slot), next x1 x2 x3 x4 bY -> va_P (dC, dI) classes (aPc cI cC cZ cB cJ a_m nY sJ eG iY lY jR jW jZ jO oQ bR aY jQ gY iJ mQ lJ jA bG mK jB mW mJ eJ dG bT aG jC bL bY jD mLn oF rP dQ aJ aB bW bZ aR aE bI aW bU fJ dO bM bQ bO jY oX qG m_x gR nG oO pJ) H -> va_D A (aPc cI cC cZ cB cJ a_m nY sJ eG iY lY jR jW jZ jO oQ bR aY jQ gY iJ mQ lJ jA bG mK jB mW mJ eJ dG bT aG jC bL bY jD mLn oF rP dQ aJ aB bW bZ aR aE bI aW bU fJ dO bM bQ bO jY oX qG m_x gR nG oO pJ) -> va_S A s.heap H locs -> lv_has ls 5 [(0, .ref a_m), (1, .int x1), (2, .int x2), (3, .int x3), (4, .int x4)] -> W p l e rm_X10_from s m args below meth c H locs 0 0 (MQ below (q_X10_from dC dI cI cC cZ cB cJ A a_m nY sJ eG iY lY jR jW jZ jO oQ bR aY jQ gY iJ mQ lJ jA bG mK jB mW mJ eJ dG bT aG jC bL jD mLn oF rP dQ aJ aB bW bZ aR aE bI aW bU fJ dO bM bQ bO jY oX qG m_x gR nG oO pJ post) args s 0 0 A) (F0 m 29 ls [])) : ∀ (x1 x2 x3 x4 bY : Int32) (H : Heap) (locs : List Loc) (ls : Array Slot), (ws_X10_from_29 post next bT aG qG m_x gR nG oO pJ) x1 x2 x3 x4 bY -> va_P (dC, dI) classes (aPc cI cC cZ cB cJ a_m nY sJ eG iY lY jR jW jZ jO oQ bR aY jQ gY iJ mQ lJ jA bG mK jB mW mJ eJ dG bT aG jC bL bY jD mLn oF rP dQ aJ aB bW bZ aR aE bI aW bU fJ dO bM bQ bO jY oX qG m_x gR nG oO pJ) H -> va_D A (aPc cI cC cZ cB cJ a_m nY sJ eG iY lY jR jW jZ jO oQ bR aY jQ gY iJ mQ lJ jA bG mK jB mW mJ eJ dG bT aG jC bL bY jD mLn oF rP dQ aJ aB bW bZ aR aE bI aW bU fJ dO bM bQ bO jY oX qG m_x gR nG oO pJ) -> va_S A s.heap H locs -> lv_has ls 5 [(0, .ref a_m), (1, .int x1), (2, .int x2), (3, .int x3), (4, .int x4)] -> W p l e rm_X10_from s m args below meth c H locs 0 0 (MQ below (q_X10_from dC dI cI cC cZ cB cJ A a_m nY sJ eG iY lY jR jW jZ jO oQ bR aY jQ gY iJ mQ lJ jA bG mK jB mW mJ eJ dG bT aG jC bL jD mLn oF rP dQ aJ aB bW bZ aR aE bI aW bU fJ dO bM bQ bO jY oX qG m_x gR nG oO pJ post) args s 0 0 A) (F0 m 29 ls []) := by
  obtain ⟨hx, hb, hr, hml, hown, hts, hlocks, hA, hK, hN, tL, tM, hZL, hTL, hZM, hTM, hZX⟩ := id C0
  intro x1 x2 x3 x4 bY H locs ls hp hP hD hS hl
  unfold ws_X10_from_29 at hp
  refine lv_iload hx hb aV5.2.2.1 (lv_at hl 4 rfl) ?_
  refine lv_aload_n hx hb aV5.2.2.2.1 rfl (lv_at hl 0 rfl) ?_
  refine va_get (D := (dC, dI)) (ci := 10) (v := .int aG) (C := zX) (T := aBe) (N := 51) hx hb hts aAt hown hK hP 0 rfl rfl 6 (lbz rfl) (hts _ q_666) (fun _ h9 => h9) rfl aV5.2.2.2.2.1 ?_
  refine lv_icmp_ge (tgt := 77) hx hb aV5.2.2.2.2.2.1 (by decide) (fun hc => ?_) (fun hc => ?_)
  · have hp := hp.1 hc
    refine lv_iload_n hx hb bBA.2.2.2.2.2.2.2.2.2.2.2.2.1 rfl (lv_at hl 3 rfl) ?_
    exact W.iret (v := x3) hx hb hr (fun t ht hW => ⟨⟨x3, bY, rfl, hp, by rw [ht]; exact hP, va_K.moved hW.alike hK, hD⟩, hS.F ht⟩) hS.2.2 bBA.2.2.2.2.2.2.2.2.2.2.2.2.2
  · have hp := hp.2 hc
    refine lv_iload_n hx hb aV5.2.2.2.2.2.2.1 rfl (lv_at hl 3 rfl) ?_
    refine lv_aload_n hx hb aV5.2.2.2.2.2.2.2.1 rfl (lv_at hl 0 rfl) ?_
    refine lv_iload_n hx hb aV5.2.2.2.2.2.2.2.2.1 rfl (lv_at hl 1 rfl) ?_
    refine lv_iload hx hb aV5.2.2.2.2.2.2.2.2.2.1 (lv_at hl 4 rfl) ?_
    refine lv_aload_n hx hb aV5.2.2.2.2.2.2.2.2.2.2.1 rfl (lv_at hl 0 rfl) ?_
    refine lv_aload_n hx hb aV5.2.2.2.2.2.2.2.2.2.2.2.1 rfl (lv_at hl 0 rfl) ?_
    refine va_get (D := (dC, dI)) (ci := 10) (v := .ref nY) (C := zX) (T := aBe) (N := 51) hx hb hts aAt hown hK hP 0 rfl rfl 0 (lbz rfl) (hts _ aHO) (fun _ h9 => h9) rfl aV5.2.2.2.2.2.2.2.2.2.2.2.2.1 ?_
    refine lv_bipush (v := 18) hx hb aV5.2.2.2.2.2.2.2.2.2.2.2.2.2.1 bp_18 ?_
    refine va_iald hx hb hK hP 1 0 rfl rfl (g_in rfl) aV5.2.2.2.2.2.2.2.2.2.2.2.2.2.2.1 ?_
    refine lv_topi (fun v_3 aGW => ?_)
    have hp := hp v_3 aGW
    refine lv_iload_n hx hb aV5.2.2.2.2.2.2.2.2.2.2.2.2.2.2.2 rfl (lv_at hl 2 rfl) ?_
    have hm := mgk (wc := (wd_X10_reachBy cI cC cZ cB cJ a_m nY sJ eG iY lY jR jW jZ jO oQ bR aY jQ gY iJ mQ lJ jA bG mK jB mW mJ eJ dG bT aG jC bL bY jD mLn oF rP dQ aJ aB bW bZ aR aE bI aW bU fJ dO bM bQ bO jY oX pJ)) hP mk_242 7 rfl rfl rfl
    refine yW hP hD hS hA (yS mk_242) (aAi mk_242) hm.1 hm.2 (aAk _) (zW _) (zF (As := [.int v_3, .int x2]) (rest := [.int x4, .int x1, .ref a_m, .int x3]) C0 hP hD hS (yS mk_242) hm.1 (aAl _) 0 10 rfl rfl (c_X10_reachBy l dC dI cI cC cZ cB cJ a_m nY sJ eG iY lY jR jW jZ jO oQ bR aY jQ gY iJ mQ lJ jA bG mK jB mW mJ eJ dG H.size v_3 x2 bT aG jC bL bY jD mLn oF rP dQ aJ aB bW bZ aR aE bI aW bU fJ dO bM bQ bO jY oX pJ _ hp) q_795 q_798 q_796 q_797 aBL h_X10_reachBy rfl rfl ⟨lbz rfl, lbz rfl⟩ rfl rfl hl.1 rfl (lv_room (lbz rfl)) bBA.1 ⟨Nat.zero_le _, Nat.zero_le _⟩) (fun r_4 u H locs hp hP hD hS => ?_)
    have hPD := PDm (ws' := (aPc cI cC cZ cB cJ a_m nY sJ eG iY lY jR jW jZ jO oQ bR aY jQ gY iJ mQ lJ jA bG mK jB mW mJ eJ dG bT aG jC bL bY jD mLn oF rP dQ aJ aB bW bZ aR aE bI aW bU fJ dO bM bQ bO jY oX qG m_x gR nG oO pJ)) hP hD 7 rfl rfl rfl
    have hP := hPD.1
    have hD := hPD.2
    have hm := mgk (wc := (aRp cI cC cZ cB cJ a_m nY sJ eG iY lY jR jW jZ jO oQ bR aY jQ gY iJ mQ lJ jA bG mK jB mW mJ eJ dG bT aG jC bL bY jD mLn oF rP dQ aJ aB bW bZ aR aE bI aW bU fJ dO bM bQ bO jY oX m_x gR nG oO)) hP mk_243 7 rfl rfl rfl
    refine yW hP hD hS hA (yS mk_243) (aAi mk_243) hm.1 hm.2 (aAk _) (zW _) (zF (As := [.int x1, .int x4, .int r_4]) (rest := [.int x3]) C0 hP hD hS (yS mk_243) hm.1 (aAl _) 0 10 rfl rfl (c_X10_isWithin l dC dI cI cC cZ cB cJ a_m nY sJ eG iY lY jR jW jZ jO oQ bR aY jQ gY iJ mQ lJ jA bG mK jB mW mJ eJ dG H.size x1 x4 r_4 bT aG jC bL bY jD mLn oF rP dQ aJ aB bW bZ aR aE bI aW bU fJ dO bM bQ bO jY oX m_x gR nG oO _ hp) q_799 q_802 q_800 q_801 aBL h_X10_isWithin rfl rfl ⟨lbz rfl, lbz rfl⟩ rfl rfl hl.1 rfl (lv_room (lbz rfl)) bBA.2.1 ⟨Nat.zero_le _, Nat.zero_le _⟩) (fun r_5 u H locs hp hP hD hS => ?_)
    have hPD := PDm (ws' := (aPc cI cC cZ cB cJ a_m nY sJ eG iY lY jR jW jZ jO oQ bR aY jQ gY iJ mQ lJ jA bG mK jB mW mJ eJ dG bT aG jC bL bY jD mLn oF rP dQ aJ aB bW bZ aR aE bI aW bU fJ dO bM bQ bO jY oX qG m_x gR nG oO pJ)) hP hD 7 rfl rfl rfl
    have hP := hPD.1
    have hD := hPD.2
    refine lv_if_eq (tgt := 68) hx hb bBA.2.2.1 (by decide) (fun hc => ?_) (fun hc => ?_)
    · have hp := hp.1 hc
      refine lv_iconst (v := 0) hx hb bBA.2.2.2.2.2.2.2.1 aCi ?_
      exact ks_X10_from_69 C0 hKn x1 x2 x4 x3 0 bY H locs ls hp hP hD hS (lv_sub hl [0, 1, 2, 4] rfl)
    · have hp := hp.2 hc
      refine lv_iconst (v := 1) hx hb bBA.2.2.2.1 aDx ?_
      refine lv_iload hx hb bBA.2.2.2.2.1 (lv_at hl 4 rfl) ?_
      refine lv_ishl hx hb bBA.2.2.2.2.2.1 ?_
      refine lv_topi (fun v_8 ev_8 => ?_)
      have hp := hp v_8 ev_8
      refine lv_goto (tgt := 69) hx hb bBA.2.2.2.2.2.2.1 (by decide) ?_
      exact ks_X10_from_69 C0 hKn x1 x2 x4 x3 v_8 bY H locs ls hp hP hD hS (lv_sub hl [0, 1, 2, 4] rfl)
set_option maxHeartbeats 4000000 in
set_option maxRecDepth 100000 in
theorem kb_X10_from_29 (C0 : gc aGX (some .int) 5 zX (dC, dI) (tyl cI cC cZ cB cJ) A p s m args meth c) : ∀ (n : Nat), ∀ (x1 x2 x3 x4 bY : Int32) (H : Heap) (locs : List Loc) (ls : Array Slot), (wb_X10_from_29 post bT aG qG m_x gR nG oO pJ n) x1 x2 x3 x4 bY -> va_P (dC, dI) classes (aPc cI cC cZ cB cJ a_m nY sJ eG iY lY jR jW jZ jO oQ bR aY jQ gY iJ mQ lJ jA bG mK jB mW mJ eJ dG bT aG jC bL bY jD mLn oF rP dQ aJ aB bW bZ aR aE bI aW bU fJ dO bM bQ bO jY oX qG m_x gR nG oO pJ) H -> va_D A (aPc cI cC cZ cB cJ a_m nY sJ eG iY lY jR jW jZ jO oQ bR aY jQ gY iJ mQ lJ jA bG mK jB mW mJ eJ dG bT aG jC bL bY jD mLn oF rP dQ aJ aB bW bZ aR aE bI aW bU fJ dO bM bQ bO jY oX qG m_x gR nG oO pJ) -> va_S A s.heap H locs -> lv_has ls 5 [(0, .ref a_m), (1, .int x1), (2, .int x2), (3, .int x3), (4, .int x4)] -> W p l e rm_X10_from s m args below meth c H locs 0 0 (MQ below (q_X10_from dC dI cI cC cZ cB cJ A a_m nY sJ eG iY lY jR jW jZ jO oQ bR aY jQ gY iJ mQ lJ jA bG mK jB mW mJ eJ dG bT aG jC bL jD mLn oF rP dQ aJ aB bW bZ aR aE bI aW bU fJ dO bM bQ bO jY oX qG m_x gR nG oO pJ post) args s 0 0 A) (F0 m 29 ls []) := by
  intro n
  induction n with
  | zero =>
    intro x1 x2 x3 x4 bY H locs ls hp
    exact False.elim hp
  | succ n ih =>
    intro x1 x2 x3 x4 bY H locs ls hp
    exact ks_X10_from_29 C0 ih x1 x2 x3 x4 bY H locs ls hp
end S_X10_from
def wp_X10_from (post : Int32 -> Int32 -> Prop) (p0 p1 bT aG bY : Int32) (qG m_x gR nG oO pJ : Nat -> Int32) : Prop := aU8 (fun r_1 => (r_1 = 0 -> post (-1) 0) /\ (¬ r_1 = 0 -> aJY (fun r_2 => (¬ r_2 = 0 -> ∃ n : Nat, wb_X10_from_29 post bT aG qG m_x gR nG oO pJ n p0 p1 0 0 0) /\ (r_2 = 0 -> post (-1) 0)) p1 0 1)) p0 bT
set_option maxHeartbeats 4000000 in
set_option maxRecDepth 100000 in
theorem c_X10_from (l : Launch) (dC : Nat -> ClassId) (dI : Nat -> Nat -> Nat) (cI cC cZ cB cJ : ClassId) (a_m nY sJ eG iY lY jR jW jZ jO oQ bR aY jQ gY iJ mQ lJ jA bG mK jB mW mJ eJ dG sz : Nat) (p0 p1 bT aG jC bL bY : Int32) (jD : Nat) (mLn oF rP dQ aJ aB bW bZ aR aE bI aW bU fJ dO bM bQ bO jY oX : Int32) (qG m_x gR nG oO pJ : Nat -> Int32) (post : Int32 -> Int32 -> Prop) (hw : wp_X10_from post p0 p1 bT aG bY qG m_x gR nG oO pJ) : Met l yX10_from (gw yX10_from aGX 5 (some .int)) rm_X10_from (va_Pc [.ref a_m, .int p0, .int p1] (gPre (dC, dI) (tyl cI cC cZ cB cJ) (aPc cI cC cZ cB cJ a_m nY sJ eG iY lY jR jW jZ jO oQ bR aY jQ gY iJ mQ lJ jA bG mK jB mW mJ eJ dG bT aG jC bL bY jD mLn oF rP dQ aJ aB bW bZ aR aE bI aW bU fJ dO bM bQ bO jY oX qG m_x gR nG oO pJ) sz)) (q_X10_from dC dI cI cC cZ cB cJ (va_A (aPc cI cC cZ cB cJ a_m nY sJ eG iY lY jR jW jZ jO oQ bR aY jQ gY iJ mQ lJ jA bG mK jB mW mJ eJ dG bT aG jC bL bY jD mLn oF rP dQ aJ aB bW bZ aR aE bI aW bU fJ dO bM bQ bO jY oX qG m_x gR nG oO pJ) sz) a_m nY sJ eG iY lY jR jW jZ jO oQ bR aY jQ gY iJ mQ lJ jA bG mK jB mW mJ eJ dG bT aG jC bL jD mLn oF rP dQ aJ aB bW bZ aR aE bI aW bU fJ dO bM bQ bO jY oX qG m_x gR nG oO pJ post) 0 0 (va_A (aPc cI cC cZ cB cJ a_m nY sJ eG iY lY jR jW jZ jO oQ bR aY jQ gY iJ mQ lJ jA bG mK jB mW mJ eJ dG bT aG jC bL bY jD mLn oF rP dQ aJ aB bW bZ aR aE bI aW bU fJ dO bM bQ bO jY oX qG m_x gR nG oO pJ) sz) := by
  refine aBJ (own := zX) (dC, dI) (tyl cI cC cZ cB cJ) (aPc cI cC cZ cB cJ a_m nY sJ eG iY lY jR jW jZ jO oQ bR aY jQ gY iJ mQ lJ jA bG mK jB mW mJ eJ dG bT aG jC bL bY jD mLn oF rP dQ aJ aB bW bZ aR aE bI aW bU fJ dO bM bQ bO jY oX qG m_x gR nG oO pJ) sz [.ref a_m, .int p0, .int p1] (fun A => q_X10_from dC dI cI cC cZ cB cJ A a_m nY sJ eG iY lY jR jW jZ jO oQ bR aY jQ gY iJ mQ lJ jA bG mK jB mW mJ eJ dG bT aG jC bL jD mLn oF rP dQ aJ aB bW bZ aR aE bI aW bU fJ dO bM bQ bO jY oX qG m_x gR nG oO pJ post) aFY rfl (lbz rfl) ?_
  intro p e s m args below meth c A H locs ls C0 hP hD hS hl
  have hl : lv_has ls 5 [(0, .ref a_m), (1, .int p0), (2, .int p1)] := hl
  obtain ⟨hx, hb, hr, hml, hown, hts, hlocks, hA, hK, hN, tL, tM, hZL, hTL, hZM, hTM, hZX⟩ := id C0
  have hp := hw
  unfold wp_X10_from at hp
  refine lv_aload_n hx hb aVW.1 rfl (lv_at hl 0 rfl) ?_
  refine lv_iconst (v := 0) hx hb aVW.2.1 aCi ?_
  refine va_put (D := (dC, dI)) (ci := 10) (v := .int 0) (ty := .int) (C := zX) (T := aBe) (N := 51) hx hb hts aAt aD2 aAa aEC hown hK hP hD hS 0 rfl rfl 14 (lbz rfl) (hts _ q_638) (fun _ h9 => h9) rfl (aAa 14 (lbz rfl)) rfl rfl (lbz rfl) aVW.2.2.1 (fun H locs hP hD hS => ?_)
  have hPD := PDw (ws' := (aPc cI cC cZ cB cJ a_m nY sJ eG iY lY jR jW jZ jO oQ bR aY jQ gY iJ mQ lJ jA bG mK jB mW mJ eJ dG bT aG jC bL 0 jD mLn oF rP dQ aJ aB bW bZ aR aE bI aW bU fJ dO bM bQ bO jY oX qG m_x gR nG oO pJ)) hP hD rfl
  have hP := hPD.1
  have hD := hPD.2
  refine lv_aload_n hx hb aVW.2.2.2.1 rfl (lv_at hl 0 rfl) ?_
  refine lv_iload_n hx hb aVW.2.2.2.2.1 rfl (lv_at hl 1 rfl) ?_
  have hm := mgk (wc := (aY2 cI cC cZ cB cJ a_m nY sJ eG iY lY jR jW jZ jO oQ bR aY jQ gY iJ mQ lJ jA bG mK jB mW mJ eJ dG bT aG jC bL 0 jD mLn oF rP dQ aJ aB bW bZ aR aE bI aW bU fJ dO bM bQ bO jY oX)) hP mk_240 7 rfl rfl rfl
  refine yW hP hD hS hA (yS mk_240) (aAi mk_240) hm.1 hm.2 (aAk _) (zW _) (zF (As := [.int p0]) (rest := []) C0 hP hD hS (yS mk_240) hm.1 (aAl _) 0 10 rfl rfl (c_X10_isFruit l dC dI cI cC cZ cB cJ a_m nY sJ eG iY lY jR jW jZ jO oQ bR aY jQ gY iJ mQ lJ jA bG mK jB mW mJ eJ dG H.size p0 bT aG jC bL 0 jD mLn oF rP dQ aJ aB bW bZ aR aE bI aW bU fJ dO bM bQ bO jY oX _ hp) q_741 q_744 q_742 q_743 aBL h_X10_isFruit rfl rfl ⟨lbz rfl, lbz rfl⟩ rfl rfl hl.1 rfl (lv_room (lbz rfl)) aVW.2.2.2.2.2.1 ⟨Nat.zero_le _, Nat.zero_le _⟩) (fun r_1 u H locs hp hP hD hS => ?_)
  have hPD := PDm (ws' := (aPc cI cC cZ cB cJ a_m nY sJ eG iY lY jR jW jZ jO oQ bR aY jQ gY iJ mQ lJ jA bG mK jB mW mJ eJ dG bT aG jC bL 0 jD mLn oF rP dQ aJ aB bW bZ aR aE bI aW bU fJ dO bM bQ bO jY oX qG m_x gR nG oO pJ)) hP hD 7 rfl rfl rfl
  have hP := hPD.1
  have hD := hPD.2
  refine lv_if_eq (tgt := 22) hx hb aVW.2.2.2.2.2.2.1 (by decide) (fun hc => ?_) (fun hc => ?_)
  · have hp := hp.1 hc
    refine lv_iconst (v := (-1)) hx hb aVW.2.2.2.2.2.2.2.2.2.2.2.2.1 aEJ ?_
    exact W.iret (v := (-1)) hx hb hr (fun t ht hW => ⟨⟨(-1), 0, rfl, hp, by rw [ht]; exact hP, va_K.moved hW.alike hK, hD⟩, hS.F ht⟩) hS.2.2 aVW.2.2.2.2.2.2.2.2.2.2.2.2.2.1
  · have hp := hp.2 hc
    refine lv_iload_n hx hb aVW.2.2.2.2.2.2.2.1 rfl (lv_at hl 2 rfl) ?_
    refine lv_iconst (v := 0) hx hb aVW.2.2.2.2.2.2.2.2.1 aCi ?_
    refine lv_iconst (v := 1) hx hb aVW.2.2.2.2.2.2.2.2.2.1 aDx ?_
    have hm := mgk (wc := (aKW cI cC cZ cB cJ)) hP mk_244 7 rfl rfl rfl
    refine yW hP hD hS hA (yS mk_244) (aAi mk_244) hm.1 hm.2 (aAk _) (zW _) (aDn (As := [.int p1, .int 0, .int 1]) (rest := []) C0 hP hD hS (yS mk_244) hm.1 (aAl _) (aRu l dC dI cI cC cZ cB cJ H.size p1 0 1 _ hp) q_641 q_644 q_643 aBL aRx rfl rfl ⟨lbz rfl, lbz rfl⟩ rfl rfl hl.1 rfl (lv_room (lbz rfl)) aVW.2.2.2.2.2.2.2.2.2.2.1 ⟨Nat.zero_le _, Nat.zero_le _⟩) (fun r_2 u H locs hp hP hD hS => ?_)
    have hPD := PDm (ws' := (aPc cI cC cZ cB cJ a_m nY sJ eG iY lY jR jW jZ jO oQ bR aY jQ gY iJ mQ lJ jA bG mK jB mW mJ eJ dG bT aG jC bL 0 jD mLn oF rP dQ aJ aB bW bZ aR aE bI aW bU fJ dO bM bQ bO jY oX qG m_x gR nG oO pJ)) hP hD 7 rfl rfl rfl
    have hP := hPD.1
    have hD := hPD.2
    refine lv_if_ne (tgt := 24) hx hb aVW.2.2.2.2.2.2.2.2.2.2.2.1 (by decide) (fun hc => ?_) (fun hc => ?_)
    · have hp := hp.1 hc
      refine lv_iconst (v := 0) hx hb aVW.2.2.2.2.2.2.2.2.2.2.2.2.2.2.1 aCi ?_
      refine lv_istore_n (lv' := [(3, .int 0), (0, .ref a_m), (1, .int p0), (2, .int p1)]) hx hb aVW.2.2.2.2.2.2.2.2.2.2.2.2.2.2.2 rfl hl (by decide) rfl (fun ls hl => ?_)
      refine lv_iconst (v := 0) hx hb aV5.1 aCi ?_
      refine lv_istore (lv' := [(4, .int 0), (3, .int 0), (0, .ref a_m), (1, .int p0), (2, .int p1)]) hx hb aV5.2.1 hl (by decide) rfl (fun ls hl => ?_)
      obtain ⟨n9, hp⟩ := hp
      exact kb_X10_from_29 C0 n9 p0 p1 0 0 0 H locs ls hp hP hD hS (lv_sub hl [2, 3, 4, 1, 0] rfl)
    · have hp := hp.2 hc
      refine lv_iconst (v := (-1)) hx hb aVW.2.2.2.2.2.2.2.2.2.2.2.2.1 aEJ ?_
      exact W.iret (v := (-1)) hx hb hr (fun t ht hW => ⟨⟨(-1), 0, rfl, hp, by rw [ht]; exact hP, va_K.moved hW.alike hK, hD⟩, hS.F ht⟩) hS.2.2 aVW.2.2.2.2.2.2.2.2.2.2.2.2.2.1
abbrev wd_X10_worthOf (cI cC cZ cB cJ : ClassId) (a_m nY sJ eG iY lY jR jW jZ jO oQ bR aY jQ gY iJ mQ lJ jA bG mK jB mW mJ eJ dG : Nat) (bT aG jC bL bY : Int32) (jD : Nat) (mLn oF rP dQ aJ aB bW bZ aR aE bI aW bU fJ dO bM bQ bO jY oX : Int32) (pW : Nat -> Int32) : va_W := [(a_m, .inr (10, [.ref nY, .int bT, .ref sJ, .ref eG, .ref iY, .ref lY, .int aG, .ref jR, .ref jW, .ref jZ, .ref jO, .int jC, .ref oQ, .int bL, .int bY, rdv jO jQ jD, .int mLn, .int oF, .int rP, .int dQ, .ref bR, .ref aY, .int aJ, .int aB, .ref jQ, .int bW, .int bZ, .int aR, .int aE, .int bI, .int aW, .ref gY, .int bU, .ref iJ, .ref mQ, .int fJ, .ref lJ, .int dO, .ref jA, .ref bG, .int bM, .int bQ, .int bO, .ref mK, .ref jB, .ref mW, .int jY, .int oX, .ref mJ, .ref eJ, .ref dG])), (iY, .inl (cI, 16, .inl pW))]
abbrev q_X10_worthOf (dC : Nat -> ClassId) (dI : Nat -> Nat -> Nat) (cI cC cZ cB cJ : ClassId) (A : Nat -> Prop) (a_m nY sJ eG iY lY jR jW jZ jO oQ bR aY jQ gY iJ mQ lJ jA bG mK jB mW mJ eJ dG : Nat) (bT aG jC bL bY : Int32) (jD : Nat) (mLn oF rP dQ aJ aB bW bZ aR aE bI aW bU fJ dO bM bQ bO jY oX : Int32) (pW : Nat -> Int32) (post : Int32 -> Prop) : Array Value -> State -> Outcome -> State -> Prop := va_Qi (fun (r : Int32) (u : Unit) => post r) (fun u t => gB (dC, dI) (tyl cI cC cZ cB cJ) A (wd_X10_worthOf cI cC cZ cB cJ a_m nY sJ eG iY lY jR jW jZ jO oQ bR aY jQ gY iJ mQ lJ jA bG mK jB mW mJ eJ dG bT aG jC bL bY jD mLn oF rP dQ aJ aB bW bZ aR aE bI aW bU fJ dO bM bQ bO jY oX pW) t) A
abbrev rm_X10_worthOf : Room := { frames := 1, cells := 0, slots := 0, locals := 21 }
def wp_X10_worthOf (post : Int32 -> Prop) (p0 p1 : Int32) (pW : Nat -> Int32) : Prop := aKc (fun r_1 => (r_1 = 0 -> vp_in p0 16 /\ (post (pW p0.toNatClampNeg))) /\ (¬ r_1 = 0 -> vp_in p0 16 /\ (∀ v_2 : Int32, v_2 = pW p0.toNatClampNeg -> ∀ v_3 : Int32, v_3 = v_2 / 2 -> post v_3))) p1 p0
set_option maxHeartbeats 4000000 in
set_option maxRecDepth 100000 in
theorem c_X10_worthOf (l : Launch) (dC : Nat -> ClassId) (dI : Nat -> Nat -> Nat) (cI cC cZ cB cJ : ClassId) (a_m nY sJ eG iY lY jR jW jZ jO oQ bR aY jQ gY iJ mQ lJ jA bG mK jB mW mJ eJ dG sz : Nat) (p0 p1 bT aG jC bL bY : Int32) (jD : Nat) (mLn oF rP dQ aJ aB bW bZ aR aE bI aW bU fJ dO bM bQ bO jY oX : Int32) (pW : Nat -> Int32) (post : Int32 -> Prop) (hw : wp_X10_worthOf post p0 p1 pW) : Met l yX10_worthOf (gw yX10_worthOf aSA 3 (some .int)) rm_X10_worthOf (va_Pc [.ref a_m, .int p0, .int p1] (gPre (dC, dI) (tyl cI cC cZ cB cJ) (wd_X10_worthOf cI cC cZ cB cJ a_m nY sJ eG iY lY jR jW jZ jO oQ bR aY jQ gY iJ mQ lJ jA bG mK jB mW mJ eJ dG bT aG jC bL bY jD mLn oF rP dQ aJ aB bW bZ aR aE bI aW bU fJ dO bM bQ bO jY oX pW) sz)) (q_X10_worthOf dC dI cI cC cZ cB cJ (va_A (wd_X10_worthOf cI cC cZ cB cJ a_m nY sJ eG iY lY jR jW jZ jO oQ bR aY jQ gY iJ mQ lJ jA bG mK jB mW mJ eJ dG bT aG jC bL bY jD mLn oF rP dQ aJ aB bW bZ aR aE bI aW bU fJ dO bM bQ bO jY oX pW) sz) a_m nY sJ eG iY lY jR jW jZ jO oQ bR aY jQ gY iJ mQ lJ jA bG mK jB mW mJ eJ dG bT aG jC bL bY jD mLn oF rP dQ aJ aB bW bZ aR aE bI aW bU fJ dO bM bQ bO jY oX pW post) 0 0 (va_A (wd_X10_worthOf cI cC cZ cB cJ a_m nY sJ eG iY lY jR jW jZ jO oQ bR aY jQ gY iJ mQ lJ jA bG mK jB mW mJ eJ dG bT aG jC bL bY jD mLn oF rP dQ aJ aB bW bZ aR aE bI aW bU fJ dO bM bQ bO jY oX pW) sz) := by
  refine aBJ (own := zX) (dC, dI) (tyl cI cC cZ cB cJ) (wd_X10_worthOf cI cC cZ cB cJ a_m nY sJ eG iY lY jR jW jZ jO oQ bR aY jQ gY iJ mQ lJ jA bG mK jB mW mJ eJ dG bT aG jC bL bY jD mLn oF rP dQ aJ aB bW bZ aR aE bI aW bU fJ dO bM bQ bO jY oX pW) sz [.ref a_m, .int p0, .int p1] (fun A => q_X10_worthOf dC dI cI cC cZ cB cJ A a_m nY sJ eG iY lY jR jW jZ jO oQ bR aY jQ gY iJ mQ lJ jA bG mK jB mW mJ eJ dG bT aG jC bL bY jD mLn oF rP dQ aJ aB bW bZ aR aE bI aW bU fJ dO bM bQ bO jY oX pW post) aFY rfl (lbz rfl) ?_
  intro p e s m args below meth c A H locs ls C0 hP hD hS hl
  have hl : lv_has ls 3 [(0, .ref a_m), (1, .int p0), (2, .int p1)] := hl
  obtain ⟨hx, hb, hr, hml, hown, hts, hlocks, hA, hK, hN, tL, tM, hZL, hTL, hZM, hTM, hZX⟩ := id C0
  have hp := hw
  unfold wp_X10_worthOf at hp
  refine lv_iload_n hx hb aOn.1 rfl (lv_at hl 2 rfl) ?_
  refine lv_iload_n hx hb aOn.2.1 rfl (lv_at hl 1 rfl) ?_
  refine yW (wc := (aLW cI cC cZ cB cJ)) hP hD hS hA [] [0, 1] rfl rfl rfl rfl (aDn (As := [.int p1, .int p0]) (rest := []) C0 hP hD hS [] rfl rfl (aUP l dC dI cI cC cZ cB cJ H.size p1 p0 _ hp) q_734 q_736 q_735 aBL aUT rfl rfl ⟨lbz rfl, lbz rfl⟩ rfl rfl hl.1 rfl (lv_room (lbz rfl)) aOn.2.2.1 ⟨Nat.zero_le _, Nat.zero_le _⟩) (fun r_1 u H locs hp hP hD hS => ?_)
  have hPD := PDs (ws' := (wd_X10_worthOf cI cC cZ cB cJ a_m nY sJ eG iY lY jR jW jZ jO oQ bR aY jQ gY iJ mQ lJ jA bG mK jB mW mJ eJ dG bT aG jC bL bY jD mLn oF rP dQ aJ aB bW bZ aR aE bI aW bU fJ dO bM bQ bO jY oX pW)) hP hD [0, 1] (by decide) rfl
  have hP := hPD.1
  have hD := hPD.2
  refine lv_if_eq (tgt := 19) hx hb aOn.2.2.2.1 (by decide) (fun hc => ?_) (fun hc => ?_)
  · have hp := hp.1 hc
    refine lv_aload_n hx hb aOn.2.2.2.2.2.2.2.2.2.2.2.1 rfl (lv_at hl 0 rfl) ?_
    refine va_get (D := (dC, dI)) (ci := 10) (v := .ref iY) (C := zX) (T := aBe) (N := 51) hx hb hts aAt hown hK hP 0 rfl rfl 4 (lbz rfl) (hts _ q_690) (fun _ h9 => h9) rfl aOn.2.2.2.2.2.2.2.2.2.2.2.2.1 ?_
    refine lv_iload_n hx hb aOn.2.2.2.2.2.2.2.2.2.2.2.2.2.1 rfl (lv_at hl 1 rfl) ?_
    have hin := hp.1
    have hp := hp.2
    refine va_iald hx hb hK hP 1 0 rfl rfl hin aOn.2.2.2.2.2.2.2.2.2.2.2.2.2.2.1 ?_
    exact W.iret (v := pW p0.toNatClampNeg) hx hb hr (fun t ht hW => ⟨⟨pW p0.toNatClampNeg, (), rfl, hp, by rw [ht]; exact hP, va_K.moved hW.alike hK, hD⟩, hS.F ht⟩) hS.2.2 aOn.2.2.2.2.2.2.2.2.2.2.2.2.2.2.2
  · have hp := hp.2 hc
    refine lv_aload_n hx hb aOn.2.2.2.2.1 rfl (lv_at hl 0 rfl) ?_
    refine va_get (D := (dC, dI)) (ci := 10) (v := .ref iY) (C := zX) (T := aBe) (N := 51) hx hb hts aAt hown hK hP 0 rfl rfl 4 (lbz rfl) (hts _ q_690) (fun _ h9 => h9) rfl aOn.2.2.2.2.2.1 ?_
    refine lv_iload_n hx hb aOn.2.2.2.2.2.2.1 rfl (lv_at hl 1 rfl) ?_
    have hin := hp.1
    have hp := hp.2
    refine va_iald hx hb hK hP 1 0 rfl rfl hin aOn.2.2.2.2.2.2.2.1 ?_
    refine lv_topi (fun v_2 aGO => ?_)
    have hp := hp v_2 aGO
    refine lv_iconst (v := 2) hx hb aOn.2.2.2.2.2.2.2.2.1 ic_2 ?_
    refine lv_idiv hx hb aOn.2.2.2.2.2.2.2.2.2.1 (by decide) ?_
    refine lv_topi (fun v_3 aGW => ?_)
    have hp := hp v_3 aGW
    refine lv_goto (tgt := 25) hx hb aOn.2.2.2.2.2.2.2.2.2.2.1 (by decide) ?_
    exact W.iret (v := v_3) hx hb hr (fun t ht hW => ⟨⟨v_3, (), rfl, hp, by rw [ht]; exact hP, va_K.moved hW.alike hK, hD⟩, hS.F ht⟩) hS.2.2 aOn.2.2.2.2.2.2.2.2.2.2.2.2.2.2.2
abbrev aFo (cI cC cZ cB cJ : ClassId) (a_m nY sJ eG iY lY jR jW jZ jO oQ bR aY jQ gY iJ mQ lJ jA bG mK jB mW mJ eJ dG : Nat) (bT aG jC bL bY : Int32) (jD : Nat) (mLn oF rP dQ aJ aB bW bZ aR aE bI aW bU fJ dO bM bQ bO jY oX : Int32) (pW : Nat -> Int32) : va_W := [(a_m, .inr (10, [.ref nY, .int bT, .ref sJ, .ref eG, .ref iY, .ref lY, .int aG, .ref jR, .ref jW, .ref jZ, .ref jO, .int jC, .ref oQ, .int bL, .int bY, rdv jO jQ jD, .int mLn, .int oF, .int rP, .int dQ, .ref bR, .ref aY, .int aJ, .int aB, .ref jQ, .int bW, .int bZ, .int aR, .int aE, .int bI, .int aW, .ref gY, .int bU, .ref iJ, .ref mQ, .int fJ, .ref lJ, .int dO, .ref jA, .ref bG, .int bM, .int bQ, .int bO, .ref mK, .ref jB, .ref mW, .int jY, .int oX, .ref mJ, .ref eJ, .ref dG])), (iY, .inl (cI, 16, .inl pW))]
abbrev q_X10_worthOfAll (dC : Nat -> ClassId) (dI : Nat -> Nat -> Nat) (cI cC cZ cB cJ : ClassId) (A : Nat -> Prop) (a_m nY sJ eG iY lY jR jW jZ jO oQ bR aY jQ gY iJ mQ lJ jA bG mK jB mW mJ eJ dG : Nat) (bT aG jC bL bY : Int32) (jD : Nat) (mLn oF rP dQ aJ aB bW bZ aR aE bI aW bU fJ dO bM bQ bO jY oX : Int32) (pW : Nat -> Int32) (post : Int32 -> Prop) : Array Value -> State -> Outcome -> State -> Prop := va_Qi (fun (r : Int32) (u : Unit) => post r) (fun u t => gB (dC, dI) (tyl cI cC cZ cB cJ) A (aFo cI cC cZ cB cJ a_m nY sJ eG iY lY jR jW jZ jO oQ bR aY jQ gY iJ mQ lJ jA bG mK jB mW mJ eJ dG bT aG jC bL bY jD mLn oF rP dQ aJ aB bW bZ aR aE bI aW bU fJ dO bM bQ bO jY oX pW) t) A
abbrev rm_X10_worthOfAll : Room := { frames := 2, cells := 0, slots := 0, locals := 43 }
section S_X10_worthOfAll
variable {p : Program} {l : Launch} {e : Env} {s : State} {m : MethodId} {args : Array Value} {below : List Frame} {meth : Method} {c : Code} {dC : Nat -> ClassId} {dI : Nat -> Nat -> Nat} {cI cC cZ cB cJ : ClassId} {A : Nat -> Prop} {a_m nY sJ eG iY lY jR jW jZ jO oQ bR aY jQ gY iJ mQ lJ jA bG mK jB mW mJ eJ dG : Nat} {bT aG jC bL bY : Int32} {jD : Nat} {mLn oF rP dQ aJ aB bW bZ aR aE bI aW bU fJ dO bM bQ bO jY oX : Int32} {pW : Nat -> Int32} {post : Int32 -> Prop}
def ws_X10_worthOfAll_35 (post : Int32 -> Prop) (K5 : Int32 -> Int32 -> Int32 -> Int32 -> Prop) (bT : Int32) (pW : Nat -> Int32) (x1 x2 x4 k0 k1 : Int32) : Prop := ∀ v_2 : Int32, v_2 = k0 + k1 -> ∀ v_3 : Int32, v_3 = x4 + 1 -> K5 x1 x2 v_2 v_3
set_option maxHeartbeats 4000000 in
set_option maxRecDepth 100000 in
theorem ks_X10_worthOfAll_35 (C0 : gc aFq (some .int) 5 zX (dC, dI) (tyl cI cC cZ cB cJ) A p s m args meth c) {K5 : Int32 -> Int32 -> Int32 -> Int32 -> Prop} (hK5 : ∀ (x1 : Int32) (x2 : Int32) (x3 : Int32) (x4 : Int32) (H : Heap) (locs : List Loc) (ls : Array Slot), K5 x1 x2 x3 x4 -> va_P (dC, dI) classes (aFo cI cC cZ cB cJ a_m nY sJ eG iY lY jR jW jZ jO oQ bR aY jQ gY iJ mQ lJ jA bG mK jB mW mJ eJ dG bT aG jC bL bY jD mLn oF rP dQ aJ aB bW bZ aR aE bI aW bU fJ dO bM bQ bO jY oX pW) H -> va_D A (aFo cI cC cZ cB cJ a_m nY sJ eG iY lY jR jW jZ jO oQ bR aY jQ gY iJ mQ lJ jA bG mK jB mW mJ eJ dG bT aG jC bL bY jD mLn oF rP dQ aJ aB bW bZ aR aE bI aW bU fJ dO bM bQ bO jY oX pW) -> va_S A s.heap H locs -> lv_has ls 5 [(0, .ref a_m), (1, .int x1), (2, .int x2), (3, .int x3), (4, .int x4)] -> W p l e rm_X10_worthOfAll s m args below meth c H locs 0 0 (MQ below (q_X10_worthOfAll dC dI cI cC cZ cB cJ A a_m nY sJ eG iY lY jR jW jZ jO oQ bR aY jQ gY iJ mQ lJ jA bG mK jB mW mJ eJ dG bT aG jC bL bY jD mLn oF rP dQ aJ aB bW bZ aR aE bI aW bU fJ dO bM bQ bO jY oX pW post) args s 0 0 A) (F0 m 5 ls [])) : ∀ (x1 x2 x4 k0 k1 : Int32) (H : Heap) (locs : List Loc) (ls : Array Slot), (ws_X10_worthOfAll_35 post K5 bT pW) x1 x2 x4 k0 k1 -> va_P (dC, dI) classes (aFo cI cC cZ cB cJ a_m nY sJ eG iY lY jR jW jZ jO oQ bR aY jQ gY iJ mQ lJ jA bG mK jB mW mJ eJ dG bT aG jC bL bY jD mLn oF rP dQ aJ aB bW bZ aR aE bI aW bU fJ dO bM bQ bO jY oX pW) H -> va_D A (aFo cI cC cZ cB cJ a_m nY sJ eG iY lY jR jW jZ jO oQ bR aY jQ gY iJ mQ lJ jA bG mK jB mW mJ eJ dG bT aG jC bL bY jD mLn oF rP dQ aJ aB bW bZ aR aE bI aW bU fJ dO bM bQ bO jY oX pW) -> va_S A s.heap H locs -> lv_has ls 5 [(0, .ref a_m), (1, .int x1), (2, .int x2), (4, .int x4)] -> W p l e rm_X10_worthOfAll s m args below meth c H locs 0 0 (MQ below (q_X10_worthOfAll dC dI cI cC cZ cB cJ A a_m nY sJ eG iY lY jR jW jZ jO oQ bR aY jQ gY iJ mQ lJ jA bG mK jB mW mJ eJ dG bT aG jC bL bY jD mLn oF rP dQ aJ aB bW bZ aR aE bI aW bU fJ dO bM bQ bO jY oX pW post) args s 0 0 A) (F0 m 35 ls [.int k1, .int k0]) := by
  obtain ⟨hx, hb, hr, hml, hown, hts, hlocks, hA, hK, hN, tL, tM, hZL, hTL, hZM, hTM, hZX⟩ := id C0
  intro x1 x2 x4 k0 k1 H locs ls hp hP hD hS hl
  unfold ws_X10_worthOfAll_35 at hp
  refine lv_iadd hx hb aYW.2.2.2.1 ?_
  refine lv_topi (fun v_2 aGO => ?_)
  have hp := hp v_2 aGO
  refine lv_istore_n (lv' := [(3, .int v_2), (0, .ref a_m), (1, .int x1), (2, .int x2), (4, .int x4)]) hx hb aYW.2.2.2.2.1 rfl hl (by decide) rfl (fun ls hl => ?_)
  obtain ⟨v_3, aGW⟩ : ∃ y : Int32, y = x4 + 1 := ⟨_, rfl⟩
  refine lv_iinc (v := v_3) (lv' := [(4, .int v_3), (3, .int v_2), (0, .ref a_m), (1, .int x1), (2, .int x2)]) hx hb aYW.2.2.2.2.2.1 hl (k := 4) rfl (by rw [aGW]; rfl) (by decide) rfl (fun ls hl => ?_)
  have hp := hp v_3 aGW
  refine lv_goto (tgt := 5) hx hb aYW.2.2.2.2.2.2.1 (by decide) ?_
  exact hK5 x1 x2 v_2 v_3 H locs ls hp hP hD hS (lv_sub hl [2, 3, 4, 1, 0] rfl)
def ws_X10_worthOfAll_5 (post : Int32 -> Prop) (next : Int32 -> Int32 -> Int32 -> Int32 -> Prop) (bT : Int32) (pW : Nat -> Int32) (x1 x2 x3 x4 : Int32) : Prop := (bT <= x4 -> post x3) /\ (¬ bT <= x4 -> aKc (fun r_1 => (r_1 = 0 -> ws_X10_worthOfAll_35 post next bT pW x1 x2 x4 x3 0) /\ (¬ r_1 = 0 -> wp_X10_worthOf (fun r_4 => ws_X10_worthOfAll_35 post next bT pW x1 x2 x4 x3 r_4) x4 x2 pW)) x1 x4)
noncomputable def wb_X10_worthOfAll_5 (post : Int32 -> Prop) (bT : Int32) (pW : Nat -> Int32) : Nat -> Int32 -> Int32 -> Int32 -> Int32 -> Prop := fun n => Nat.rec (motive := fun _ => Int32 -> Int32 -> Int32 -> Int32 -> Prop) (fun _ _ _ _ => False) (fun _ ih => ws_X10_worthOfAll_5 post ih bT pW) n
set_option maxHeartbeats 4000000 in
set_option maxRecDepth 100000 in
theorem ks_X10_worthOfAll_5 (C0 : gc aFq (some .int) 5 zX (dC, dI) (tyl cI cC cZ cB cJ) A p s m args meth c) {next : Int32 -> Int32 -> Int32 -> Int32 -> Prop} (hKn : ∀ (x1 : Int32) (x2 : Int32) (x3 : Int32) (x4 : Int32) (H : Heap) (locs : List Loc) (ls : Array Slot), next x1 x2 x3 x4 -> va_P (dC, dI) classes (aFo cI cC cZ cB cJ a_m nY sJ eG iY lY jR jW jZ jO oQ bR aY jQ gY iJ mQ lJ jA bG mK jB mW mJ eJ dG bT aG jC bL bY jD mLn oF rP dQ aJ aB bW bZ aR aE bI aW bU fJ dO bM bQ bO jY oX pW) H -> va_D A (aFo cI cC cZ cB cJ a_m nY sJ eG iY lY jR jW jZ jO oQ bR aY jQ gY iJ mQ lJ jA bG mK jB mW mJ eJ dG bT aG jC bL bY jD mLn oF rP dQ aJ aB bW bZ aR aE bI aW bU fJ dO bM bQ bO jY oX pW) -> va_S A s.heap H locs -> lv_has ls 5 [(0, .ref a_m), (1, .int x1), (2, .int x2), (3, .int x3), (4, .int x4)] -> W p l e rm_X10_worthOfAll s m args below meth c H locs 0 0 (MQ below (q_X10_worthOfAll dC dI cI cC cZ cB cJ A a_m nY sJ eG iY lY jR jW jZ jO oQ bR aY jQ gY iJ mQ lJ jA bG mK jB mW mJ eJ dG bT aG jC bL bY jD mLn oF rP dQ aJ aB bW bZ aR aE bI aW bU fJ dO bM bQ bO jY oX pW post) args s 0 0 A) (F0 m 5 ls [])) : ∀ (x1 x2 x3 x4 : Int32) (H : Heap) (locs : List Loc) (ls : Array Slot), (ws_X10_worthOfAll_5 post next bT pW) x1 x2 x3 x4 -> va_P (dC, dI) classes (aFo cI cC cZ cB cJ a_m nY sJ eG iY lY jR jW jZ jO oQ bR aY jQ gY iJ mQ lJ jA bG mK jB mW mJ eJ dG bT aG jC bL bY jD mLn oF rP dQ aJ aB bW bZ aR aE bI aW bU fJ dO bM bQ bO jY oX pW) H -> va_D A (aFo cI cC cZ cB cJ a_m nY sJ eG iY lY jR jW jZ jO oQ bR aY jQ gY iJ mQ lJ jA bG mK jB mW mJ eJ dG bT aG jC bL bY jD mLn oF rP dQ aJ aB bW bZ aR aE bI aW bU fJ dO bM bQ bO jY oX pW) -> va_S A s.heap H locs -> lv_has ls 5 [(0, .ref a_m), (1, .int x1), (2, .int x2), (3, .int x3), (4, .int x4)] -> W p l e rm_X10_worthOfAll s m args below meth c H locs 0 0 (MQ below (q_X10_worthOfAll dC dI cI cC cZ cB cJ A a_m nY sJ eG iY lY jR jW jZ jO oQ bR aY jQ gY iJ mQ lJ jA bG mK jB mW mJ eJ dG bT aG jC bL bY jD mLn oF rP dQ aJ aB bW bZ aR aE bI aW bU fJ dO bM bQ bO jY oX pW post) args s 0 0 A) (F0 m 5 ls []) := by
  obtain ⟨hx, hb, hr, hml, hown, hts, hlocks, hA, hK, hN, tL, tM, hZL, hTL, hZM, hTM, hZX⟩ := id C0
  intro x1 x2 x3 x4 H locs ls hp hP hD hS hl
  unfold ws_X10_worthOfAll_5 at hp
  refine lv_iload hx hb aKq.2.2.2.2.1 (lv_at hl 4 rfl) ?_
  refine lv_aload_n hx hb aKq.2.2.2.2.2.1 rfl (lv_at hl 0 rfl) ?_
  refine va_get (D := (dC, dI)) (ci := 10) (v := .int bT) (C := zX) (T := aBe) (N := 51) hx hb hts aAt hown hK hP 0 rfl rfl 1 (lbz rfl) (hts _ q_677) (fun _ h9 => h9) rfl aKq.2.2.2.2.2.2.1 ?_
  refine lv_icmp_ge (tgt := 43) hx hb aKq.2.2.2.2.2.2.2.1 (by decide) (fun hc => ?_) (fun hc => ?_)
  · have hp := hp.1 hc
    refine lv_iload_n hx hb aYW.2.2.2.2.2.2.2.1 rfl (lv_at hl 3 rfl) ?_
    exact W.iret (v := x3) hx hb hr (fun t ht hW => ⟨⟨x3, (), rfl, hp, by rw [ht]; exact hP, va_K.moved hW.alike hK, hD⟩, hS.F ht⟩) hS.2.2 aYW.2.2.2.2.2.2.2.2
  · have hp := hp.2 hc
    refine lv_iload_n hx hb aKq.2.2.2.2.2.2.2.2.1 rfl (lv_at hl 3 rfl) ?_
    refine lv_iload_n hx hb aKq.2.2.2.2.2.2.2.2.2.1 rfl (lv_at hl 1 rfl) ?_
    refine lv_iload hx hb aKq.2.2.2.2.2.2.2.2.2.2.1 (lv_at hl 4 rfl) ?_
    refine yW (wc := (aLW cI cC cZ cB cJ)) hP hD hS hA [] [0, 1] rfl rfl rfl rfl (aDn (As := [.int x1, .int x4]) (rest := [.int x3]) C0 hP hD hS [] rfl rfl (aUP l dC dI cI cC cZ cB cJ H.size x1 x4 _ hp) q_734 q_736 q_735 aBL aUT rfl rfl ⟨lbz rfl, lbz rfl⟩ rfl rfl hl.1 rfl (lv_room (lbz rfl)) aKq.2.2.2.2.2.2.2.2.2.2.2.1 ⟨Nat.zero_le _, Nat.zero_le _⟩) (fun r_1 u H locs hp hP hD hS => ?_)
    have hPD := PDs (ws' := (aFo cI cC cZ cB cJ a_m nY sJ eG iY lY jR jW jZ jO oQ bR aY jQ gY iJ mQ lJ jA bG mK jB mW mJ eJ dG bT aG jC bL bY jD mLn oF rP dQ aJ aB bW bZ aR aE bI aW bU fJ dO bM bQ bO jY oX pW)) hP hD [0, 1] (by decide) rfl
    have hP := hPD.1
    have hD := hPD.2
    refine lv_if_eq (tgt := 34) hx hb aKq.2.2.2.2.2.2.2.2.2.2.2.2.1 (by decide) (fun hc => ?_) (fun hc => ?_)
    · have hp := hp.1 hc
      refine lv_iconst (v := 0) hx hb aYW.2.2.1 aCi ?_
      exact ks_X10_worthOfAll_35 C0 hKn x1 x2 x4 x3 0 H locs ls hp hP hD hS (lv_sub hl [0, 1, 2, 4] rfl)
    · have hp := hp.2 hc
      refine lv_aload_n hx hb aKq.2.2.2.2.2.2.2.2.2.2.2.2.2.1 rfl (lv_at hl 0 rfl) ?_
      refine lv_iload hx hb aKq.2.2.2.2.2.2.2.2.2.2.2.2.2.2.1 (lv_at hl 4 rfl) ?_
      refine lv_iload_n hx hb aKq.2.2.2.2.2.2.2.2.2.2.2.2.2.2.2 rfl (lv_at hl 2 rfl) ?_
      refine yW (wc := (wd_X10_worthOf cI cC cZ cB cJ a_m nY sJ eG iY lY jR jW jZ jO oQ bR aY jQ gY iJ mQ lJ jA bG mK jB mW mJ eJ dG bT aG jC bL bY jD mLn oF rP dQ aJ aB bW bZ aR aE bI aW bU fJ dO bM bQ bO jY oX pW)) hP hD hS hA [0, 1] [] rfl rfl rfl rfl (zF (As := [.int x4, .int x2]) (rest := [.int x3]) C0 hP hD hS [0, 1] rfl rfl 0 10 rfl rfl (c_X10_worthOf l dC dI cI cC cZ cB cJ a_m nY sJ eG iY lY jR jW jZ jO oQ bR aY jQ gY iJ mQ lJ jA bG mK jB mW mJ eJ dG H.size x4 x2 bT aG jC bL bY jD mLn oF rP dQ aJ aB bW bZ aR aE bI aW bU fJ dO bM bQ bO jY oX pW _ hp) q_861 q_864 q_862 q_863 aBL h_X10_worthOf rfl rfl ⟨lbz rfl, lbz rfl⟩ rfl rfl hl.1 rfl (lv_room (lbz rfl)) aYW.1 ⟨Nat.zero_le _, Nat.zero_le _⟩) (fun r_4 u H locs hp hP hD hS => ?_)
      have hPD := PDs (ws' := (aFo cI cC cZ cB cJ a_m nY sJ eG iY lY jR jW jZ jO oQ bR aY jQ gY iJ mQ lJ jA bG mK jB mW mJ eJ dG bT aG jC bL bY jD mLn oF rP dQ aJ aB bW bZ aR aE bI aW bU fJ dO bM bQ bO jY oX pW)) hP hD [0, 1] (by decide) rfl
      have hP := hPD.1
      have hD := hPD.2
      refine lv_goto (tgt := 35) hx hb aYW.2.1 (by decide) ?_
      exact ks_X10_worthOfAll_35 C0 hKn x1 x2 x4 x3 r_4 H locs ls hp hP hD hS (lv_sub hl [0, 1, 2, 4] rfl)
set_option maxHeartbeats 4000000 in
set_option maxRecDepth 100000 in
theorem kb_X10_worthOfAll_5 (C0 : gc aFq (some .int) 5 zX (dC, dI) (tyl cI cC cZ cB cJ) A p s m args meth c) : ∀ (n : Nat), ∀ (x1 x2 x3 x4 : Int32) (H : Heap) (locs : List Loc) (ls : Array Slot), (wb_X10_worthOfAll_5 post bT pW n) x1 x2 x3 x4 -> va_P (dC, dI) classes (aFo cI cC cZ cB cJ a_m nY sJ eG iY lY jR jW jZ jO oQ bR aY jQ gY iJ mQ lJ jA bG mK jB mW mJ eJ dG bT aG jC bL bY jD mLn oF rP dQ aJ aB bW bZ aR aE bI aW bU fJ dO bM bQ bO jY oX pW) H -> va_D A (aFo cI cC cZ cB cJ a_m nY sJ eG iY lY jR jW jZ jO oQ bR aY jQ gY iJ mQ lJ jA bG mK jB mW mJ eJ dG bT aG jC bL bY jD mLn oF rP dQ aJ aB bW bZ aR aE bI aW bU fJ dO bM bQ bO jY oX pW) -> va_S A s.heap H locs -> lv_has ls 5 [(0, .ref a_m), (1, .int x1), (2, .int x2), (3, .int x3), (4, .int x4)] -> W p l e rm_X10_worthOfAll s m args below meth c H locs 0 0 (MQ below (q_X10_worthOfAll dC dI cI cC cZ cB cJ A a_m nY sJ eG iY lY jR jW jZ jO oQ bR aY jQ gY iJ mQ lJ jA bG mK jB mW mJ eJ dG bT aG jC bL bY jD mLn oF rP dQ aJ aB bW bZ aR aE bI aW bU fJ dO bM bQ bO jY oX pW post) args s 0 0 A) (F0 m 5 ls []) := by
  intro n
  induction n with
  | zero =>
    intro x1 x2 x3 x4 H locs ls hp
    exact False.elim hp
  | succ n ih =>
    intro x1 x2 x3 x4 H locs ls hp
    exact ks_X10_worthOfAll_5 C0 ih x1 x2 x3 x4 H locs ls hp
end S_X10_worthOfAll
def aMp (post : Int32 -> Prop) (p0 p1 bT : Int32) (pW : Nat -> Int32) : Prop := ∃ n : Nat, wb_X10_worthOfAll_5 post bT pW n p0 p1 0 0
set_option maxHeartbeats 4000000 in
set_option maxRecDepth 100000 in
theorem bCS (l : Launch) (dC : Nat -> ClassId) (dI : Nat -> Nat -> Nat) (cI cC cZ cB cJ : ClassId) (a_m nY sJ eG iY lY jR jW jZ jO oQ bR aY jQ gY iJ mQ lJ jA bG mK jB mW mJ eJ dG sz : Nat) (p0 p1 bT aG jC bL bY : Int32) (jD : Nat) (mLn oF rP dQ aJ aB bW bZ aR aE bI aW bU fJ dO bM bQ bO jY oX : Int32) (pW : Nat -> Int32) (post : Int32 -> Prop) (hw : aMp post p0 p1 bT pW) : Met l aZG (gw aZG aFq 5 (some .int)) rm_X10_worthOfAll (va_Pc [.ref a_m, .int p0, .int p1] (gPre (dC, dI) (tyl cI cC cZ cB cJ) (aFo cI cC cZ cB cJ a_m nY sJ eG iY lY jR jW jZ jO oQ bR aY jQ gY iJ mQ lJ jA bG mK jB mW mJ eJ dG bT aG jC bL bY jD mLn oF rP dQ aJ aB bW bZ aR aE bI aW bU fJ dO bM bQ bO jY oX pW) sz)) (q_X10_worthOfAll dC dI cI cC cZ cB cJ (va_A (aFo cI cC cZ cB cJ a_m nY sJ eG iY lY jR jW jZ jO oQ bR aY jQ gY iJ mQ lJ jA bG mK jB mW mJ eJ dG bT aG jC bL bY jD mLn oF rP dQ aJ aB bW bZ aR aE bI aW bU fJ dO bM bQ bO jY oX pW) sz) a_m nY sJ eG iY lY jR jW jZ jO oQ bR aY jQ gY iJ mQ lJ jA bG mK jB mW mJ eJ dG bT aG jC bL bY jD mLn oF rP dQ aJ aB bW bZ aR aE bI aW bU fJ dO bM bQ bO jY oX pW post) 0 0 (va_A (aFo cI cC cZ cB cJ a_m nY sJ eG iY lY jR jW jZ jO oQ bR aY jQ gY iJ mQ lJ jA bG mK jB mW mJ eJ dG bT aG jC bL bY jD mLn oF rP dQ aJ aB bW bZ aR aE bI aW bU fJ dO bM bQ bO jY oX pW) sz) := by
  refine aBJ (own := zX) (dC, dI) (tyl cI cC cZ cB cJ) (aFo cI cC cZ cB cJ a_m nY sJ eG iY lY jR jW jZ jO oQ bR aY jQ gY iJ mQ lJ jA bG mK jB mW mJ eJ dG bT aG jC bL bY jD mLn oF rP dQ aJ aB bW bZ aR aE bI aW bU fJ dO bM bQ bO jY oX pW) sz [.ref a_m, .int p0, .int p1] (fun A => q_X10_worthOfAll dC dI cI cC cZ cB cJ A a_m nY sJ eG iY lY jR jW jZ jO oQ bR aY jQ gY iJ mQ lJ jA bG mK jB mW mJ eJ dG bT aG jC bL bY jD mLn oF rP dQ aJ aB bW bZ aR aE bI aW bU fJ dO bM bQ bO jY oX pW post) aFY rfl (lbz rfl) ?_
  intro p e s m args below meth c A H locs ls C0 hP hD hS hl
  have hl : lv_has ls 5 [(0, .ref a_m), (1, .int p0), (2, .int p1)] := hl
  obtain ⟨hx, hb, hr, hml, hown, hts, hlocks, hA, hK, hN, tL, tM, hZL, hTL, hZM, hTM, hZX⟩ := id C0
  have hp := hw
  unfold aMp at hp
  refine lv_iconst (v := 0) hx hb aKq.1 aCi ?_
  refine lv_istore_n (lv' := [(3, .int 0), (0, .ref a_m), (1, .int p0), (2, .int p1)]) hx hb aKq.2.1 rfl hl (by decide) rfl (fun ls hl => ?_)
  refine lv_iconst (v := 0) hx hb aKq.2.2.1 aCi ?_
  refine lv_istore (lv' := [(4, .int 0), (3, .int 0), (0, .ref a_m), (1, .int p0), (2, .int p1)]) hx hb aKq.2.2.2.1 hl (by decide) rfl (fun ls hl => ?_)
  obtain ⟨n9, hp⟩ := hp
  exact kb_X10_worthOfAll_5 C0 n9 p0 p1 0 0 H locs ls hp hP hD hS (lv_sub hl [2, 3, 4, 1, 0] rfl)
