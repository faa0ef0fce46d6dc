abbrev wd_X10_leaned (cI cC cZ cB cJ : ClassId) (a_m nY sJ eG iY lY jR jW jZ jO oQ bR aY jQ gY iJ mQ lJ jA bG mK jB mW mJ eJ dG : Nat) (bT aG jC bL bY : Int32) (jD : Nat) (mLn oF rP dQ aJ aB bW bZ aR aE bI aW bU fJ dO bM bQ bO jY oX : Int32) (m_x gR nG oO pJ : Nat -> Int32) : va_W := [(a_m, .inr (10, [.ref nY, .int bT, .ref sJ, .ref eG, .ref iY, .ref lY, .int aG, .ref jR, .ref jW, .ref jZ, .ref jO, .int jC, .ref oQ, .int bL, .int bY, rdv jO jQ jD, .int mLn, .int oF, .int rP, .int dQ, .ref bR, .ref aY, .int aJ, .int aB, .ref jQ, .int bW, .int bZ, .int aR, .int aE, .int bI, .int aW, .ref gY, .int bU, .ref iJ, .ref mQ, .int fJ, .ref lJ, .int dO, .ref jA, .ref bG, .int bM, .int bQ, .int bO, .ref mK, .ref jB, .ref mW, .int jY, .int oX, .ref mJ, .ref eJ, .ref dG])), (sJ, .inl (cI, 16, .inl m_x)), (eG, .inl (cI, 16, .inl gR)), (jR, .inl (cI, 8, .inl nG)), (jW, .inl (cI, 8, .inl oO)), (jZ, .inl (cI, 5, .inl pJ))]
abbrev q_X10_leaned (dC : Nat -> ClassId) (dI : Nat -> Nat -> Nat) (cI cC cZ cB cJ : ClassId) (A : Nat -> Prop) (a_m nY sJ eG iY lY jR jW jZ jO oQ bR aY jQ gY iJ mQ lJ jA bG mK jB mW mJ eJ dG : Nat) (bT aG jC bL : Int32) (jD : Nat) (mLn oF rP dQ aJ aB bW bZ aR aE bI aW bU fJ dO bM bQ bO jY oX : Int32) (m_x gR nG oO pJ : Nat -> Int32) (post : Int32 -> Int32 -> Prop) : Array Value -> State -> Outcome -> State -> Prop := va_Qi (fun (r u : Int32) => post r u) (fun u t => gB (dC, dI) (tyl cI cC cZ cB cJ) A (wd_X10_leaned cI cC cZ cB cJ a_m nY sJ eG iY lY jR jW jZ jO oQ bR aY jQ gY iJ mQ lJ jA bG mK jB mW mJ eJ dG bT aG jC bL u jD mLn oF rP dQ aJ aB bW bZ aR aE bI aW bU fJ dO bM bQ bO jY oX m_x gR nG oO pJ) t) A
abbrev rm_X10_leaned : Room := { frames := 4, cells := 0, slots := 0, locals := 89 }
def wp_X10_leaned (post : Int32 -> Int32 -> Prop) (p0 p1 bT aG bY : Int32) (m_x gR nG oO pJ : Nat -> Int32) : Prop := aU8 (fun r_1 => (r_1 = 0 -> post (-1) 0) /\ (¬ r_1 = 0 -> aJI (fun r_2 => (¬ r_2 = 0 -> aUA (fun r_3 => (r_3 <= 30 -> post r_3 0) /\ (¬ r_3 <= 30 -> post (-2) 0)) p0 p1 m_x gR nG oO pJ) /\ (r_2 = 0 -> post (-1) 0)) p1 aG)) p0 bT
set_option maxHeartbeats 4000000 in
set_option maxRecDepth 100000 in
theorem c_X10_leaned (l : Launch) (dC : Nat -> ClassId) (dI : Nat -> Nat -> Nat) (cI cC cZ cB cJ : ClassId) (a_m nY sJ eG iY lY jR jW jZ jO oQ bR aY jQ gY iJ mQ lJ jA bG mK jB mW mJ eJ dG sz : Nat) (p0 p1 bT aG jC bL bY : Int32) (jD : Nat) (mLn oF rP dQ aJ aB bW bZ aR aE bI aW bU fJ dO bM bQ bO jY oX : Int32) (m_x gR nG oO pJ : Nat -> Int32) (post : Int32 -> Int32 -> Prop) (hw : wp_X10_leaned post p0 p1 bT aG bY m_x gR nG oO pJ) : Met l yX10_leaned (gw yX10_leaned aK9 4 (some .int)) rm_X10_leaned (va_Pc [.ref a_m, .int p0, .int p1] (gPre (dC, dI) (tyl cI cC cZ cB cJ) (wd_X10_leaned cI cC cZ cB cJ a_m nY sJ eG iY lY jR jW jZ jO oQ bR aY jQ gY iJ mQ lJ jA bG mK jB mW mJ eJ dG bT aG jC bL bY jD mLn oF rP dQ aJ aB bW bZ aR aE bI aW bU fJ dO bM bQ bO jY oX m_x gR nG oO pJ) sz)) (q_X10_leaned dC dI cI cC cZ cB cJ (va_A (wd_X10_leaned cI cC cZ cB cJ a_m nY sJ eG iY lY jR jW jZ jO oQ bR aY jQ gY iJ mQ lJ jA bG mK jB mW mJ eJ dG bT aG jC bL bY jD mLn oF rP dQ aJ aB bW bZ aR aE bI aW bU fJ dO bM bQ bO jY oX m_x gR nG oO pJ) sz) a_m nY sJ eG iY lY jR jW jZ jO oQ bR aY jQ gY iJ mQ lJ jA bG mK jB mW mJ eJ dG bT aG jC bL jD mLn oF rP dQ aJ aB bW bZ aR aE bI aW bU fJ dO bM bQ bO jY oX m_x gR nG oO pJ post) 0 0 (va_A (wd_X10_leaned cI cC cZ cB cJ a_m nY sJ eG iY lY jR jW jZ jO oQ bR aY jQ gY iJ mQ lJ jA bG mK jB mW mJ eJ dG bT aG jC bL bY jD mLn oF rP dQ aJ aB bW bZ aR aE bI aW bU fJ dO bM bQ bO jY oX m_x gR nG oO pJ) sz) := by
  refine aBJ (own := zX) (dC, dI) (tyl cI cC cZ cB cJ) (wd_X10_leaned cI cC cZ cB cJ a_m nY sJ eG iY lY jR jW jZ jO oQ bR aY jQ gY iJ mQ lJ jA bG mK jB mW mJ eJ dG bT aG jC bL bY jD mLn oF rP dQ aJ aB bW bZ aR aE bI aW bU fJ dO bM bQ bO jY oX m_x gR nG oO pJ) sz [.ref a_m, .int p0, .int p1] (fun A => q_X10_leaned dC dI cI cC cZ cB cJ A a_m nY sJ eG iY lY jR jW jZ jO oQ bR aY jQ gY iJ mQ lJ jA bG mK jB mW mJ eJ dG bT aG jC bL jD mLn oF rP dQ aJ aB bW bZ aR aE bI aW bU fJ dO bM bQ bO jY oX m_x gR nG oO pJ post) aFY rfl (lbz rfl) ?_
  intro p e s m args below meth c A H locs ls C0 hP hD hS hl
  have hl : lv_has ls 4 [(0, .ref a_m), (1, .int p0), (2, .int p1)] := hl
  obtain ⟨hx, hb, hr, hml, hown, hts, hlocks, hA, hK, hN, tL, tM, hZL, hTL, hZM, hTM, hZX⟩ := id C0
  have hp := hw
  unfold wp_X10_leaned at hp
  refine lv_aload_n hx hb aPI.1 rfl (lv_at hl 0 rfl) ?_
  refine lv_iconst (v := 0) hx hb aPI.2.1 aCi ?_
  refine va_put (D := (dC, dI)) (ci := 10) (v := .int 0) (ty := .int) (C := zX) (T := aBe) (N := 51) hx hb hts aAt aD2 aAa aEC hown hK hP hD hS 0 rfl rfl 14 (lbz rfl) (hts _ q_638) (fun _ h9 => h9) rfl (aAa 14 (lbz rfl)) rfl rfl (lbz rfl) aPI.2.2.1 (fun H locs hP hD hS => ?_)
  have hPD := PDw (ws' := (wd_X10_leaned cI cC cZ cB cJ a_m nY sJ eG iY lY jR jW jZ jO oQ bR aY jQ gY iJ mQ lJ jA bG mK jB mW mJ eJ dG bT aG jC bL 0 jD mLn oF rP dQ aJ aB bW bZ aR aE bI aW bU fJ dO bM bQ bO jY oX m_x gR nG oO pJ)) hP hD rfl
  have hP := hPD.1
  have hD := hPD.2
  refine lv_aload_n hx hb aPI.2.2.2.1 rfl (lv_at hl 0 rfl) ?_
  refine lv_iload_n hx hb aPI.2.2.2.2.1 rfl (lv_at hl 1 rfl) ?_
  have hm := mgk (wc := (aY2 cI cC cZ cB cJ a_m nY sJ eG iY lY jR jW jZ jO oQ bR aY jQ gY iJ mQ lJ jA bG mK jB mW mJ eJ dG bT aG jC bL 0 jD mLn oF rP dQ aJ aB bW bZ aR aE bI aW bU fJ dO bM bQ bO jY oX)) hP mk_24 6 rfl rfl rfl
  refine yW hP hD hS hA (yS mk_24) (aAi mk_24) hm.1 hm.2 (aAk _) (zW _) (zF (As := [.int p0]) (rest := []) C0 hP hD hS (yS mk_24) hm.1 (aAl _) 0 10 rfl rfl (c_X10_isFruit l dC dI cI cC cZ cB cJ a_m nY sJ eG iY lY jR jW jZ jO oQ bR aY jQ gY iJ mQ lJ jA bG mK jB mW mJ eJ dG H.size p0 bT aG jC bL 0 jD mLn oF rP dQ aJ aB bW bZ aR aE bI aW bU fJ dO bM bQ bO jY oX _ hp) q_741 q_744 q_742 q_743 aBL h_X10_isFruit rfl rfl ⟨lbz rfl, lbz rfl⟩ rfl rfl hl.1 rfl (lv_room (lbz rfl)) aPI.2.2.2.2.2.1 ⟨Nat.zero_le _, Nat.zero_le _⟩) (fun r_1 u H locs hp hP hD hS => ?_)
  have hPD := PDm (ws' := (wd_X10_leaned cI cC cZ cB cJ a_m nY sJ eG iY lY jR jW jZ jO oQ bR aY jQ gY iJ mQ lJ jA bG mK jB mW mJ eJ dG bT aG jC bL 0 jD mLn oF rP dQ aJ aB bW bZ aR aE bI aW bU fJ dO bM bQ bO jY oX m_x gR nG oO pJ)) hP hD 6 rfl rfl rfl
  have hP := hPD.1
  have hD := hPD.2
  refine lv_if_eq (tgt := 21) hx hb aPI.2.2.2.2.2.2.1 (by decide) (fun hc => ?_) (fun hc => ?_)
  · have hp := hp.1 hc
    refine lv_iconst (v := (-1)) hx hb aPI.2.2.2.2.2.2.2.2.2.2.2.1 aEJ ?_
    exact W.iret (v := (-1)) hx hb hr (fun t ht hW => ⟨⟨(-1), 0, rfl, hp, by rw [ht]; exact hP, va_K.moved hW.alike hK, hD⟩, hS.F ht⟩) hS.2.2 aPI.2.2.2.2.2.2.2.2.2.2.2.2.1
  · have hp := hp.2 hc
    refine lv_aload_n hx hb aPI.2.2.2.2.2.2.2.1 rfl (lv_at hl 0 rfl) ?_
    refine lv_iload_n hx hb aPI.2.2.2.2.2.2.2.2.1 rfl (lv_at hl 2 rfl) ?_
    have hm := mgk (wc := (aK5 cI cC cZ cB cJ a_m nY sJ eG iY lY jR jW jZ jO oQ bR aY jQ gY iJ mQ lJ jA bG mK jB mW mJ eJ dG bT aG jC bL 0 jD mLn oF rP dQ aJ aB bW bZ aR aE bI aW bU fJ dO bM bQ bO jY oX)) hP mk_24 6 rfl rfl rfl
    refine yW hP hD hS hA (yS mk_24) (aAi mk_24) hm.1 hm.2 (aAk _) (zW _) (zF (As := [.int p1]) (rest := []) C0 hP hD hS (yS mk_24) hm.1 (aAl _) 0 10 rfl rfl (aZR l dC dI cI cC cZ cB cJ a_m nY sJ eG iY lY jR jW jZ jO oQ bR aY jQ gY iJ mQ lJ jA bG mK jB mW mJ eJ dG H.size p1 bT aG jC bL 0 jD mLn oF rP dQ aJ aB bW bZ aR aE bI aW bU fJ dO bM bQ bO jY oX _ hp) q_757 q_760 q_758 q_759 aBL aZY rfl rfl ⟨lbz rfl, lbz rfl⟩ rfl rfl hl.1 rfl (lv_room (lbz rfl)) aPI.2.2.2.2.2.2.2.2.2.1 ⟨Nat.zero_le _, Nat.zero_le _⟩) (fun r_2 u H locs hp hP hD hS => ?_)
    have hPD := PDm (ws' := (wd_X10_leaned cI cC cZ cB cJ a_m nY sJ eG iY lY jR jW jZ jO oQ bR aY jQ gY iJ mQ lJ jA bG mK jB mW mJ eJ dG bT aG jC bL 0 jD mLn oF rP dQ aJ aB bW bZ aR aE bI aW bU fJ dO bM bQ bO jY oX m_x gR nG oO pJ)) hP hD 6 rfl rfl rfl
    have hP := hPD.1
    have hD := hPD.2
    refine lv_if_ne (tgt := 23) hx hb aPI.2.2.2.2.2.2.2.2.2.2.1 (by decide) (fun hc => ?_) (fun hc => ?_)
    · have hp := hp.1 hc
      refine lv_aload_n hx hb aPI.2.2.2.2.2.2.2.2.2.2.2.2.2.1 rfl (lv_at hl 0 rfl) ?_
      refine lv_iload_n hx hb aPI.2.2.2.2.2.2.2.2.2.2.2.2.2.2.1 rfl (lv_at hl 1 rfl) ?_
      refine lv_iload_n hx hb aPI.2.2.2.2.2.2.2.2.2.2.2.2.2.2.2 rfl (lv_at hl 2 rfl) ?_
      have hm := mgk (wc := (aRV cI cC cZ cB cJ a_m nY sJ eG iY lY jR jW jZ jO oQ bR aY jQ gY iJ mQ lJ jA bG mK jB mW mJ eJ dG bT aG jC bL 0 jD mLn oF rP dQ aJ aB bW bZ aR aE bI aW bU fJ dO bM bQ bO jY oX m_x gR nG oO pJ)) hP mk_301 6 rfl rfl rfl
      refine yW hP hD hS hA (yS mk_301) (aAi mk_301) hm.1 hm.2 (aAk _) (zW _) (zF (As := [.int p0, .int p1]) (rest := []) C0 hP hD hS (yS mk_301) hm.1 (aAl _) 0 10 rfl rfl (c_X10_leanOf l dC dI cI cC cZ cB cJ a_m nY sJ eG iY lY jR jW jZ jO oQ bR aY jQ gY iJ mQ lJ jA bG mK jB mW mJ eJ dG H.size p0 p1 bT aG jC bL 0 jD mLn oF rP dQ aJ aB bW bZ aR aE bI aW bU fJ dO bM bQ bO jY oX m_x gR nG oO pJ _ hp) q_887 q_890 q_888 q_889 aBL h_X10_leanOf rfl rfl ⟨lbz rfl, lbz rfl⟩ rfl rfl hl.1 rfl (lv_room (lbz rfl)) eX10_leaned_26.1 ⟨Nat.zero_le _, Nat.zero_le _⟩) (fun r_3 u H locs hp hP hD hS => ?_)
      have hPD := PDm (ws' := (wd_X10_leaned cI cC cZ cB cJ a_m nY sJ eG iY lY jR jW jZ jO oQ bR aY jQ gY iJ mQ lJ jA bG mK jB mW mJ eJ dG bT aG jC bL 0 jD mLn oF rP dQ aJ aB bW bZ aR aE bI aW bU fJ dO bM bQ bO jY oX m_x gR nG oO pJ)) hP hD 6 rfl rfl rfl
      have hP := hPD.1
      have hD := hPD.2
      refine lv_istore_n (lv' := [(3, .int r_3), (0, .ref a_m), (1, .int p0), (2, .int p1)]) hx hb eX10_leaned_26.2.1 rfl hl (by decide) rfl (fun ls hl => ?_)
      refine lv_iload_n hx hb eX10_leaned_26.2.2.1 rfl (lv_at hl 0 rfl) ?_
      refine lv_bipush (v := 30) hx hb eX10_leaned_26.2.2.2.1 bp_30 ?_
      refine lv_icmp_le (tgt := 41) hx hb eX10_leaned_26.2.2.2.2.1 (by decide) (fun hc => ?_) (fun hc => ?_)
      · have hp := hp.1 hc
        refine lv_iload_n hx hb eX10_leaned_26.2.2.2.2.2.2.2.1 rfl (lv_at hl 0 rfl) ?_
        exact W.iret (v := r_3) hx hb hr (fun t ht hW => ⟨⟨r_3, 0, rfl, hp, by rw [ht]; exact hP, va_K.moved hW.alike hK, hD⟩, hS.F ht⟩) hS.2.2 eX10_leaned_26.2.2.2.2.2.2.2.2
      · have hp := hp.2 hc
        refine lv_bipush (v := (-2)) hx hb eX10_leaned_26.2.2.2.2.2.1 bp_m2 ?_
        refine lv_goto (tgt := 42) hx hb eX10_leaned_26.2.2.2.2.2.2.1 (by decide) ?_
        exact W.iret (v := (-2)) hx hb hr (fun t ht hW => ⟨⟨(-2), 0, rfl, hp, by rw [ht]; exact hP, va_K.moved hW.alike hK, hD⟩, hS.F ht⟩) hS.2.2 eX10_leaned_26.2.2.2.2.2.2.2.2
    · have hp := hp.2 hc
      refine lv_iconst (v := (-1)) hx hb aPI.2.2.2.2.2.2.2.2.2.2.2.1 aEJ ?_
      exact W.iret (v := (-1)) hx hb hr (fun t ht hW => ⟨⟨(-1), 0, rfl, hp, by rw [ht]; exact hP, va_K.moved hW.alike hK, hD⟩, hS.F ht⟩) hS.2.2 aPI.2.2.2.2.2.2.2.2.2.2.2.2.1
abbrev wd_X10_draw (cI cC cZ cB cJ : ClassId) (a_m nY sJ eG iY lY jR jW jZ jO oQ bR aY jQ gY iJ mQ lJ jA bG mK jB mW mJ eJ dG : Nat) (bT aG jC bL bY : Int32) (jD : Nat) (mLn oF rP dQ aJ aB bW bZ aR aE bI aW bU fJ dO bM bQ bO jY oX : Int32) : va_W := [(a_m, .inr (10, [.ref nY, .int bT, .ref sJ, .ref eG, .ref iY, .ref lY, .int aG, .ref jR, .ref jW, .ref jZ, .ref jO, .int jC, .ref oQ, .int bL, .int bY, rdv jO jQ jD, .int mLn, .int oF, .int rP, .int dQ, .ref bR, .ref aY, .int aJ, .int aB, .ref jQ, .int bW, .int bZ, .int aR, .int aE, .int bI, .int aW, .ref gY, .int bU, .ref iJ, .ref mQ, .int fJ, .ref lJ, .int dO, .ref jA, .ref bG, .int bM, .int bQ, .int bO, .ref mK, .ref jB, .ref mW, .int jY, .int oX, .ref mJ, .ref eJ, .ref dG]))]
abbrev q_X10_draw (dC : Nat -> ClassId) (dI : Nat -> Nat -> Nat) (cI cC cZ cB cJ : ClassId) (A : Nat -> Prop) (a_m nY sJ eG iY lY jR jW jZ jO oQ bR aY jQ gY iJ mQ lJ jA bG mK jB mW mJ eJ dG : Nat) (bT aG jC bL bY : Int32) (jD : Nat) (mLn oF rP dQ aJ aB bW bZ aR aE bI aW bU fJ dO bM bQ bO oX : Int32) (post : Int32 -> Int32 -> Prop) : Array Value -> State -> Outcome -> State -> Prop := va_Qi (fun (r u : Int32) => post r u) (fun u t => gB (dC, dI) (tyl cI cC cZ cB cJ) A (wd_X10_draw cI cC cZ cB cJ a_m nY sJ eG iY lY jR jW jZ jO oQ bR aY jQ gY iJ mQ lJ jA bG mK jB mW mJ eJ dG bT aG jC bL bY jD mLn oF rP dQ aJ aB bW bZ aR aE bI aW bU fJ dO bM bQ bO u oX) t) A
abbrev rm_X10_draw : Room := { frames := 0, cells := 0, slots := 0, locals := 0 }
def wp_X10_draw (post : Int32 -> Int32 -> Prop) (p0 jY : Int32) : Prop := ∀ v_1 : Int32, v_1 = jY * 1103515245 -> ∀ v_2 : Int32, v_2 = v_1 + 12345 -> ∀ v_3 : Int32, v_3 = (v_2.toUInt32 >>> ((16 : Int32).toUInt32 &&& Int32.toUInt32 31)).toInt32 -> ¬ p0 = 0 /\ (post (v_3 - v_3 / p0 * p0) v_2)
set_option maxHeartbeats 4000000 in
set_option maxRecDepth 100000 in
theorem c_X10_draw (l : Launch) (dC : Nat -> ClassId) (dI : Nat -> Nat -> Nat) (cI cC cZ cB cJ : ClassId) (a_m nY sJ eG iY lY jR jW jZ jO oQ bR aY jQ gY iJ mQ lJ jA bG mK jB mW mJ eJ dG sz : Nat) (p0 bT aG jC bL bY : Int32) (jD : Nat) (mLn oF rP dQ aJ aB bW bZ aR aE bI aW bU fJ dO bM bQ bO jY oX : Int32) (post : Int32 -> Int32 -> Prop) (hw : wp_X10_draw post p0 jY) : Met l yX10_draw (gw yX10_draw cX10_draw 2 (some .int)) rm_X10_draw (va_Pc [.ref a_m, .int p0] (gPre (dC, dI) (tyl cI cC cZ cB cJ) (wd_X10_draw cI cC cZ cB cJ a_m nY sJ eG iY lY jR jW jZ jO oQ bR aY jQ gY iJ mQ lJ jA bG mK jB mW mJ eJ dG bT aG jC bL bY jD mLn oF rP dQ aJ aB bW bZ aR aE bI aW bU fJ dO bM bQ bO jY oX) sz)) (q_X10_draw dC dI cI cC cZ cB cJ (va_A (wd_X10_draw cI cC cZ cB cJ a_m nY sJ eG iY lY jR jW jZ jO oQ bR aY jQ gY iJ mQ lJ jA bG mK jB mW mJ eJ dG bT aG jC bL bY jD mLn oF rP dQ aJ aB bW bZ aR aE bI aW bU fJ dO bM bQ bO jY oX) sz) a_m nY sJ eG iY lY jR jW jZ jO oQ bR aY jQ gY iJ mQ lJ jA bG mK jB mW mJ eJ dG bT aG jC bL bY jD mLn oF rP dQ aJ aB bW bZ aR aE bI aW bU fJ dO bM bQ bO oX post) 0 0 (va_A (wd_X10_draw cI cC cZ cB cJ a_m nY sJ eG iY lY jR jW jZ jO oQ bR aY jQ gY iJ mQ lJ jA bG mK jB mW mJ eJ dG bT aG jC bL bY jD mLn oF rP dQ aJ aB bW bZ aR aE bI aW bU fJ dO bM bQ bO jY oX) sz) := by
  refine aBJ (own := zX) (dC, dI) (tyl cI cC cZ cB cJ) (wd_X10_draw cI cC cZ cB cJ a_m nY sJ eG iY lY jR jW jZ jO oQ bR aY jQ gY iJ mQ lJ jA bG mK jB mW mJ eJ dG bT aG jC bL bY jD mLn oF rP dQ aJ aB bW bZ aR aE bI aW bU fJ dO bM bQ bO jY oX) sz [.ref a_m, .int p0] (fun A => q_X10_draw dC dI cI cC cZ cB cJ A a_m nY sJ eG iY lY jR jW jZ jO oQ bR aY jQ gY iJ mQ lJ jA bG mK jB mW mJ eJ dG bT aG jC bL bY jD mLn oF rP dQ aJ aB bW bZ aR aE bI aW bU fJ dO bM bQ bO oX post) aFY rfl (lbz rfl) ?_
  intro p e s m args below meth c A H locs ls C0 hP hD hS hl
  have hl : lv_has ls 2 [(0, .ref a_m), (1, .int p0)] := hl
  obtain ⟨hx, hb, hr, hml, hown, hts, hlocks, hA, hK, hN, tL, tM, hZL, hTL, hZM, hTM, hZX⟩ := id C0
  have hp := hw
  unfold wp_X10_draw at hp
  refine lv_aload_n hx hb eX10_draw_0.1 rfl (lv_at hl 0 rfl) ?_
  refine lv_aload_n hx hb eX10_draw_0.2.1 rfl (lv_at hl 0 rfl) ?_
  refine va_get (D := (dC, dI)) (ci := 10) (v := .int jY) (C := zX) (T := aBe) (N := 51) hx hb hts aAt hown hK hP 0 rfl rfl 46 (lbz rfl) (hts _ q_959) (fun _ h9 => h9) rfl eX10_draw_0.2.2.1 ?_
  refine lv_ldcw (v := 1103515245) hx hb hown (hts _ q_960) eX10_draw_0.2.2.2.1 ?_
  refine lv_imul hx hb eX10_draw_0.2.2.2.2.1 ?_
  refine lv_topi (fun v_1 aFJ => ?_)
  have hp := hp v_1 aFJ
  refine lv_sipush (v := 12345) hx hb eX10_draw_0.2.2.2.2.2.1 sp_12345 ?_
  refine lv_iadd hx hb eX10_draw_0.2.2.2.2.2.2.1 ?_
  refine lv_topi (fun v_2 aGO => ?_)
  have hp := hp v_2 aGO
  refine va_put (D := (dC, dI)) (ci := 10) (v := .int v_2) (ty := .int) (C := zX) (T := aBe) (N := 51) hx hb hts aAt aD2 aAa aEC hown hK hP hD hS 0 rfl rfl 46 (lbz rfl) (hts _ q_959) (fun _ h9 => h9) rfl (aAa 46 (lbz rfl)) rfl rfl (lbz rfl) eX10_draw_0.2.2.2.2.2.2.2.1 (fun H locs hP hD hS => ?_)
  have hPD := PDw (ws' := (wd_X10_draw cI cC cZ cB cJ a_m nY sJ eG iY lY jR jW jZ jO oQ bR aY jQ gY iJ mQ lJ jA bG mK jB mW mJ eJ dG bT aG jC bL bY jD mLn oF rP dQ aJ aB bW bZ aR aE bI aW bU fJ dO bM bQ bO v_2 oX)) hP hD rfl
  have hP := hPD.1
  have hD := hPD.2
  refine lv_aload_n hx hb eX10_draw_0.2.2.2.2.2.2.2.2.1 rfl (lv_at hl 0 rfl) ?_
  refine va_get (D := (dC, dI)) (ci := 10) (v := .int v_2) (C := zX) (T := aBe) (N := 51) hx hb hts aAt hown hK hP 0 rfl rfl 46 (lbz rfl) (hts _ q_959) (fun _ h9 => h9) rfl eX10_draw_0.2.2.2.2.2.2.2.2.2.1 ?_
  refine lv_bipush (v := 16) hx hb eX10_draw_0.2.2.2.2.2.2.2.2.2.2.1 bp_16 ?_
  refine lv_iushr hx hb eX10_draw_0.2.2.2.2.2.2.2.2.2.2.2.1 rfl ?_
  refine lv_topi (fun v_3 aGW => ?_)
  have hp := hp v_3 aGW
  refine lv_iload_n hx hb eX10_draw_0.2.2.2.2.2.2.2.2.2.2.2.2.1 rfl (lv_at hl 1 rfl) ?_
  have hne := hp.1
  have hp := hp.2
  refine lv_irem hx hb eX10_draw_0.2.2.2.2.2.2.2.2.2.2.2.2.2.1 hne ?_
  exact W.iret (v := v_3 - v_3 / p0 * p0) hx hb hr (fun t ht hW => ⟨⟨v_3 - v_3 / p0 * p0, v_2, rfl, hp, by rw [ht]; exact hP, va_K.moved hW.alike hK, hD⟩, hS.F ht⟩) hS.2.2 eX10_draw_0.2.2.2.2.2.2.2.2.2.2.2.2.2.2
abbrev aDS (cI cC cZ cB cJ : ClassId) (a_m nY sJ eG iY lY jR jW jZ jO oQ bR aY jQ gY iJ mQ lJ jA bG mK jB mW mJ eJ dG : Nat) (bT aG jC bL bY : Int32) (jD : Nat) (mLn oF rP dQ aJ aB bW bZ aR aE bI aW bU fJ dO bM bQ bO jY oX : Int32) (qG pW qR sW : Nat -> Int32) : va_W := [(a_m, .inr (10, [.ref nY, .int bT, .ref sJ, .ref eG, .ref iY, .ref lY, .int aG, .ref jR, .ref jW, .ref jZ, .ref jO, .int jC, .ref oQ, .int bL, .int bY, rdv jO jQ jD, .int mLn, .int oF, .int rP, .int dQ, .ref bR, .ref aY, .int aJ, .int aB, .ref jQ, .int bW, .int bZ, .int aR, .int aE, .int bI, .int aW, .ref gY, .int bU, .ref iJ, .ref mQ, .int fJ, .ref lJ, .int dO, .ref jA, .ref bG, .int bM, .int bQ, .int bO, .ref mK, .ref jB, .ref mW, .int jY, .int oX, .ref mJ, .ref eJ, .ref dG])), (nY, .inl (cI, 21, .inl qG)), (iY, .inl (cI, 16, .inl pW)), (lY, .inl (cI, 16, .inl qR)), (oQ, .inl (cI, 32, .inl sW))]
abbrev aYb (dC : Nat -> ClassId) (dI : Nat -> Nat -> Nat) (cI cC cZ cB cJ : ClassId) (A : Nat -> Prop) (a_m nY sJ eG iY lY jR jW jZ jO oQ bR aY jQ gY iJ mQ lJ jA bG mK jB mW mJ eJ dG : Nat) (bT aG jC : Int32) (jD : Nat) (mLn oF rP dQ aJ aB bW bZ aR aE bI aW bU fJ dO bM bQ bO oX : Int32) (qG pW qR : Nat -> Int32) (post : Int32 -> Int32 -> Int32 -> Int32 -> (Nat -> Int32) -> Prop) : Array Value -> State -> Outcome -> State -> Prop := va_Qi (fun (r : Int32) (u : Int32 × Int32 × Int32 × (Nat -> Int32)) => post r u.1 u.2.1 u.2.2.1 u.2.2.2) (fun u t => gB (dC, dI) (tyl cI cC cZ cB cJ) A (aDS cI cC cZ cB cJ a_m nY sJ eG iY lY jR jW jZ jO oQ bR aY jQ gY iJ mQ lJ jA bG mK jB mW mJ eJ dG bT aG jC u.1 u.2.1 jD mLn oF rP dQ aJ aB bW bZ aR aE bI aW bU fJ dO bM bQ bO u.2.2.1 oX qG pW qR u.2.2.2) t) A
abbrev aX4 : Room := { frames := 3, cells := 0, slots := 0, locals := 67 }
section S_X10_autumn
variable {p : Program} {l : Launch} {e : Env} {s : State} {m : MethodId} {args : Array Value} {below : List Frame} {meth : Method} {c : Code} {dC : Nat -> ClassId} {dI : Nat -> Nat -> Nat} {cI cC cZ cB cJ : ClassId} {A : Nat -> Prop} {a_m nY sJ eG iY lY jR jW jZ jO oQ bR aY jQ gY iJ mQ lJ jA bG mK jB mW mJ eJ dG : Nat} {bT aG jC : Int32} {jD : Nat} {mLn oF rP dQ aJ aB bW bZ aR aE bI aW bU fJ dO bM bQ bO oX : Int32} {qG pW qR : Nat -> Int32} {post : Int32 -> Int32 -> Int32 -> Int32 -> (Nat -> Int32) -> Prop}
def ws_X10_autumn_175 (post : Int32 -> Int32 -> Int32 -> Int32 -> (Nat -> Int32) -> Prop) (K55 : Int32 -> Int32 -> Int32 -> Int32 -> Int32 -> Int32 -> Int32 -> Int32 -> Int32 -> Int32 -> (Nat -> Int32) -> Prop) (bT : Int32) (qG pW qR : Nat -> Int32) (x2 x3 x4 x5 x6 x7 x8 bL bY jY : Int32) (sW : Nat -> Int32) : Prop := ∀ v_22 : Int32, v_22 = x8 + 1 -> K55 x2 x3 x4 x5 x6 x7 v_22 bL bY jY sW
set_option maxHeartbeats 4000000 in
set_option maxRecDepth 100000 in
theorem ks_X10_autumn_175 (C0 : gc aBk (some .int) 12 zX (dC, dI) (tyl cI cC cZ cB cJ) A p s m args meth c) {K55 : Int32 -> Int32 -> Int32 -> Int32 -> Int32 -> Int32 -> Int32 -> Int32 -> Int32 -> Int32 -> (Nat -> Int32) -> Prop} (hK55 : ∀ (x2 : Int32) (x3 : Int32) (x4 : Int32) (x5 : Int32) (x6 : Int32) (x7 : Int32) (x8 : Int32) (bL : Int32) (bY : Int32) (jY : Int32) (sW : Nat -> Int32) (H : Heap) (locs : List Loc) (ls : Array Slot), K55 x2 x3 x4 x5 x6 x7 x8 bL bY jY sW -> va_P (dC, dI) classes (aDS cI cC cZ cB cJ a_m nY sJ eG iY lY jR jW jZ jO oQ bR aY jQ gY iJ mQ lJ jA bG mK jB mW mJ eJ dG bT aG jC bL bY jD mLn oF rP dQ aJ aB bW bZ aR aE bI aW bU fJ dO bM bQ bO jY oX qG pW qR sW) H -> va_D A (aDS cI cC cZ cB cJ a_m nY sJ eG iY lY jR jW jZ jO oQ bR aY jQ gY iJ mQ lJ jA bG mK jB mW mJ eJ dG bT aG jC bL bY jD mLn oF rP dQ aJ aB bW bZ aR aE bI aW bU fJ dO bM bQ bO jY oX qG pW qR sW) -> va_S A s.heap H locs -> lv_has ls 12 [(0, .ref a_m), (2, .int x2), (3, .int x3), (4, .int x4), (5, .int x5), (6, .int x6), (7, .int x7), (8, .int x8)] -> W p l e aX4 s m args below meth c H locs 0 0 (MQ below (aYb dC dI cI cC cZ cB cJ A a_m nY sJ eG iY lY jR jW jZ jO oQ bR aY jQ gY iJ mQ lJ jA bG mK jB mW mJ eJ dG bT aG jC jD mLn oF rP dQ aJ aB bW bZ aR aE bI aW bU fJ dO bM bQ bO oX qG pW qR post) args s 0 0 A) (F0 m 55 ls [])) : ∀ (x2 x3 x4 x5 x6 x7 x8 bL bY jY : Int32) (sW : Nat -> Int32) (H : Heap) (locs : List Loc) (ls : Array Slot), (ws_X10_autumn_175 post K55 bT qG pW qR) x2 x3 x4 x5 x6 x7 x8 bL bY jY sW -> va_P (dC, dI) classes (aDS cI cC cZ cB cJ a_m nY sJ eG iY lY jR jW jZ jO oQ bR aY jQ gY iJ mQ lJ jA bG mK jB mW mJ eJ dG bT aG jC bL bY jD mLn oF rP dQ aJ aB bW bZ aR aE bI aW bU fJ dO bM bQ bO jY oX qG pW qR sW) H -> va_D A (aDS cI cC cZ cB cJ a_m nY sJ eG iY lY jR jW jZ jO oQ bR aY jQ gY iJ mQ lJ jA bG mK jB mW mJ eJ dG bT aG jC bL bY jD mLn oF rP dQ aJ aB bW bZ aR aE bI aW bU fJ dO bM bQ bO jY oX qG pW qR sW) -> va_S A s.heap H locs -> lv_has ls 12 [(0, .ref a_m), (2, .int x2), (3, .int x3), (4, .int x4), (5, .int x5), (6, .int x6), (7, .int x7), (8, .int x8)] -> W p l e aX4 s m args below meth c H locs 0 0 (MQ below (aYb dC dI cI cC cZ cB cJ A a_m nY sJ eG iY lY jR jW jZ jO oQ bR aY jQ gY iJ mQ lJ jA bG mK jB mW mJ eJ dG bT aG jC jD mLn oF rP dQ aJ aB bW bZ aR aE bI aW bU fJ dO bM bQ bO oX qG pW qR post) args s 0 0 A) (F0 m 175 ls []) := by
  obtain ⟨hx, hb, hr, hml, hown, hts, hlocks, hA, hK, hN, tL, tM, hZL, hTL, hZM, hTM, hZX⟩ := id C0
  intro x2 x3 x4 x5 x6 x7 x8 bL bY jY sW H locs ls hp hP hD hS hl
  unfold ws_X10_autumn_175 at hp
  obtain ⟨v_22, ev_22⟩ : ∃ y : Int32, y = x8 + 1 := ⟨_, rfl⟩
  refine lv_iinc (v := v_22) (lv' := [(8, .int v_22), (0, .ref a_m), (2, .int x2), (3, .int x3), (4, .int x4), (5, .int x5), (6, .int x6), (7, .int x7)]) hx hb aNi.2.2.2.2.2.2.2.2.2.2.2.2.2.1 hl (k := 7) rfl (by rw [ev_22]; rfl) (by decide) rfl (fun ls hl => ?_)
  have hp := hp v_22 ev_22
  refine lv_goto (tgt := 55) hx hb aNi.2.2.2.2.2.2.2.2.2.2.2.2.2.2.1 (by decide) ?_
  exact hK55 x2 x3 x4 x5 x6 x7 v_22 bL bY jY sW H locs ls hp hP hD hS (lv_sub hl [1, 2, 3, 4, 5, 6, 7, 0] rfl)
def ws_X10_autumn_129 (post : Int32 -> Int32 -> Int32 -> Int32 -> (Nat -> Int32) -> Prop) (K55 : Int32 -> Int32 -> Int32 -> Int32 -> Int32 -> Int32 -> Int32 -> Int32 -> Int32 -> Int32 -> (Nat -> Int32) -> Prop) (K91 : Int32 -> Int32 -> Int32 -> Int32 -> Int32 -> Int32 -> Int32 -> Int32 -> Int32 -> Int32 -> Int32 -> Int32 -> Int32 -> (Nat -> Int32) -> Prop) (bT : Int32) (qG pW qR : Nat -> Int32) (x2 x3 x4 x5 x6 x7 x8 x9 x10 x11 bL bY jY : Int32) (sW : Nat -> Int32) : Prop := ∀ v_24 : Int32, v_24 = x11 + 1 -> K91 x2 x3 x4 x5 x6 x7 x8 x9 x10 v_24 bL bY jY sW
set_option maxHeartbeats 4000000 in
set_option maxRecDepth 100000 in
theorem ks_X10_autumn_129 (C0 : gc aBk (some .int) 12 zX (dC, dI) (tyl cI cC cZ cB cJ) A p s m args meth c) {K55 : Int32 -> Int32 -> Int32 -> Int32 -> Int32 -> Int32 -> Int32 -> Int32 -> Int32 -> Int32 -> (Nat -> Int32) -> Prop} {K91 : Int32 -> Int32 -> Int32 -> Int32 -> Int32 -> Int32 -> Int32 -> Int32 -> Int32 -> Int32 -> Int32 -> Int32 -> Int32 -> (Nat -> Int32) -> Prop} (hK55 : ∀ (x2 : Int32) (x3 : Int32) (x4 : Int32) (x5 : Int32) (x6 : Int32) (x7 : Int32) (x8 : Int32) (bL : Int32) (bY : Int32) (jY : Int32) (sW : Nat -> Int32) (H : Heap) (locs : List Loc) (ls : Array Slot), K55 x2 x3 x4 x5 x6 x7 x8 bL bY jY sW -> va_P (dC, dI) classes (aDS cI cC cZ cB cJ a_m nY sJ eG iY lY jR jW jZ jO oQ bR aY jQ gY iJ mQ lJ jA bG mK jB mW mJ eJ dG bT aG jC bL bY jD mLn oF rP dQ aJ aB bW bZ aR aE bI aW bU fJ dO bM bQ bO jY oX qG pW qR sW) H -> va_D A (aDS cI cC cZ cB cJ a_m nY sJ eG iY lY jR jW jZ jO oQ bR aY jQ gY iJ mQ lJ jA bG mK jB mW mJ eJ dG bT aG jC bL bY jD mLn oF rP dQ aJ aB bW bZ aR aE bI aW bU fJ dO bM bQ bO jY oX qG pW qR sW) -> va_S A s.heap H locs -> lv_has ls 12 [(0, .ref a_m), (2, .int x2), (3, .int x3), (4, .int x4), (5, .int x5), (6, .int x6), (7, .int x7), (8, .int x8)] -> W p l e aX4 s m args below meth c H locs 0 0 (MQ below (aYb dC dI cI cC cZ cB cJ A a_m nY sJ eG iY lY jR jW jZ jO oQ bR aY jQ gY iJ mQ lJ jA bG mK jB mW mJ eJ dG bT aG jC jD mLn oF rP dQ aJ aB bW bZ aR aE bI aW bU fJ dO bM bQ bO oX qG pW qR post) args s 0 0 A) (F0 m 55 ls [])) (hK91 : ∀ (x2 : Int32) (x3 : Int32) (x4 : Int32) (x5 : Int32) (x6 : Int32) (x7 : Int32) (x8 : Int32) (x9 : Int32) (x10 : Int32) (x11 : Int32) (bL : Int32) (bY : Int32) (jY : Int32) (sW : Nat -> Int32) (H : Heap) (locs : List Loc) (ls : Array Slot), K91 x2 x3 x4 x5 x6 x7 x8 x9 x10 x11 bL bY jY sW -> va_P (dC, dI) classes (aDS cI cC cZ cB cJ a_m nY sJ eG iY lY jR jW jZ jO oQ bR aY jQ gY iJ mQ lJ jA bG mK jB mW mJ eJ dG bT aG jC bL bY jD mLn oF rP dQ aJ aB bW bZ aR aE bI aW bU fJ dO bM bQ bO jY oX qG pW qR sW) H -> va_D A (aDS cI cC cZ cB cJ a_m nY sJ eG iY lY jR jW jZ jO oQ bR aY jQ gY iJ mQ lJ jA bG mK jB mW mJ eJ dG bT aG jC bL bY jD mLn oF rP dQ aJ aB bW bZ aR aE bI aW bU fJ dO bM bQ bO jY oX qG pW qR sW) -> va_S A s.heap H locs -> lv_has ls 12 [(0, .ref a_m), (2, .int x2), (3, .int x3), (4, .int x4), (5, .int x5), (6, .int x6), (7, .int x7), (8, .int x8), (9, .int x9), (10, .int x10), (11, .int x11)] -> W p l e aX4 s m args below meth c H locs 0 0 (MQ below (aYb dC dI cI cC cZ cB cJ A a_m nY sJ eG iY lY jR jW jZ jO oQ bR aY jQ gY iJ mQ lJ jA bG mK jB mW mJ eJ dG bT aG jC jD mLn oF rP dQ aJ aB bW bZ aR aE bI aW bU fJ dO bM bQ bO oX qG pW qR post) args s 0 0 A) (F0 m 91 ls [])) : ∀ (x2 x3 x4 x5 x6 x7 x8 x9 x10 x11 bL bY jY : Int32) (sW : Nat -> Int32) (H : Heap) (locs : List Loc) (ls : Array Slot), (ws_X10_autumn_129 post K55 K91 bT qG pW qR) x2 x3 x4 x5 x6 x7 x8 x9 x10 x11 bL bY jY sW -> va_P (dC, dI) classes (aDS cI cC cZ cB cJ a_m nY sJ eG iY lY jR jW jZ jO oQ bR aY jQ gY iJ mQ lJ jA bG mK jB mW mJ eJ dG bT aG jC bL bY jD mLn oF rP dQ aJ aB bW bZ aR aE bI aW bU fJ dO bM bQ bO jY oX qG pW qR sW) H -> va_D A (aDS cI cC cZ cB cJ a_m nY sJ eG iY lY jR jW jZ jO oQ bR aY jQ gY iJ mQ lJ jA bG mK jB mW mJ eJ dG bT aG jC bL bY jD mLn oF rP dQ aJ aB bW bZ aR aE bI aW bU fJ dO bM bQ bO jY oX qG pW qR sW) -> va_S A s.heap H locs -> lv_has ls 12 [(0, .ref a_m), (2, .int x2), (3, .int x3), (4, .int x4), (5, .int x5), (6, .int x6), (7, .int x7), (8, .int x8), (9, .int x9), (10, .int x10), (11, .int x11)] -> W p l e aX4 s m args below meth c H locs 0 0 (MQ below (aYb dC dI cI cC cZ cB cJ A a_m nY sJ eG iY lY jR jW jZ jO oQ bR aY jQ gY iJ mQ lJ jA bG mK jB mW mJ eJ dG bT aG jC jD mLn oF rP dQ aJ aB bW bZ aR aE bI aW bU fJ dO bM bQ bO oX qG pW qR post) args s 0 0 A) (F0 m 129 ls []) := by
  obtain ⟨hx, hb, hr, hml, hown, hts, hlocks, hA, hK, hN, tL, tM, hZL, hTL, hZM, hTM, hZX⟩ := id C0
  intro x2 x3 x4 x5 x6 x7 x8 x9 x10 x11 bL bY jY sW H locs ls hp hP hD hS hl
  unfold ws_X10_autumn_129 at hp
  obtain ⟨v_24, ev_24⟩ : ∃ y : Int32, y = x11 + 1 := ⟨_, rfl⟩
  refine lv_iinc (v := v_24) (lv' := [(11, .int v_24), (0, .ref a_m), (2, .int x2), (3, .int x3), (4, .int x4), (5, .int x5), (6, .int x6), (7, .int x7), (8, .int x8), (9, .int x9), (10, .int x10)]) hx hb aNh.2.2.2.2.2.2.2.1 hl (k := 10) rfl (by rw [ev_24]; rfl) (by decide) rfl (fun ls hl => ?_)
  have hp := hp v_24 ev_24
  refine lv_goto (tgt := 91) hx hb aNh.2.2.2.2.2.2.2.2.1 (by decide) ?_
  exact hK91 x2 x3 x4 x5 x6 x7 x8 x9 x10 v_24 bL bY jY sW H locs ls hp hP hD hS (lv_sub hl [1, 2, 3, 4, 5, 6, 7, 8, 9, 10, 0] rfl)
def ws_X10_autumn_91 (post : Int32 -> Int32 -> Int32 -> Int32 -> (Nat -> Int32) -> Prop) (K55 : Int32 -> Int32 -> Int32 -> Int32 -> Int32 -> Int32 -> Int32 -> Int32 -> Int32 -> Int32 -> (Nat -> Int32) -> Prop) (next : Int32 -> Int32 -> Int32 -> Int32 -> Int32 -> Int32 -> Int32 -> Int32 -> Int32 -> Int32 -> Int32 -> Int32 -> Int32 -> (Nat -> Int32) -> Prop) (bT : Int32) (qG pW qR : Nat -> Int32) (x2 x3 x4 x5 x6 x7 x8 x9 x10 x11 bL bY jY : Int32) (sW : Nat -> Int32) : Prop := (bT <= x11 -> ∀ v_18 : Int32, v_18 = x4 &&& (x10 ^^^ (-1)) -> ∀ v_19 : Int32, v_19 = x5 ||| x10 -> aBb (fun r_20 => (x6 < r_20 -> aBb (fun r_21 => ws_X10_autumn_175 post K55 bT qG pW qR x2 x3 v_18 v_19 r_21 x8 x8 bL bY jY sW) x10) /\ (¬ x6 < r_20 -> ws_X10_autumn_175 post K55 bT qG pW qR x2 x3 v_18 v_19 x6 x7 x8 bL bY jY sW)) x10) /\ (¬ bT <= x11 -> aKc (fun r_23 => (r_23 = 0 -> ws_X10_autumn_129 post K55 next bT qG pW qR x2 x3 x4 x5 x6 x7 x8 x9 x10 x11 bL bY jY sW) /\ (¬ r_23 = 0 -> wp_X10_draw (fun r_25 m_drawn_26 => (x3 <= r_25 -> ws_X10_autumn_129 post K55 next bT qG pW qR x2 x3 x4 x5 x6 x7 x8 x9 x10 x11 bL bY m_drawn_26 sW) /\ (¬ x3 <= r_25 -> ∀ v_27 : Int32, v_27 = x10 ||| (1 <<< (x11 &&& 31)) -> ws_X10_autumn_129 post K55 next bT qG pW qR x2 x3 x4 x5 x6 x7 x8 x9 v_27 x11 bL bY m_drawn_26 sW)) 10 jY)) x9 x11)
noncomputable def wb_X10_autumn_91 (post : Int32 -> Int32 -> Int32 -> Int32 -> (Nat -> Int32) -> Prop) (K55 : Int32 -> Int32 -> Int32 -> Int32 -> Int32 -> Int32 -> Int32 -> Int32 -> Int32 -> Int32 -> (Nat -> Int32) -> Prop) (bT : Int32) (qG pW qR : Nat -> Int32) : Nat -> Int32 -> Int32 -> Int32 -> Int32 -> Int32 -> Int32 -> Int32 -> Int32 -> Int32 -> Int32 -> Int32 -> Int32 -> Int32 -> (Nat -> Int32) -> Prop := fun n => Nat.rec (motive := fun _ => Int32 -> Int32 -> Int32 -> Int32 -> Int32 -> Int32 -> Int32 -> Int32 -> Int32 -> Int32 -> Int32 -> Int32 -> Int32 -> (Nat -> Int32) -> Prop) (fun _ _ _ _ _ _ _ _ _ _ _ _ _ _ => False) (fun _ ih => ws_X10_autumn_91 post K55 ih bT qG pW qR) n
set_option maxHeartbeats 4000000 in
set_option maxRecDepth 100000 in
theorem ks_X10_autumn_91 (C0 : gc aBk (some .int) 12 zX (dC, dI) (tyl cI cC cZ cB cJ) A p s m args meth c) {K55 : Int32 -> Int32 -> Int32 -> Int32 -> Int32 -> Int32 -> Int32 -> Int32 -> Int32 -> Int32 -> (Nat -> Int32) -> Prop} {next : Int32 -> Int32 -> Int32 -> Int32 -> Int32 -> Int32 -> Int32 -> Int32 -> Int32 -> Int32 -> Int32 -> Int32 -> Int32 -> (Nat -> Int32) -> Prop} (hK55 : ∀ (x2 : Int32) (x3 : Int32) (x4 : Int32) (x5 : Int32) (x6 : Int32) (x7 : Int32) (x8 : Int32) (bL : Int32) (bY : Int32) (jY : Int32) (sW : Nat -> Int32) (H : Heap) (locs : List Loc) (ls : Array Slot), K55 x2 x3 x4 x5 x6 x7 x8 bL bY jY sW -> va_P (dC, dI) classes (aDS cI cC cZ cB cJ a_m nY sJ eG iY lY jR jW jZ jO oQ bR aY jQ gY iJ mQ lJ jA bG mK jB mW mJ eJ dG bT aG jC bL bY jD mLn oF rP dQ aJ aB bW bZ aR aE bI aW bU fJ dO bM bQ bO jY oX qG pW qR sW) H -> va_D A (aDS cI cC cZ cB cJ a_m nY sJ eG iY lY jR jW jZ jO oQ bR aY jQ gY iJ mQ lJ jA bG mK jB mW mJ eJ dG bT aG jC bL bY jD mLn oF rP dQ aJ aB bW bZ aR aE bI aW bU fJ dO bM bQ bO jY oX qG pW qR sW) -> va_S A s.heap H locs -> lv_has ls 12 [(0, .ref a_m), (2, .int x2), (3, .int x3), (4, .int x4), (5, .int x5), (6, .int x6), (7, .int x7), (8, .int x8)] -> W p l e aX4 s m args below meth c H locs 0 0 (MQ below (aYb dC dI cI cC cZ cB cJ A a_m nY sJ eG iY lY jR jW jZ jO oQ bR aY jQ gY iJ mQ lJ jA bG mK jB mW mJ eJ dG bT aG jC jD mLn oF rP dQ aJ aB bW bZ aR aE bI aW bU fJ dO bM bQ bO oX qG pW qR post) args s 0 0 A) (F0 m 55 ls [])) (hKn : ∀ (x2 : Int32) (x3 : Int32) (x4 : Int32) (x5 : Int32) (x6 : Int32) (x7 : Int32) (x8 : Int32) (x9 : Int32) (x10 : Int32) (x11 : Int32) (bL : Int32) (bY : Int32) (jY : Int32) (sW : Nat -> Int32) (H : Heap) (locs : List Loc) (ls : Array Slot), next x2 x3 x4 x5 x6 x7 x8 x9 x10 x11 bL bY jY sW -> va_P (dC, dI) classes (aDS cI cC cZ cB cJ a_m nY sJ eG iY lY jR jW jZ jO oQ bR aY jQ gY iJ mQ lJ jA bG mK jB mW mJ eJ dG bT aG jC bL bY jD mLn oF rP dQ aJ aB bW bZ aR aE bI aW bU fJ dO bM bQ bO jY oX qG pW qR sW) H -> va_D A (aDS cI cC cZ cB cJ a_m nY sJ eG iY lY jR jW jZ jO oQ bR aY jQ gY iJ mQ lJ jA bG mK jB mW mJ eJ dG bT aG jC bL bY jD mLn oF rP dQ aJ aB bW bZ aR aE bI aW bU fJ dO bM bQ bO jY oX qG pW qR sW) -> va_S A s.heap H locs -> lv_has ls 12 [(0, .ref a_m), (2, .int x2), (3, .int x3), (4, .int x4), (5, .int x5), (6, .int x6), (7, .int x7), (8, .int x8), (9, .int x9), (10, .int x10), (11, .int x11)] -> W p l e aX4 s m args below meth c H locs 0 0 (MQ below (aYb dC dI cI cC cZ cB cJ A a_m nY sJ eG iY lY jR jW jZ jO oQ bR aY jQ gY iJ mQ lJ jA bG mK jB mW mJ eJ dG bT aG jC jD mLn oF rP dQ aJ aB bW bZ aR aE bI aW bU fJ dO bM bQ bO oX qG pW qR post) args s 0 0 A) (F0 m 91 ls [])) : ∀ (x2 x3 x4 x5 x6 x7 x8 x9 x10 x11 bL bY jY : Int32) (sW : Nat -> Int32) (H : Heap) (locs : List Loc) (ls : Array Slot), (ws_X10_autumn_91 post K55 next bT qG pW qR) x2 x3 x4 x5 x6 x7 x8 x9 x10 x11 bL bY jY sW -> va_P (dC, dI) classes (aDS cI cC cZ cB cJ a_m nY sJ eG iY lY jR jW jZ jO oQ bR aY jQ gY iJ mQ lJ jA bG mK jB mW mJ eJ dG bT aG jC bL bY jD mLn oF rP dQ aJ aB bW bZ aR aE bI aW bU fJ dO bM bQ bO jY oX qG pW qR sW) H -> va_D A (aDS cI cC cZ cB cJ a_m nY sJ eG iY lY jR jW jZ jO oQ bR aY jQ gY iJ mQ lJ jA bG mK jB mW mJ eJ dG bT aG jC bL bY jD mLn oF rP dQ aJ aB bW bZ aR aE bI aW bU fJ dO bM bQ bO jY oX qG pW qR sW) -> va_S A s.heap H locs -> lv_has ls 12 [(0, .ref a_m), (2, .int x2), (3, .int x3), (4, .int x4), (5, .int x5), (6, .int x6), (7, .int x7), (8, .int x8), (9, .int x9), (10, .int x10), (11, .int x11)] -> W p l e aX4 s m args below meth c H locs 0 0 (MQ below (aYb dC dI cI cC cZ cB cJ A a_m nY sJ eG iY lY jR jW jZ jO oQ bR aY jQ gY iJ mQ lJ jA bG mK jB mW mJ eJ dG bT aG jC jD mLn oF rP dQ aJ aB bW bZ aR aE bI aW bU fJ dO bM bQ bO oX qG pW qR post) args s 0 0 A) (F0 m 91 ls []) := by
  obtain ⟨hx, hb, hr, hml, hown, hts, hlocks, hA, hK, hN, tL, tM, hZL, hTL, hZM, hTM, hZX⟩ := id C0
  intro x2 x3 x4 x5 x6 x7 x8 x9 x10 x11 bL bY jY sW H locs ls hp hP hD hS hl
  unfold ws_X10_autumn_91 at hp
  refine lv_iload hx hb aPw.2.2.2.2.1 (lv_at hl 10 rfl) ?_
  refine lv_aload_n hx hb aPw.2.2.2.2.2.1 rfl (lv_at hl 0 rfl) ?_
  refine va_get (D := (dC, dI)) (ci := 10) (v := .int bT) (C := zX) (T := aBe) (N := 51) hx hb hts aAt hown hK hP 0 rfl rfl 1 (lbz rfl) (hts _ q_677) (fun _ h9 => h9) rfl aPw.2.2.2.2.2.2.1 ?_
  refine lv_icmp_ge (tgt := 135) hx hb aPw.2.2.2.2.2.2.2.1 (by decide) (fun hc => ?_) (fun hc => ?_)
  · have hp := hp.1 hc
    refine lv_iload hx hb aNh.2.2.2.2.2.2.2.2.2.1 (lv_at hl 3 rfl) ?_
    refine lv_iload hx hb aNh.2.2.2.2.2.2.2.2.2.2.1 (lv_at hl 9 rfl) ?_
    refine lv_iconst (v := (-1)) hx hb aNh.2.2.2.2.2.2.2.2.2.2.2.1 aEJ ?_
    refine lv_ixor hx hb aNh.2.2.2.2.2.2.2.2.2.2.2.2.1 ?_
    refine lv_iand hx hb aNh.2.2.2.2.2.2.2.2.2.2.2.2.2.1 ?_
    refine lv_topi (fun v_18 ev_18 => ?_)
    have hp := hp v_18 ev_18
    refine lv_istore (lv' := [(4, .int v_18), (0, .ref a_m), (2, .int x2), (3, .int x3), (5, .int x5), (6, .int x6), (7, .int x7), (8, .int x8), (9, .int x9), (10, .int x10), (11, .int x11)]) hx hb aNh.2.2.2.2.2.2.2.2.2.2.2.2.2.2.1 hl (by decide) rfl (fun ls hl => ?_)
    refine lv_iload hx hb aNh.2.2.2.2.2.2.2.2.2.2.2.2.2.2.2 (lv_at hl 4 rfl) ?_
    refine lv_iload hx hb aNi.1 (lv_at hl 9 rfl) ?_
    refine lv_ior hx hb aNi.2.1 ?_
    refine lv_topi (fun v_19 ev_19 => ?_)
    have hp := hp v_19 ev_19
    refine lv_istore (lv' := [(5, .int v_19), (4, .int v_18), (0, .ref a_m), (2, .int x2), (3, .int x3), (6, .int x6), (7, .int x7), (8, .int x8), (9, .int x9), (10, .int x10), (11, .int x11)]) hx hb aNi.2.2.1 hl (by decide) rfl (fun ls hl => ?_)
    refine lv_iload hx hb aNi.2.2.2.1 (lv_at hl 9 rfl) ?_
    have hm := mgk (wc := (aBh cI cC cZ cB cJ)) hP mk_23 5 rfl rfl rfl
    refine yW hP hD hS hA (yS mk_23) (aAi mk_23) hm.1 hm.2 (aAk _) (zW _) (aDn (As := [.int x10]) (rest := []) C0 hP hD hS (yS mk_23) hm.1 (aAl _) (aBv l dC dI cI cC cZ cB cJ H.size x10 _ hp) q_320 q_803 q_322 q_321 aBw rfl rfl ⟨lbz rfl, lbz rfl⟩ rfl rfl hl.1 rfl (lv_room (lbz rfl)) aNi.2.2.2.2.1 ⟨Nat.zero_le _, Nat.zero_le _⟩) (fun r_20 u H locs hp hP hD hS => ?_)
    have hPD := PDm (ws' := (aDS cI cC cZ cB cJ a_m nY sJ eG iY lY jR jW jZ jO oQ bR aY jQ gY iJ mQ lJ jA bG mK jB mW mJ eJ dG bT aG jC bL bY jD mLn oF rP dQ aJ aB bW bZ aR aE bI aW bU fJ dO bM bQ bO jY oX qG pW qR sW)) hP hD 5 rfl rfl rfl
    have hP := hPD.1
    have hD := hPD.2
    refine lv_iload hx hb aNi.2.2.2.2.2.1 (lv_at hl 5 rfl) ?_
    refine lv_icmp_gt (tgt := 164) hx hb aNi.2.2.2.2.2.2.1 (by decide) (fun hc => ?_) (fun hc => ?_)
    · have hp := hp.1 hc
      refine lv_iload hx hb aNi.2.2.2.2.2.2.2.2.1 (lv_at hl 9 rfl) ?_
      have hm := mgk (wc := (aBh cI cC cZ cB cJ)) hP mk_23 5 rfl rfl rfl
      refine yW hP hD hS hA (yS mk_23) (aAi mk_23) hm.1 hm.2 (aAk _) (zW _) (aDn (As := [.int x10]) (rest := []) C0 hP hD hS (yS mk_23) hm.1 (aAl _) (aBv l dC dI cI cC cZ cB cJ H.size x10 _ hp) q_320 q_803 q_322 q_321 aBw rfl rfl ⟨lbz rfl, lbz rfl⟩ rfl rfl hl.1 rfl (lv_room (lbz rfl)) aNi.2.2.2.2.2.2.2.2.2.1 ⟨Nat.zero_le _, Nat.zero_le _⟩) (fun r_21 u H locs hp hP hD hS => ?_)
      have hPD := PDm (ws' := (aDS cI cC cZ cB cJ a_m nY sJ eG iY lY jR jW jZ jO oQ bR aY jQ gY iJ mQ lJ jA bG mK jB mW mJ eJ dG bT aG jC bL bY jD mLn oF rP dQ aJ aB bW bZ aR aE bI aW bU fJ dO bM bQ bO jY oX qG pW qR sW)) hP hD 5 rfl rfl rfl
      have hP := hPD.1
      have hD := hPD.2
      refine lv_istore (lv' := [(6, .int r_21), (5, .int v_19), (4, .int v_18), (0, .ref a_m), (2, .int x2), (3, .int x3), (7, .int x7), (8, .int x8), (9, .int x9), (10, .int x10), (11, .int x11)]) hx hb aNi.2.2.2.2.2.2.2.2.2.2.1 hl (by decide) rfl (fun ls hl => ?_)
      refine lv_iload hx hb aNi.2.2.2.2.2.2.2.2.2.2.2.1 (lv_at hl 7 rfl) ?_
      refine lv_istore (lv' := [(7, .int x8), (6, .int r_21), (5, .int v_19), (4, .int v_18), (0, .ref a_m), (2, .int x2), (3, .int x3), (8, .int x8), (9, .int x9), (10, .int x10), (11, .int x11)]) hx hb aNi.2.2.2.2.2.2.2.2.2.2.2.2.1 hl (by decide) rfl (fun ls hl => ?_)
      exact ks_X10_autumn_175 C0 hK55 x2 x3 v_18 v_19 r_21 x8 x8 bL bY jY sW H locs ls hp hP hD hS (lv_sub hl [4, 5, 6, 3, 2, 1, 0, 7] rfl)
    · have hp := hp.2 hc
      refine lv_goto (tgt := 175) hx hb aNi.2.2.2.2.2.2.2.1 (by decide) ?_
      exact ks_X10_autumn_175 C0 hK55 x2 x3 v_18 v_19 x6 x7 x8 bL bY jY sW H locs ls hp hP hD hS (lv_sub hl [2, 3, 4, 1, 0, 5, 6, 7] rfl)
  · have hp := hp.2 hc
    refine lv_iload hx hb aPw.2.2.2.2.2.2.2.2.1 (lv_at hl 8 rfl) ?_
    refine lv_iload hx hb aPw.2.2.2.2.2.2.2.2.2.1 (lv_at hl 10 rfl) ?_
    have hm := mgk (wc := (aLW cI cC cZ cB cJ)) hP mk_23 5 rfl rfl rfl
    refine yW hP hD hS hA (yS mk_23) (aAi mk_23) hm.1 hm.2 (aAk _) (zW _) (aDn (As := [.int x9, .int x11]) (rest := []) C0 hP hD hS (yS mk_23) hm.1 (aAl _) (aUP l dC dI cI cC cZ cB cJ H.size x9 x11 _ hp) q_734 q_736 q_735 aBL aUT rfl rfl ⟨lbz rfl, lbz rfl⟩ rfl rfl hl.1 rfl (lv_room (lbz rfl)) aPw.2.2.2.2.2.2.2.2.2.2.1 ⟨Nat.zero_le _, Nat.zero_le _⟩) (fun r_23 u H locs hp hP hD hS => ?_)
    have hPD := PDm (ws' := (aDS cI cC cZ cB cJ a_m nY sJ eG iY lY jR jW jZ jO oQ bR aY jQ gY iJ mQ lJ jA bG mK jB mW mJ eJ dG bT aG jC bL bY jD mLn oF rP dQ aJ aB bW bZ aR aE bI aW bU fJ dO bM bQ bO jY oX qG pW qR sW)) hP hD 5 rfl rfl rfl
    have hP := hPD.1
    have hD := hPD.2
    refine lv_if_eq (tgt := 129) hx hb aPw.2.2.2.2.2.2.2.2.2.2.2.1 (by decide) (fun hc => ?_) (fun hc => ?_)
    · have hp := hp.1 hc
      exact ks_X10_autumn_129 C0 hK55 hKn x2 x3 x4 x5 x6 x7 x8 x9 x10 x11 bL bY jY sW H locs ls hp hP hD hS (lv_sub hl [0, 1, 2, 3, 4, 5, 6, 7, 8, 9, 10] rfl)
    · have hp := hp.2 hc
      refine lv_aload_n hx hb aPw.2.2.2.2.2.2.2.2.2.2.2.2.1 rfl (lv_at hl 0 rfl) ?_
      refine lv_bipush (v := 10) hx hb aPw.2.2.2.2.2.2.2.2.2.2.2.2.2.1 bp_10 ?_
      have hm := mgk (wc := (wd_X10_draw cI cC cZ cB cJ a_m nY sJ eG iY lY jR jW jZ jO oQ bR aY jQ gY iJ mQ lJ jA bG mK jB mW mJ eJ dG bT aG jC bL bY jD mLn oF rP dQ aJ aB bW bZ aR aE bI aW bU fJ dO bM bQ bO jY oX)) hP mk_16 5 rfl rfl rfl
      refine yW hP hD hS hA (yS mk_16) (aAi mk_16) hm.1 hm.2 (aAk _) (zW _) (zF (As := [.int 10]) (rest := []) C0 hP hD hS (yS mk_16) hm.1 (aAl _) 0 10 rfl rfl (c_X10_draw l dC dI cI cC cZ cB cJ a_m nY sJ eG iY lY jR jW jZ jO oQ bR aY jQ gY iJ mQ lJ jA bG mK jB mW mJ eJ dG H.size 10 bT aG jC bL bY jD mLn oF rP dQ aJ aB bW bZ aR aE bI aW bU fJ dO bM bQ bO jY oX _ hp) q_961 q_964 q_962 q_963 aBL h_X10_draw rfl rfl ⟨lbz rfl, lbz rfl⟩ rfl rfl hl.1 rfl (lv_room (lbz rfl)) aPw.2.2.2.2.2.2.2.2.2.2.2.2.2.2.1 ⟨Nat.zero_le _, Nat.zero_le _⟩) (fun r_25 u H locs hp hP hD hS => ?_)
      obtain ⟨m_drawn_26, rfl⟩ : ∃ z, z = u := ⟨_, rfl⟩
      have hPD := PDm (ws' := (aDS cI cC cZ cB cJ a_m nY sJ eG iY lY jR jW jZ jO oQ bR aY jQ gY iJ mQ lJ jA bG mK jB mW mJ eJ dG bT aG jC bL bY jD mLn oF rP dQ aJ aB bW bZ aR aE bI aW bU fJ dO bM bQ bO m_drawn_26 oX qG pW qR sW)) hP hD 5 rfl rfl rfl
      have hP := hPD.1
      have hD := hPD.2
      refine lv_iload_n hx hb aPw.2.2.2.2.2.2.2.2.2.2.2.2.2.2.2 rfl (lv_at hl 2 rfl) ?_
      refine lv_icmp_ge (tgt := 129) hx hb aNh.1 (by decide) (fun hc => ?_) (fun hc => ?_)
      · have hp := hp.1 hc
        exact ks_X10_autumn_129 C0 hK55 hKn x2 x3 x4 x5 x6 x7 x8 x9 x10 x11 bL bY m_drawn_26 sW H locs ls hp hP hD hS (lv_sub hl [0, 1, 2, 3, 4, 5, 6, 7, 8, 9, 10] rfl)
      · have hp := hp.2 hc
        refine lv_iload hx hb aNh.2.1 (lv_at hl 9 rfl) ?_
        refine lv_iconst (v := 1) hx hb aNh.2.2.1 aDx ?_
        refine lv_iload hx hb aNh.2.2.2.1 (lv_at hl 10 rfl) ?_
        refine lv_ishl hx hb aNh.2.2.2.2.1 ?_
        refine lv_ior hx hb aNh.2.2.2.2.2.1 ?_
        refine lv_topi (fun v_27 ev_27 => ?_)
        have hp := hp v_27 ev_27
        refine lv_istore (lv' := [(10, .int v_27), (0, .ref a_m), (2, .int x2), (3, .int x3), (4, .int x4), (5, .int x5), (6, .int x6), (7, .int x7), (8, .int x8), (9, .int x9), (11, .int x11)]) hx hb aNh.2.2.2.2.2.2.1 hl (by decide) rfl (fun ls hl => ?_)
        exact ks_X10_autumn_129 C0 hK55 hKn x2 x3 x4 x5 x6 x7 x8 x9 v_27 x11 bL bY m_drawn_26 sW H locs ls hp hP hD hS (lv_sub hl [1, 2, 3, 4, 5, 6, 7, 8, 9, 0, 10] rfl)
set_option maxHeartbeats 4000000 in
set_option maxRecDepth 100000 in
theorem kb_X10_autumn_91 (C0 : gc aBk (some .int) 12 zX (dC, dI) (tyl cI cC cZ cB cJ) A p s m args meth c) {K55 : Int32 -> Int32 -> Int32 -> Int32 -> Int32 -> Int32 -> Int32 -> Int32 -> Int32 -> Int32 -> (Nat -> Int32) -> Prop} (hK55 : ∀ (x2 : Int32) (x3 : Int32) (x4 : Int32) (x5 : Int32) (x6 : Int32) (x7 : Int32) (x8 : Int32) (bL : Int32) (bY : Int32) (jY : Int32) (sW : Nat -> Int32) (H : Heap) (locs : List Loc) (ls : Array Slot), K55 x2 x3 x4 x5 x6 x7 x8 bL bY jY sW -> va_P (dC, dI) classes (aDS cI cC cZ cB cJ a_m nY sJ eG iY lY jR jW jZ jO oQ bR aY jQ gY iJ mQ lJ jA bG mK jB mW mJ eJ dG bT aG jC bL bY jD mLn oF rP dQ aJ aB bW bZ aR aE bI aW bU fJ dO bM bQ bO jY oX qG pW qR sW) H -> va_D A (aDS cI cC cZ cB cJ a_m nY sJ eG iY lY jR jW jZ jO oQ bR aY jQ gY iJ mQ lJ jA bG mK jB mW mJ eJ dG bT aG jC bL bY jD mLn oF rP dQ aJ aB bW bZ aR aE bI aW bU fJ dO bM bQ bO jY oX qG pW qR sW) -> va_S A s.heap H locs -> lv_has ls 12 [(0, .ref a_m), (2, .int x2), (3, .int x3), (4, .int x4), (5, .int x5), (6, .int x6), (7, .int x7), (8, .int x8)] -> W p l e aX4 s m args below meth c H locs 0 0 (MQ below (aYb dC dI cI cC cZ cB cJ A a_m nY sJ eG iY lY jR jW jZ jO oQ bR aY jQ gY iJ mQ lJ jA bG mK jB mW mJ eJ dG bT aG jC jD mLn oF rP dQ aJ aB bW bZ aR aE bI aW bU fJ dO bM bQ bO oX qG pW qR post) args s 0 0 A) (F0 m 55 ls [])) : ∀ (n : Nat), ∀ (x2 x3 x4 x5 x6 x7 x8 x9 x10 x11 bL bY jY : Int32) (sW : Nat -> Int32) (H : Heap) (locs : List Loc) (ls : Array Slot), (wb_X10_autumn_91 post K55 bT qG pW qR n) x2 x3 x4 x5 x6 x7 x8 x9 x10 x11 bL bY jY sW -> va_P (dC, dI) classes (aDS cI cC cZ cB cJ a_m nY sJ eG iY lY jR jW jZ jO oQ bR aY jQ gY iJ mQ lJ jA bG mK jB mW mJ eJ dG bT aG jC bL bY jD mLn oF rP dQ aJ aB bW bZ aR aE bI aW bU fJ dO bM bQ bO jY oX qG pW qR sW) H -> va_D A (aDS cI cC cZ cB cJ a_m nY sJ eG iY lY jR jW jZ jO oQ bR aY jQ gY iJ mQ lJ jA bG mK jB mW mJ eJ dG bT aG jC bL bY jD mLn oF rP dQ aJ aB bW bZ aR aE bI aW bU fJ dO bM bQ bO jY oX qG pW qR sW) -> va_S A s.heap H locs -> lv_has ls 12 [(0, .ref a_m), (2, .int x2), (3, .int x3), (4, .int x4), (5, .int x5), (6, .int x6), (7, .int x7), (8, .int x8), (9, .int x9), (10, .int x10), (11, .int x11)] -> W p l e aX4 s m args below meth c H locs 0 0 (MQ below (aYb dC dI cI cC cZ cB cJ A a_m nY sJ eG iY lY jR jW jZ jO oQ bR aY jQ gY iJ mQ lJ jA bG mK jB mW mJ eJ dG bT aG jC jD mLn oF rP dQ aJ aB bW bZ aR aE bI aW bU fJ dO bM bQ bO oX qG pW qR post) args s 0 0 A) (F0 m 91 ls []) := by
  intro n
  induction n with
  | zero =>
    intro x2 x3 x4 x5 x6 x7 x8 x9 x10 x11 bL bY jY sW H locs ls hp
    exact False.elim hp
  | succ n ih =>
    intro x2 x3 x4 x5 x6 x7 x8 x9 x10 x11 bL bY jY sW H locs ls hp
    exact ks_X10_autumn_91 C0 hK55 ih x2 x3 x4 x5 x6 x7 x8 x9 x10 x11 bL bY jY sW H locs ls hp
def ws_X10_autumn_55 (post : Int32 -> Int32 -> Int32 -> Int32 -> (Nat -> Int32) -> Prop) (next : Int32 -> Int32 -> Int32 -> Int32 -> Int32 -> Int32 -> Int32 -> Int32 -> Int32 -> Int32 -> (Nat -> Int32) -> Prop) (bT : Int32) (qG pW qR : Nat -> Int32) (x2 x3 x4 x5 x6 x7 x8 bL bY jY : Int32) (sW : Nat -> Int32) : Prop := (x2 < x8 -> aDs (fun aMo m_row_5 => ∀ v_6 : Int32, v_6 = qG (16 : Int32).toNatClampNeg -> aMp (fun r_7 => aDs (fun aG6 aUs => aDs (fun aDZ aHj => aBb (fun r_12 => post r_12 aDZ bY jY aHj) x5) x7 aG6 aUs) r_7 aMo m_row_5) x5 v_6 bT pW) x5 0 sW) /\ (¬ x2 < x8 -> ∀ aIQ : Int32, aIQ = qG (19 : Int32).toNatClampNeg -> ∀ aGC : Int32, aGC = aIQ + x8 -> ∀ aHe : Int32, aHe = (if aGC < 9 then aGC else 9) -> aLg (fun r_16 => ∀ v_17 : Int32, v_17 = x4 &&& r_16 -> ∃ n : Nat, wb_X10_autumn_91 post next bT qG pW qR n x2 x3 x4 x5 x6 x7 x8 v_17 0 0 bL bY jY sW) aHe bT qR)
noncomputable def wb_X10_autumn_55 (post : Int32 -> Int32 -> Int32 -> Int32 -> (Nat -> Int32) -> Prop) (bT : Int32) (qG pW qR : Nat -> Int32) : Nat -> Int32 -> Int32 -> Int32 -> Int32 -> Int32 -> Int32 -> Int32 -> Int32 -> Int32 -> Int32 -> (Nat -> Int32) -> Prop := fun n => Nat.rec (motive := fun _ => Int32 -> Int32 -> Int32 -> Int32 -> Int32 -> Int32 -> Int32 -> Int32 -> Int32 -> Int32 -> (Nat -> Int32) -> Prop) (fun _ _ _ _ _ _ _ _ _ _ _ => False) (fun _ ih => ws_X10_autumn_55 post ih bT qG pW qR) n
set_option maxHeartbeats 4000000 in
set_option maxRecDepth 100000 in
theorem ks_X10_autumn_55 (C0 : gc aBk (some .int) 12 zX (dC, dI) (tyl cI cC cZ cB cJ) A p s m args meth c) {next : Int32 -> Int32 -> Int32 -> Int32 -> Int32 -> Int32 -> Int32 -> Int32 -> Int32 -> Int32 -> (Nat -> Int32) -> Prop} (hKn : ∀ (x2 : Int32) (x3 : Int32) (x4 : Int32) (x5 : Int32) (x6 : Int32) (x7 : Int32) (x8 : Int32) (bL : Int32) (bY : Int32) (jY : Int32) (sW : Nat -> Int32) (H : Heap) (locs : List Loc) (ls : Array Slot), next x2 x3 x4 x5 x6 x7 x8 bL bY jY sW -> va_P (dC, dI) classes (aDS cI cC cZ cB cJ a_m nY sJ eG iY lY jR jW jZ jO oQ bR aY jQ gY iJ mQ lJ jA bG mK jB mW mJ eJ dG bT aG jC bL bY jD mLn oF rP dQ aJ aB bW bZ aR aE bI aW bU fJ dO bM bQ bO jY oX qG pW qR sW) H -> va_D A (aDS cI cC cZ cB cJ a_m nY sJ eG iY lY jR jW jZ jO oQ bR aY jQ gY iJ mQ lJ jA bG mK jB mW mJ eJ dG bT aG jC bL bY jD mLn oF rP dQ aJ aB bW bZ aR aE bI aW bU fJ dO bM bQ bO jY oX qG pW qR sW) -> va_S A s.heap H locs -> lv_has ls 12 [(0, .ref a_m), (2, .int x2), (3, .int x3), (4, .int x4), (5, .int x5), (6, .int x6), (7, .int x7), (8, .int x8)] -> W p l e aX4 s m args below meth c H locs 0 0 (MQ below (aYb dC dI cI cC cZ cB cJ A a_m nY sJ eG iY lY jR jW jZ jO oQ bR aY jQ gY iJ mQ lJ jA bG mK jB mW mJ eJ dG bT aG jC jD mLn oF rP dQ aJ aB bW bZ aR aE bI aW bU fJ dO bM bQ bO oX qG pW qR post) args s 0 0 A) (F0 m 55 ls [])) : ∀ (x2 x3 x4 x5 x6 x7 x8 bL bY jY : Int32) (sW : Nat -> Int32) (H : Heap) (locs : List Loc) (ls : Array Slot), (ws_X10_autumn_55 post next bT qG pW qR) x2 x3 x4 x5 x6 x7 x8 bL bY jY sW -> va_P (dC, dI) classes (aDS cI cC cZ cB cJ a_m nY sJ eG iY lY jR jW jZ jO oQ bR aY jQ gY iJ mQ lJ jA bG mK jB mW mJ eJ dG bT aG jC bL bY jD mLn oF rP dQ aJ aB bW bZ aR aE bI aW bU fJ dO bM bQ bO jY oX qG pW qR sW) H -> va_D A (aDS cI cC cZ cB cJ a_m nY sJ eG iY lY jR jW jZ jO oQ bR aY jQ gY iJ mQ lJ jA bG mK jB mW mJ eJ dG bT aG jC bL bY jD mLn oF rP dQ aJ aB bW bZ aR aE bI aW bU fJ dO bM bQ bO jY oX qG pW qR sW) -> va_S A s.heap H locs -> lv_has ls 12 [(0, .ref a_m), (2, .int x2), (3, .int x3), (4, .int x4), (5, .int x5), (6, .int x6), (7, .int x7), (8, .int x8)] -> W p l e aX4 s m args below meth c H locs 0 0 (MQ below (aYb dC dI cI cC cZ cB cJ A a_m nY sJ eG iY lY jR jW jZ jO oQ bR aY jQ gY iJ mQ lJ jA bG mK jB mW mJ eJ dG bT aG jC jD mLn oF rP dQ aJ aB bW bZ aR aE bI aW bU fJ dO bM bQ bO oX qG pW qR post) args s 0 0 A) (F0 m 55 ls []) := by
  obtain ⟨hx, hb, hr, hml, hown, hts, hlocks, hA, hK, hN, tL, tM, hZL, hTL, hZM, hTM, hZX⟩ := id C0
  intro x2 x3 x4 x5 x6 x7 x8 bL bY jY sW H locs ls hp hP hD hS hl
  unfold ws_X10_autumn_55 at hp
  refine lv_iload hx hb aPv.1 (lv_at hl 7 rfl) ?_
  refine lv_iload_n hx hb aPv.2.1 rfl (lv_at hl 1 rfl) ?_
  refine lv_icmp_gt (tgt := 181) hx hb aPv.2.2.1 (by decide) (fun hc => ?_) (fun hc => ?_)
  · have hp := hp.1 hc
    refine lv_aload_n hx hb aNi.2.2.2.2.2.2.2.2.2.2.2.2.2.2.2 rfl (lv_at hl 0 rfl) ?_
    refine lv_iconst (v := 0) hx hb aNj.1 aCi ?_
    refine va_put (D := (dC, dI)) (ci := 10) (v := .int 0) (ty := .int) (C := zX) (T := aBe) (N := 51) hx hb hts aAt aD2 aAa aEC hown hK hP hD hS 0 rfl rfl 13 (lbz rfl) (hts _ q_847) (fun _ h9 => h9) rfl (aAa 13 (lbz rfl)) rfl rfl (lbz rfl) aNj.2.1 (fun H locs hP hD hS => ?_)
    have hPD := PDw (ws' := (aDS cI cC cZ cB cJ a_m nY sJ eG iY lY jR jW jZ jO oQ bR aY jQ gY iJ mQ lJ jA bG mK jB mW mJ eJ dG bT aG jC 0 bY jD mLn oF rP dQ aJ aB bW bZ aR aE bI aW bU fJ dO bM bQ bO jY oX qG pW qR sW)) hP hD rfl
    have hP := hPD.1
    have hD := hPD.2
    refine lv_aload_n hx hb aNj.2.2.1 rfl (lv_at hl 0 rfl) ?_
    refine lv_iload hx hb aNj.2.2.2.1 (lv_at hl 4 rfl) ?_
    have hm := mgk (wc := (aD0 cI cC cZ cB cJ a_m nY sJ eG iY lY jR jW jZ jO oQ bR aY jQ gY iJ mQ lJ jA bG mK jB mW mJ eJ dG bT aG jC 0 bY jD mLn oF rP dQ aJ aB bW bZ aR aE bI aW bU fJ dO bM bQ bO jY oX sW)) hP mk_297 5 rfl rfl rfl
    refine aBn hP hD hS hA (yS mk_297) (aAi mk_297) hm.1 hm.2 (aAk _) (zW _) (zF (As := [.int x5]) (rest := []) C0 hP hD hS (yS mk_297) hm.1 (aAl _) 0 10 rfl rfl (aGE l dC dI cI cC cZ cB cJ a_m nY sJ eG iY lY jR jW jZ jO oQ bR aY jQ gY iJ mQ lJ jA bG mK jB mW mJ eJ dG H.size x5 bT aG jC 0 bY jD mLn oF rP dQ aJ aB bW bZ aR aE bI aW bU fJ dO bM bQ bO jY oX sW _ hp) q_849 q_852 q_850 q_851 aBL aGF rfl rfl ⟨lbz rfl, lbz rfl⟩ rfl rfl hl.1 rfl (lv_room (lbz rfl)) aNj.2.2.2.2.1 ⟨Nat.zero_le _, Nat.zero_le _⟩) (fun u H locs hp hP hD hS => ?_)
    obtain ⟨aMo, m_row_5⟩ := u
    have hPD := PDm (ws' := (aDS cI cC cZ cB cJ a_m nY sJ eG iY lY jR jW jZ jO oQ bR aY jQ gY iJ mQ lJ jA bG mK jB mW mJ eJ dG bT aG jC aMo bY jD mLn oF rP dQ aJ aB bW bZ aR aE bI aW bU fJ dO bM bQ bO jY oX qG pW qR m_row_5)) hP hD 5 rfl rfl rfl
    have hP := hPD.1
    have hD := hPD.2
    refine lv_aload_n hx hb aNj.2.2.2.2.2.1 rfl (lv_at hl 0 rfl) ?_
    refine lv_aload_n hx hb aNj.2.2.2.2.2.2.1 rfl (lv_at hl 0 rfl) ?_
    refine lv_iload hx hb aNj.2.2.2.2.2.2.2.1 (lv_at hl 4 rfl) ?_
    refine lv_aload_n hx hb aNj.2.2.2.2.2.2.2.2.1 rfl (lv_at hl 0 rfl) ?_
    refine va_get (D := (dC, dI)) (ci := 10) (v := .ref nY) (C := zX) (T := aBe) (N := 51) hx hb hts aAt hown hK hP 0 rfl rfl 0 (lbz rfl) (hts _ aHO) (fun _ h9 => h9) rfl aNj.2.2.2.2.2.2.2.2.2.1 ?_
    refine lv_bipush (v := 16) hx hb aNj.2.2.2.2.2.2.2.2.2.2.1 bp_16 ?_
    refine va_iald hx hb hK hP 1 0 rfl rfl (g_in rfl) aNj.2.2.2.2.2.2.2.2.2.2.2.1 ?_
    refine lv_topi (fun v_6 ev_6 => ?_)
    have hp := hp v_6 ev_6
    have hm := mgk (wc := (aFo cI cC cZ cB cJ a_m nY sJ eG iY lY jR jW jZ jO oQ bR aY jQ gY iJ mQ lJ jA bG mK jB mW mJ eJ dG bT aG jC aMo bY jD mLn oF rP dQ aJ aB bW bZ aR aE bI aW bU fJ dO bM bQ bO jY oX pW)) hP mk_298 5 rfl rfl rfl
    refine yW hP hD hS hA (yS mk_298) (aAi mk_298) hm.1 hm.2 (aAk _) (zW _) (zF (As := [.int x5, .int v_6]) (rest := [.ref a_m]) C0 hP hD hS (yS mk_298) hm.1 (aAl _) 0 10 rfl rfl (bCS l dC dI cI cC cZ cB cJ a_m nY sJ eG iY lY jR jW jZ jO oQ bR aY jQ gY iJ mQ lJ jA bG mK jB mW mJ eJ dG H.size x5 v_6 bT aG jC aMo bY jD mLn oF rP dQ aJ aB bW bZ aR aE bI aW bU fJ dO bM bQ bO jY oX pW _ hp) q_865 q_868 q_866 q_867 aBL bCV rfl rfl ⟨lbz rfl, lbz rfl⟩ rfl rfl hl.1 rfl (lv_room (lbz rfl)) aNj.2.2.2.2.2.2.2.2.2.2.2.2.1 ⟨Nat.zero_le _, Nat.zero_le _⟩) (fun r_7 u H locs hp hP hD hS => ?_)
    have hPD := PDm (ws' := (aDS cI cC cZ cB cJ a_m nY sJ eG iY lY jR jW jZ jO oQ bR aY jQ gY iJ mQ lJ jA bG mK jB mW mJ eJ dG bT aG jC aMo bY jD mLn oF rP dQ aJ aB bW bZ aR aE bI aW bU fJ dO bM bQ bO jY oX qG pW qR m_row_5)) hP hD 5 rfl rfl rfl
    have hP := hPD.1
    have hD := hPD.2
    have hm := mgk (wc := (aD0 cI cC cZ cB cJ a_m nY sJ eG iY lY jR jW jZ jO oQ bR aY jQ gY iJ mQ lJ jA bG mK jB mW mJ eJ dG bT aG jC aMo bY jD mLn oF rP dQ aJ aB bW bZ aR aE bI aW bU fJ dO bM bQ bO jY oX m_row_5)) hP mk_297 5 rfl rfl rfl
    refine aBn hP hD hS hA (yS mk_297) (aAi mk_297) hm.1 hm.2 (aAk _) (zW _) (zF (As := [.int r_7]) (rest := []) C0 hP hD hS (yS mk_297) hm.1 (aAl _) 0 10 rfl rfl (aGE l dC dI cI cC cZ cB cJ a_m nY sJ eG iY lY jR jW jZ jO oQ bR aY jQ gY iJ mQ lJ jA bG mK jB mW mJ eJ dG H.size r_7 bT aG jC aMo bY jD mLn oF rP dQ aJ aB bW bZ aR aE bI aW bU fJ dO bM bQ bO jY oX m_row_5 _ hp) q_849 q_852 q_850 q_851 aBL aGF rfl rfl ⟨lbz rfl, lbz rfl⟩ rfl rfl hl.1 rfl (lv_room (lbz rfl)) aNj.2.2.2.2.2.2.2.2.2.2.2.2.2.1 ⟨Nat.zero_le _, Nat.zero_le _⟩) (fun u H locs hp hP hD hS => ?_)
    obtain ⟨aG6, aUs⟩ := u
    have hPD := PDm (ws' := (aDS cI cC cZ cB cJ a_m nY sJ eG iY lY jR jW jZ jO oQ bR aY jQ gY iJ mQ lJ jA bG mK jB mW mJ eJ dG bT aG jC aG6 bY jD mLn oF rP dQ aJ aB bW bZ aR aE bI aW bU fJ dO bM bQ bO jY oX qG pW qR aUs)) hP hD 5 rfl rfl rfl
    have hP := hPD.1
    have hD := hPD.2
    refine lv_aload_n hx hb aNj.2.2.2.2.2.2.2.2.2.2.2.2.2.2.1 rfl (lv_at hl 0 rfl) ?_
    refine lv_iload hx hb aNj.2.2.2.2.2.2.2.2.2.2.2.2.2.2.2 (lv_at hl 6 rfl) ?_
    have hm := mgk (wc := (aD0 cI cC cZ cB cJ a_m nY sJ eG iY lY jR jW jZ jO oQ bR aY jQ gY iJ mQ lJ jA bG mK jB mW mJ eJ dG bT aG jC aG6 bY jD mLn oF rP dQ aJ aB bW bZ aR aE bI aW bU fJ dO bM bQ bO jY oX aUs)) hP mk_297 5 rfl rfl rfl
    refine aBn hP hD hS hA (yS mk_297) (aAi mk_297) hm.1 hm.2 (aAk _) (zW _) (zF (As := [.int x7]) (rest := []) C0 hP hD hS (yS mk_297) hm.1 (aAl _) 0 10 rfl rfl (aGE l dC dI cI cC cZ cB cJ a_m nY sJ eG iY lY jR jW jZ jO oQ bR aY jQ gY iJ mQ lJ jA bG mK jB mW mJ eJ dG H.size x7 bT aG jC aG6 bY jD mLn oF rP dQ aJ aB bW bZ aR aE bI aW bU fJ dO bM bQ bO jY oX aUs _ hp) q_849 q_852 q_850 q_851 aBL aGF rfl rfl ⟨lbz rfl, lbz rfl⟩ rfl rfl hl.1 rfl (lv_room (lbz rfl)) eX10_autumn_212.1 ⟨Nat.zero_le _, Nat.zero_le _⟩) (fun u H locs hp hP hD hS => ?_)
    obtain ⟨aDZ, aHj⟩ := u
    have hPD := PDm (ws' := (aDS cI cC cZ cB cJ a_m nY sJ eG iY lY jR jW jZ jO oQ bR aY jQ gY iJ mQ lJ jA bG mK jB mW mJ eJ dG bT aG jC aDZ bY jD mLn oF rP dQ aJ aB bW bZ aR aE bI aW bU fJ dO bM bQ bO jY oX qG pW qR aHj)) hP hD 5 rfl rfl rfl
    have hP := hPD.1
    have hD := hPD.2
    refine lv_iload hx hb eX10_autumn_212.2.1 (lv_at hl 4 rfl) ?_
    have hm := mgk (wc := (aBh cI cC cZ cB cJ)) hP mk_23 5 rfl rfl rfl
    refine yW hP hD hS hA (yS mk_23) (aAi mk_23) hm.1 hm.2 (aAk _) (zW _) (aDn (As := [.int x5]) (rest := []) C0 hP hD hS (yS mk_23) hm.1 (aAl _) (aBv l dC dI cI cC cZ cB cJ H.size x5 _ hp) q_320 q_803 q_322 q_321 aBw rfl rfl ⟨lbz rfl, lbz rfl⟩ rfl rfl hl.1 rfl (lv_room (lbz rfl)) eX10_autumn_212.2.2.1 ⟨Nat.zero_le _, Nat.zero_le _⟩) (fun r_12 u H locs hp hP hD hS => ?_)
    have hPD := PDm (ws' := (aDS cI cC cZ cB cJ a_m nY sJ eG iY lY jR jW jZ jO oQ bR aY jQ gY iJ mQ lJ jA bG mK jB mW mJ eJ dG bT aG jC aDZ bY jD mLn oF rP dQ aJ aB bW bZ aR aE bI aW bU fJ dO bM bQ bO jY oX qG pW qR aHj)) hP hD 5 rfl rfl rfl
    have hP := hPD.1
    have hD := hPD.2
    exact W.iret (v := r_12) hx hb hr (fun t ht hW => ⟨⟨r_12, (aDZ, bY, jY, aHj), rfl, hp, by rw [ht]; exact hP, va_K.moved hW.alike hK, hD⟩, hS.F ht⟩) hS.2.2 eX10_autumn_212.2.2.2
  · have hp := hp.2 hc
    refine lv_iload hx hb aPv.2.2.2.1 (lv_at hl 3 rfl) ?_
    refine lv_aload_n hx hb aPv.2.2.2.2.1 rfl (lv_at hl 0 rfl) ?_
    refine lv_bipush (v := 9) hx hb aPv.2.2.2.2.2.1 bp_9 ?_
    refine lv_aload_n hx hb aPv.2.2.2.2.2.2.1 rfl (lv_at hl 0 rfl) ?_
    refine va_get (D := (dC, dI)) (ci := 10) (v := .ref nY) (C := zX) (T := aBe) (N := 51) hx hb hts aAt hown hK hP 0 rfl rfl 0 (lbz rfl) (hts _ aHO) (fun _ h9 => h9) rfl aPv.2.2.2.2.2.2.2.1 ?_
    refine lv_bipush (v := 19) hx hb aPv.2.2.2.2.2.2.2.2.1 bp_19 ?_
    refine va_iald hx hb hK hP 1 0 rfl rfl (g_in rfl) aPv.2.2.2.2.2.2.2.2.2.1 ?_
    refine lv_topi (fun aIQ ev_13 => ?_)
    have hp := hp aIQ ev_13
    refine lv_iload hx hb aPv.2.2.2.2.2.2.2.2.2.2.1 (lv_at hl 7 rfl) ?_
    refine lv_iadd hx hb aPv.2.2.2.2.2.2.2.2.2.2.2.1 ?_
    refine lv_topi (fun aGC ev_14 => ?_)
    have hp := hp aGC ev_14
    refine va_mmin hx hb (by rw [hml]; exact hl.1.symm) hown (hts _ q_766) (hts _ q_15) (hts _ q_16) (hts _ q_17) (lbz rfl) (lbz rfl) (Nat.zero_le _) (Nat.zero_le _) aPv.2.2.2.2.2.2.2.2.2.2.2.2.1 ?_
    refine lv_topi (fun aHe ev_15 => ?_)
    have hp := hp aHe ev_15
    have hm := mgk (wc := (aHf cI cC cZ cB cJ a_m nY sJ eG iY lY jR jW jZ jO oQ bR aY jQ gY iJ mQ lJ jA bG mK jB mW mJ eJ dG bT aG jC bL bY jD mLn oF rP dQ aJ aB bW bZ aR aE bI aW bU fJ dO bM bQ bO jY oX qR)) hP mk_46 5 rfl rfl rfl
    refine yW hP hD hS hA (yS mk_46) (aAi mk_46) hm.1 hm.2 (aAk _) (zW _) (zF (As := [.int aHe]) (rest := [.int x4]) C0 hP hD hS (yS mk_46) hm.1 (aAl _) 0 10 rfl rfl (c_X10_ripeOnes l dC dI cI cC cZ cB cJ a_m nY sJ eG iY lY jR jW jZ jO oQ bR aY jQ gY iJ mQ lJ jA bG mK jB mW mJ eJ dG H.size aHe bT aG jC bL bY jD mLn oF rP dQ aJ aB bW bZ aR aE bI aW bU fJ dO bM bQ bO jY oX qR _ hp) q_828 q_831 q_829 q_830 aBL h_X10_ripeOnes rfl rfl ⟨lbz rfl, lbz rfl⟩ rfl rfl hl.1 rfl (lv_room (lbz rfl)) aPv.2.2.2.2.2.2.2.2.2.2.2.2.2.1 ⟨Nat.zero_le _, Nat.zero_le _⟩) (fun r_16 u H locs hp hP hD hS => ?_)
    have hPD := PDm (ws' := (aDS cI cC cZ cB cJ a_m nY sJ eG iY lY jR jW jZ jO oQ bR aY jQ gY iJ mQ lJ jA bG mK jB mW mJ eJ dG bT aG jC bL bY jD mLn oF rP dQ aJ aB bW bZ aR aE bI aW bU fJ dO bM bQ bO jY oX qG pW qR sW)) hP hD 5 rfl rfl rfl
    have hP := hPD.1
    have hD := hPD.2
    refine lv_iand hx hb aPv.2.2.2.2.2.2.2.2.2.2.2.2.2.2.1 ?_
    refine lv_topi (fun v_17 ev_17 => ?_)
    have hp := hp v_17 ev_17
    refine lv_istore (lv' := [(9, .int v_17), (0, .ref a_m), (2, .int x2), (3, .int x3), (4, .int x4), (5, .int x5), (6, .int x6), (7, .int x7), (8, .int x8)]) hx hb aPv.2.2.2.2.2.2.2.2.2.2.2.2.2.2.2 hl (by decide) rfl (fun ls hl => ?_)
    refine lv_iconst (v := 0) hx hb aPw.1 aCi ?_
    refine lv_istore (lv' := [(10, .int 0), (9, .int v_17), (0, .ref a_m), (2, .int x2), (3, .int x3), (4, .int x4), (5, .int x5), (6, .int x6), (7, .int x7), (8, .int x8)]) hx hb aPw.2.1 hl (by decide) rfl (fun ls hl => ?_)
    refine lv_iconst (v := 0) hx hb aPw.2.2.1 aCi ?_
    refine lv_istore (lv' := [(11, .int 0), (10, .int 0), (9, .int v_17), (0, .ref a_m), (2, .int x2), (3, .int x3), (4, .int x4), (5, .int x5), (6, .int x6), (7, .int x7), (8, .int x8)]) hx hb aPw.2.2.2.1 hl (by decide) rfl (fun ls hl => ?_)
    obtain ⟨n9, hp⟩ := hp
    exact kb_X10_autumn_91 C0 hKn n9 x2 x3 x4 x5 x6 x7 x8 v_17 0 0 bL bY jY sW H locs ls hp hP hD hS (lv_sub hl [3, 4, 5, 6, 7, 8, 9, 10, 2, 1, 0] rfl)
set_option maxHeartbeats 4000000 in
set_option maxRecDepth 100000 in
theorem kb_X10_autumn_55 (C0 : gc aBk (some .int) 12 zX (dC, dI) (tyl cI cC cZ cB cJ) A p s m args meth c) : ∀ (n : Nat), ∀ (x2 x3 x4 x5 x6 x7 x8 bL bY jY : Int32) (sW : Nat -> Int32) (H : Heap) (locs : List Loc) (ls : Array Slot), (wb_X10_autumn_55 post bT qG pW qR n) x2 x3 x4 x5 x6 x7 x8 bL bY jY sW -> va_P (dC, dI) classes (aDS cI cC cZ cB cJ a_m nY sJ eG iY lY jR jW jZ jO oQ bR aY jQ gY iJ mQ lJ jA bG mK jB mW mJ eJ dG bT aG jC bL bY jD mLn oF rP dQ aJ aB bW bZ aR aE bI aW bU fJ dO bM bQ bO jY oX qG pW qR sW) H -> va_D A (aDS cI cC cZ cB cJ a_m nY sJ eG iY lY jR jW jZ jO oQ bR aY jQ gY iJ mQ lJ jA bG mK jB mW mJ eJ dG bT aG jC bL bY jD mLn oF rP dQ aJ aB bW bZ aR aE bI aW bU fJ dO bM bQ bO jY oX qG pW qR sW) -> va_S A s.heap H locs -> lv_has ls 12 [(0, .ref a_m), (2, .int x2), (3, .int x3), (4, .int x4), (5, .int x5), (6, .int x6), (7, .int x7), (8, .int x8)] -> W p l e aX4 s m args below meth c H locs 0 0 (MQ below (aYb dC dI cI cC cZ cB cJ A a_m nY sJ eG iY lY jR jW jZ jO oQ bR aY jQ gY iJ mQ lJ jA bG mK jB mW mJ eJ dG bT aG jC jD mLn oF rP dQ aJ aB bW bZ aR aE bI aW bU fJ dO bM bQ bO oX qG pW qR post) args s 0 0 A) (F0 m 55 ls []) := by
  intro n
  induction n with
  | zero =>
    intro x2 x3 x4 x5 x6 x7 x8 bL bY jY sW H locs ls hp
    exact False.elim hp
  | succ n ih =>
    intro x2 x3 x4 x5 x6 x7 x8 bL bY jY sW H locs ls hp
    exact ks_X10_autumn_55 C0 ih x2 x3 x4 x5 x6 x7 x8 bL bY jY sW H locs ls hp
end S_X10_autumn
def wp_X10_autumn (post : Int32 -> Int32 -> Int32 -> Int32 -> (Nat -> Int32) -> Prop) (p0 p1 p2 bT bL bY jY : Int32) (qG pW qR sW : Nat -> Int32) : Prop := aJY (fun r_1 => (r_1 = 0 -> post (-1) bL 0 jY sW) /\ (¬ r_1 = 0 -> aJY (fun r_2 => (¬ r_2 = 0 -> aIB (fun r_3 => ∃ n : Nat, wb_X10_autumn_55 post bT qG pW qR n p1 p2 r_3 0 0 (-1) 1 bL 0 p0 sW) 0 bT qG) /\ (r_2 = 0 -> post (-1) bL 0 jY sW)) p2 0 10)) p1 1 30
set_option maxHeartbeats 4000000 in
set_option maxRecDepth 100000 in
theorem c_X10_autumn (l : Launch) (dC : Nat -> ClassId) (dI : Nat -> Nat -> Nat) (cI cC cZ cB cJ : ClassId) (a_m nY sJ eG iY lY jR jW jZ jO oQ bR aY jQ gY iJ mQ lJ jA bG mK jB mW mJ eJ dG sz : Nat) (p0 p1 p2 bT aG jC bL bY : Int32) (jD : Nat) (mLn oF rP dQ aJ aB bW bZ aR aE bI aW bU fJ dO bM bQ bO jY oX : Int32) (qG pW qR sW : Nat -> Int32) (post : Int32 -> Int32 -> Int32 -> Int32 -> (Nat -> Int32) -> Prop) (hw : wp_X10_autumn post p0 p1 p2 bT bL bY jY qG pW qR sW) : Met l yX10_autumn (gw yX10_autumn aBk 12 (some .int)) aX4 (va_Pc [.ref a_m, .int p0, .int p1, .int p2] (gPre (dC, dI) (tyl cI cC cZ cB cJ) (aDS cI cC cZ cB cJ a_m nY sJ eG iY lY jR jW jZ jO oQ bR aY jQ gY iJ mQ lJ jA bG mK jB mW mJ eJ dG bT aG jC bL bY jD mLn oF rP dQ aJ aB bW bZ aR aE bI aW bU fJ dO bM bQ bO jY oX qG pW qR sW) sz)) (aYb dC dI cI cC cZ cB cJ (va_A (aDS cI cC cZ cB cJ a_m nY sJ eG iY lY jR jW jZ jO oQ bR aY jQ gY iJ mQ lJ jA bG mK jB mW mJ eJ dG bT aG jC bL bY jD mLn oF rP dQ aJ aB bW bZ aR aE bI aW bU fJ dO bM bQ bO jY oX qG pW qR sW) sz) a_m nY sJ eG iY lY jR jW jZ jO oQ bR aY jQ gY iJ mQ lJ jA bG mK jB mW mJ eJ dG bT aG jC jD mLn oF rP dQ aJ aB bW bZ aR aE bI aW bU fJ dO bM bQ bO oX qG pW qR post) 0 0 (va_A (aDS cI cC cZ cB cJ a_m nY sJ eG iY lY jR jW jZ jO oQ bR aY jQ gY iJ mQ lJ jA bG mK jB mW mJ eJ dG bT aG jC bL bY jD mLn oF rP dQ aJ aB bW bZ aR aE bI aW bU fJ dO bM bQ bO jY oX qG pW qR sW) sz) := by
  refine aBJ (own := zX) (dC, dI) (tyl cI cC cZ cB cJ) (aDS cI cC cZ cB cJ a_m nY sJ eG iY lY jR jW jZ jO oQ bR aY jQ gY iJ mQ lJ jA bG mK jB mW mJ eJ dG bT aG jC bL bY jD mLn oF rP dQ aJ aB bW bZ aR aE bI aW bU fJ dO bM bQ bO jY oX qG pW qR sW) sz [.ref a_m, .int p0, .int p1, .int p2] (fun A => aYb dC dI cI cC cZ cB cJ A a_m nY sJ eG iY lY jR jW jZ jO oQ bR aY jQ gY iJ mQ lJ jA bG mK jB mW mJ eJ dG bT aG jC jD mLn oF rP dQ aJ aB bW bZ aR aE bI aW bU fJ dO bM bQ bO oX qG pW qR post) aFY rfl (lbz rfl) ?_
  intro p e s m args below meth c A H locs ls C0 hP hD hS hl
  have hl : lv_has ls 12 [(0, .ref a_m), (1, .int p0), (2, .int p1), (3, .int p2)] := hl
  obtain ⟨hx, hb, hr, hml, hown, hts, hlocks, hA, hK, hN, tL, tM, hZL, hTL, hZM, hTM, hZX⟩ := id C0
  have hp := hw
  unfold wp_X10_autumn at hp
  refine lv_aload_n hx hb aPH.1 rfl (lv_at hl 0 rfl) ?_
  refine lv_iconst (v := 0) hx hb aPH.2.1 aCi ?_
  refine va_put (D := (dC, dI)) (ci := 10) (v := .int 0) (ty := .int) (C := zX) (T := aBe) (N := 51) hx hb hts aAt aD2 aAa aEC hown hK hP hD hS 0 rfl rfl 14 (lbz rfl) (hts _ q_638) (fun _ h9 => h9) rfl (aAa 14 (lbz rfl)) rfl rfl (lbz rfl) aPH.2.2.1 (fun H locs hP hD hS => ?_)
  have hPD := PDw (ws' := (aDS cI cC cZ cB cJ a_m nY sJ eG iY lY jR jW jZ jO oQ bR aY jQ gY iJ mQ lJ jA bG mK jB mW mJ eJ dG bT aG jC bL 0 jD mLn oF rP dQ aJ aB bW bZ aR aE bI aW bU fJ dO bM bQ bO jY oX qG pW qR sW)) hP hD rfl
  have hP := hPD.1
  have hD := hPD.2
  refine lv_iload_n hx hb aPH.2.2.2.1 rfl (lv_at hl 2 rfl) ?_
  refine lv_iconst (v := 1) hx hb aPH.2.2.2.2.1 aDx ?_
  refine lv_bipush (v := 30) hx hb aPH.2.2.2.2.2.1 bp_30 ?_
  have hm := mgk (wc := (aKW cI cC cZ cB cJ)) hP mk_23 5 rfl rfl rfl
  refine yW hP hD hS hA (yS mk_23) (aAi mk_23) hm.1 hm.2 (aAk _) (zW _) (aDn (As := [.int p1, .int 1, .int 30]) (rest := []) C0 hP hD hS (yS mk_23) hm.1 (aAl _) (aRu l dC dI cI cC cZ cB cJ H.size p1 1 30 _ hp) q_641 q_644 q_643 aBL aRx rfl rfl ⟨lbz rfl, lbz rfl⟩ rfl rfl hl.1 rfl (lv_room (lbz rfl)) aPH.2.2.2.2.2.2.1 ⟨Nat.zero_le _, Nat.zero_le _⟩) (fun r_1 u H locs hp hP hD hS => ?_)
  have hPD := PDm (ws' := (aDS cI cC cZ cB cJ a_m nY sJ eG iY lY jR jW jZ jO oQ bR aY jQ gY iJ mQ lJ jA bG mK jB mW mJ eJ dG bT aG jC bL 0 jD mLn oF rP dQ aJ aB bW bZ aR aE bI aW bU fJ dO bM bQ bO jY oX qG pW qR sW)) hP hD 5 rfl rfl rfl
  have hP := hPD.1
  have hD := hPD.2
  refine lv_if_eq (tgt := 25) hx hb aPH.2.2.2.2.2.2.2.1 (by decide) (fun hc => ?_) (fun hc => ?_)
  · have hp := hp.1 hc
    refine lv_iconst (v := (-1)) hx hb aPH.2.2.2.2.2.2.2.2.2.2.2.2.2.1 aEJ ?_
    exact W.iret (v := (-1)) hx hb hr (fun t ht hW => ⟨⟨(-1), (bL, 0, jY, sW), rfl, hp, by rw [ht]; exact hP, va_K.moved hW.alike hK, hD⟩, hS.F ht⟩) hS.2.2 aPH.2.2.2.2.2.2.2.2.2.2.2.2.2.2.1
  · have hp := hp.2 hc
    refine lv_iload_n hx hb aPH.2.2.2.2.2.2.2.2.1 rfl (lv_at hl 3 rfl) ?_
    refine lv_iconst (v := 0) hx hb aPH.2.2.2.2.2.2.2.2.2.1 aCi ?_
    refine lv_bipush (v := 10) hx hb aPH.2.2.2.2.2.2.2.2.2.2.1 bp_10 ?_
    have hm := mgk (wc := (aKW cI cC cZ cB cJ)) hP mk_23 5 rfl rfl rfl
    refine yW hP hD hS hA (yS mk_23) (aAi mk_23) hm.1 hm.2 (aAk _) (zW _) (aDn (As := [.int p2, .int 0, .int 10]) (rest := []) C0 hP hD hS (yS mk_23) hm.1 (aAl _) (aRu l dC dI cI cC cZ cB cJ H.size p2 0 10 _ hp) q_641 q_644 q_643 aBL aRx rfl rfl ⟨lbz rfl, lbz rfl⟩ rfl rfl hl.1 rfl (lv_room (lbz rfl)) aPH.2.2.2.2.2.2.2.2.2.2.2.1 ⟨Nat.zero_le _, Nat.zero_le _⟩) (fun r_2 u H locs hp hP hD hS => ?_)
    have hPD := PDm (ws' := (aDS cI cC cZ cB cJ a_m nY sJ eG iY lY jR jW jZ jO oQ bR aY jQ gY iJ mQ lJ jA bG mK jB mW mJ eJ dG bT aG jC bL 0 jD mLn oF rP dQ aJ aB bW bZ aR aE bI aW bU fJ dO bM bQ bO jY oX qG pW qR sW)) hP hD 5 rfl rfl rfl
    have hP := hPD.1
    have hD := hPD.2
    refine lv_if_ne (tgt := 27) hx hb aPH.2.2.2.2.2.2.2.2.2.2.2.2.1 (by decide) (fun hc => ?_) (fun hc => ?_)
    · have hp := hp.1 hc
      refine lv_aload_n hx hb aPH.2.2.2.2.2.2.2.2.2.2.2.2.2.2.2 rfl (lv_at hl 0 rfl) ?_
      refine lv_iload_n hx hb aPu.1 rfl (lv_at hl 1 rfl) ?_
      refine va_put (D := (dC, dI)) (ci := 10) (v := .int p0) (ty := .int) (C := zX) (T := aBe) (N := 51) hx hb hts aAt aD2 aAa aEC hown hK hP hD hS 0 rfl rfl 46 (lbz rfl) (hts _ q_959) (fun _ h9 => h9) rfl (aAa 46 (lbz rfl)) rfl rfl (lbz rfl) aPu.2.1 (fun H locs hP hD hS => ?_)
      have hPD := PDw (ws' := (aDS cI cC cZ cB cJ a_m nY sJ eG iY lY jR jW jZ jO oQ bR aY jQ gY iJ mQ lJ jA bG mK jB mW mJ eJ dG bT aG jC bL 0 jD mLn oF rP dQ aJ aB bW bZ aR aE bI aW bU fJ dO bM bQ bO p0 oX qG pW qR sW)) hP hD rfl
      have hP := hPD.1
      have hD := hPD.2
      refine lv_aload_n hx hb aPu.2.2.1 rfl (lv_at hl 0 rfl) ?_
      refine lv_aload_n hx hb aPu.2.2.2.1 rfl (lv_at hl 0 rfl) ?_
      refine va_get (D := (dC, dI)) (ci := 10) (v := .ref nY) (C := zX) (T := aBe) (N := 51) hx hb hts aAt hown hK hP 0 rfl rfl 0 (lbz rfl) (hts _ aHO) (fun _ h9 => h9) rfl aPu.2.2.2.2.1 ?_
      refine lv_iconst (v := 0) hx hb aPu.2.2.2.2.2.1 aCi ?_
      have hm := mgk (wc := (aGS cI cC cZ cB cJ a_m nY sJ eG iY lY jR jW jZ jO oQ bR aY jQ gY iJ mQ lJ jA bG mK jB mW mJ eJ dG bT aG jC bL 0 jD mLn oF rP dQ aJ aB bW bZ aR aE bI aW bU fJ dO bM bQ bO p0 oX qG)) hP mk_17 5 rfl rfl rfl
      refine yW hP hD hS hA (yS mk_17) (aAi mk_17) hm.1 hm.2 (aAk _) (zW _) (zF (As := [.ref nY, .int 0]) (rest := []) C0 hP hD hS (yS mk_17) hm.1 (aAl _) 0 10 rfl rfl (aRP l dC dI cI cC cZ cB cJ a_m nY sJ eG iY lY jR jW jZ jO oQ bR aY jQ gY iJ mQ lJ jA bG mK jB mW mJ eJ dG H.size 0 bT aG jC bL 0 jD mLn oF rP dQ aJ aB bW bZ aR aE bI aW bU fJ dO bM bQ bO p0 oX qG _ hp) q_749 q_752 q_750 q_751 aBL aRR rfl rfl ⟨lbz rfl, lbz rfl⟩ rfl rfl hl.1 rfl (lv_room (lbz rfl)) aPu.2.2.2.2.2.2.1 ⟨Nat.zero_le _, Nat.zero_le _⟩) (fun r_3 u H locs hp hP hD hS => ?_)
      have hPD := PDm (ws' := (aDS cI cC cZ cB cJ a_m nY sJ eG iY lY jR jW jZ jO oQ bR aY jQ gY iJ mQ lJ jA bG mK jB mW mJ eJ dG bT aG jC bL 0 jD mLn oF rP dQ aJ aB bW bZ aR aE bI aW bU fJ dO bM bQ bO p0 oX qG pW qR sW)) hP hD 5 rfl rfl rfl
      have hP := hPD.1
      have hD := hPD.2
      refine lv_istore (lv' := [(4, .int r_3), (0, .ref a_m), (1, .int p0), (2, .int p1), (3, .int p2)]) hx hb aPu.2.2.2.2.2.2.2.1 hl (by decide) rfl (fun ls hl => ?_)
      refine lv_iconst (v := 0) hx hb aPu.2.2.2.2.2.2.2.2.1 aCi ?_
      refine lv_istore (lv' := [(5, .int 0), (4, .int r_3), (0, .ref a_m), (1, .int p0), (2, .int p1), (3, .int p2)]) hx hb aPu.2.2.2.2.2.2.2.2.2.1 hl (by decide) rfl (fun ls hl => ?_)
      refine lv_iconst (v := 0) hx hb aPu.2.2.2.2.2.2.2.2.2.2.1 aCi ?_
      refine lv_istore (lv' := [(6, .int 0), (5, .int 0), (4, .int r_3), (0, .ref a_m), (1, .int p0), (2, .int p1), (3, .int p2)]) hx hb aPu.2.2.2.2.2.2.2.2.2.2.2.1 hl (by decide) rfl (fun ls hl => ?_)
      refine lv_iconst (v := (-1)) hx hb aPu.2.2.2.2.2.2.2.2.2.2.2.2.1 aEJ ?_
      refine lv_istore (lv' := [(7, .int (-1)), (6, .int 0), (5, .int 0), (4, .int r_3), (0, .ref a_m), (1, .int p0), (2, .int p1), (3, .int p2)]) hx hb aPu.2.2.2.2.2.2.2.2.2.2.2.2.2.1 hl (by decide) rfl (fun ls hl => ?_)
      refine lv_iconst (v := 1) hx hb aPu.2.2.2.2.2.2.2.2.2.2.2.2.2.2.1 aDx ?_
      refine lv_istore (lv' := [(8, .int 1), (7, .int (-1)), (6, .int 0), (5, .int 0), (4, .int r_3), (0, .ref a_m), (1, .int p0), (2, .int p1), (3, .int p2)]) hx hb aPu.2.2.2.2.2.2.2.2.2.2.2.2.2.2.2 hl (by decide) rfl (fun ls hl => ?_)
      obtain ⟨n9, hp⟩ := hp
      exact kb_X10_autumn_55 C0 n9 p1 p2 r_3 0 0 (-1) 1 bL 0 p0 sW H locs ls hp hP hD hS (lv_sub hl [5, 7, 8, 4, 3, 2, 1, 0] rfl)
    · have hp := hp.2 hc
      refine lv_iconst (v := (-1)) hx hb aPH.2.2.2.2.2.2.2.2.2.2.2.2.2.1 aEJ ?_
      exact W.iret (v := (-1)) hx hb hr (fun t ht hW => ⟨⟨(-1), (bL, 0, jY, sW), rfl, hp, by rw [ht]; exact hP, va_K.moved hW.alike hK, hD⟩, hS.F ht⟩) hS.2.2 aPH.2.2.2.2.2.2.2.2.2.2.2.2.2.2.1
abbrev aYB (cI cC cZ cB cJ : ClassId) (nY mJ : Nat) (qG xD : Nat -> Int32) : va_W := [(nY, .inl (cI, 21, .inl qG)), (mJ, .inl (cI, 42, .inl xD))]
abbrev q_X10_lay_b4 (dC : Nat -> ClassId) (dI : Nat -> Nat -> Nat) (cI cC cZ cB cJ : ClassId) (A : Nat -> Prop) (nY mJ : Nat) (qG : Nat -> Int32) (post : (Nat -> Int32) -> Prop) : Array Value -> State -> Outcome -> State -> Prop := va_Qv (fun (u : (Nat -> Int32)) => post u) (fun u t => gB (dC, dI) (tyl cI cC cZ cB cJ) A (aYB cI cC cZ cB cJ nY mJ qG u) t) A
abbrev rm_X10_lay_b4 : Room := { frames := 0, cells := 0, slots := 0, locals := 0 }
section S_X10_lay_b4
variable {p : Program} {l : Launch} {e : Env} {s : State} {m : MethodId} {args : Array Value} {below : List Frame} {meth : Method} {c : Code} {dC : Nat -> ClassId} {dI : Nat -> Nat -> Nat} {cI cC cZ cB cJ : ClassId} {A : Nat -> Prop} {nY mJ : Nat} {qG : Nat -> Int32} {post : (Nat -> Int32) -> Prop}
def ws_X10_lay_b4_2 (post : (Nat -> Int32) -> Prop) (next : Int32 -> Int32 -> (Nat -> Int32) -> Prop) (qG : Nat -> Int32) (x2 x3 : Int32) (xD : Nat -> Int32) : Prop := (21 <= x3 -> post xD) /\ (¬ 21 <= x3 -> ∀ v_1 : Int32, v_1 = x2 + x3 -> vp_in x3 21 /\ (∀ v_2 : Int32, v_2 = qG x3.toNatClampNeg -> vp_in v_1 42 /\ (∀ v_3 : Int32, v_3 = x3 + 1 -> next x2 v_3 (upd xD v_1.toNatClampNeg v_2))))
noncomputable def wb_X10_lay_b4_2 (post : (Nat -> Int32) -> Prop) (qG : Nat -> Int32) : Nat -> Int32 -> Int32 -> (Nat -> Int32) -> Prop := fun n => Nat.rec (motive := fun _ => Int32 -> Int32 -> (Nat -> Int32) -> Prop) (fun _ _ _ => False) (fun _ ih => ws_X10_lay_b4_2 post ih qG) n
set_option maxHeartbeats 4000000 in
set_option maxRecDepth 100000 in
theorem ks_X10_lay_b4_2 (C0 : gc aUi none 4 zX (dC, dI) (tyl cI cC cZ cB cJ) A p s m args meth c) {next : Int32 -> Int32 -> (Nat -> Int32) -> Prop} (hKn : ∀ (x2 : Int32) (x3 : Int32) (xD : Nat -> Int32) (H : Heap) (locs : List Loc) (ls : Array Slot), next x2 x3 xD -> va_P (dC, dI) classes (aYB cI cC cZ cB cJ nY mJ qG xD) H -> va_D A (aYB cI cC cZ cB cJ nY mJ qG xD) -> va_S A s.heap H locs -> lv_has ls 4 [(0, .ref nY), (1, .ref mJ), (2, .int x2), (3, .int x3)] -> W p l e rm_X10_lay_b4 s m args below meth c H locs 0 0 (MQ below (q_X10_lay_b4 dC dI cI cC cZ cB cJ A nY mJ qG post) args s 0 0 A) (F0 m 2 ls [])) : ∀ (x2 x3 : Int32) (xD : Nat -> Int32) (H : Heap) (locs : List Loc) (ls : Array Slot), (ws_X10_lay_b4_2 post next qG) x2 x3 xD -> va_P (dC, dI) classes (aYB cI cC cZ cB cJ nY mJ qG xD) H -> va_D A (aYB cI cC cZ cB cJ nY mJ qG xD) -> va_S A s.heap H locs -> lv_has ls 4 [(0, .ref nY), (1, .ref mJ), (2, .int x2), (3, .int x3)] -> W p l e rm_X10_lay_b4 s m args below meth c H locs 0 0 (MQ below (q_X10_lay_b4 dC dI cI cC cZ cB cJ A nY mJ qG post) args s 0 0 A) (F0 m 2 ls []) := by
  obtain ⟨hx, hb, hr, hml, hown, hts, hlocks, hA, hK, hN, tL, tM, hZL, hTL, hZM, hTM, hZX⟩ := id C0
  intro x2 x3 xD H locs ls hp hP hD hS hl
  unfold ws_X10_lay_b4_2 at hp
  refine lv_iload_n hx hb aDr.2.2.1 rfl (lv_at hl 3 rfl) ?_
  refine lv_bipush (v := 21) hx hb aDr.2.2.2.1 bp_21 ?_
  refine lv_icmp_ge (tgt := 22) hx hb aDr.2.2.2.2.1 (by decide) (fun hc => ?_) (fun hc => ?_)
  · have hp := hp.1 hc
    exact W.vret hx hb hr (fun t ht hW => ⟨⟨xD, rfl, hp, by rw [ht]; exact hP, va_K.moved hW.alike hK, hD⟩, hS.F ht⟩) hS.2.2 aDr.2.2.2.2.2.2.2.2.2.2.2.2.2.2.2
  · have hp := hp.2 hc
    refine lv_aload_n hx hb aDr.2.2.2.2.2.1 rfl (lv_at hl 1 rfl) ?_
    refine lv_iload_n hx hb aDr.2.2.2.2.2.2.1 rfl (lv_at hl 2 rfl) ?_
    refine lv_iload_n hx hb aDr.2.2.2.2.2.2.2.1 rfl (lv_at hl 3 rfl) ?_
    refine lv_iadd hx hb aDr.2.2.2.2.2.2.2.2.1 ?_
    refine lv_topi (fun v_1 aFJ => ?_)
    have hp := hp v_1 aFJ
    refine lv_aload_n hx hb aDr.2.2.2.2.2.2.2.2.2.1 rfl (lv_at hl 0 rfl) ?_
    refine lv_iload_n hx hb aDr.2.2.2.2.2.2.2.2.2.2.1 rfl (lv_at hl 3 rfl) ?_
    have hin := hp.1
    have hp := hp.2
    refine va_iald hx hb hK hP 0 0 rfl rfl hin aDr.2.2.2.2.2.2.2.2.2.2.2.1 ?_
    refine lv_topi (fun v_2 aGO => ?_)
    have hp := hp v_2 aGO
    have hin := hp.1
    have hp := hp.2
    refine va_iast hx hb hK hP hD hS 1 0 rfl rfl hin aDr.2.2.2.2.2.2.2.2.2.2.2.2.1 (fun H locs hP hD hS => ?_)
    have hPD := PDw (ws' := (aYB cI cC cZ cB cJ nY mJ qG (upd xD v_1.toNatClampNeg v_2))) hP hD rfl
    have hP := hPD.1
    have hD := hPD.2
    obtain ⟨v_3, aGW⟩ : ∃ y : Int32, y = x3 + 1 := ⟨_, rfl⟩
    refine lv_iinc (v := v_3) (lv' := [(3, .int v_3), (0, .ref nY), (1, .ref mJ), (2, .int x2)]) hx hb aDr.2.2.2.2.2.2.2.2.2.2.2.2.2.1 hl (k := 3) rfl (by rw [aGW]; rfl) (by decide) rfl (fun ls hl => ?_)
    have hp := hp v_3 aGW
    refine lv_goto (tgt := 2) hx hb aDr.2.2.2.2.2.2.2.2.2.2.2.2.2.2.1 (by decide) ?_
    exact hKn x2 v_3 (upd xD v_1.toNatClampNeg v_2) H locs ls hp hP hD hS (lv_sub hl [1, 2, 3, 0] rfl)
set_option maxHeartbeats 4000000 in
set_option maxRecDepth 100000 in
theorem kb_X10_lay_b4_2 (C0 : gc aUi none 4 zX (dC, dI) (tyl cI cC cZ cB cJ) A p s m args meth c) : ∀ (n : Nat), ∀ (x2 x3 : Int32) (xD : Nat -> Int32) (H : Heap) (locs : List Loc) (ls : Array Slot), (wb_X10_lay_b4_2 post qG n) x2 x3 xD -> va_P (dC, dI) classes (aYB cI cC cZ cB cJ nY mJ qG xD) H -> va_D A (aYB cI cC cZ cB cJ nY mJ qG xD) -> va_S A s.heap H locs -> lv_has ls 4 [(0, .ref nY), (1, .ref mJ), (2, .int x2), (3, .int x3)] -> W p l e rm_X10_lay_b4 s m args below meth c H locs 0 0 (MQ below (q_X10_lay_b4 dC dI cI cC cZ cB cJ A nY mJ qG post) args s 0 0 A) (F0 m 2 ls []) := by
  intro n
  induction n with
  | zero =>
    intro x2 x3 xD H locs ls hp
    exact False.elim hp
  | succ n ih =>
    intro x2 x3 xD H locs ls hp
    exact ks_X10_lay_b4_2 C0 ih x2 x3 xD H locs ls hp
end S_X10_lay_b4
def wp_X10_lay_b4 (post : (Nat -> Int32) -> Prop) (p2 : Int32) (qG xD : Nat -> Int32) : Prop := ∃ n : Nat, wb_X10_lay_b4_2 post qG n p2 0 xD
set_option maxHeartbeats 4000000 in
set_option maxRecDepth 100000 in
theorem c_X10_lay_b4 (l : Launch) (dC : Nat -> ClassId) (dI : Nat -> Nat -> Nat) (cI cC cZ cB cJ : ClassId) (nY mJ sz : Nat) (p2 : Int32) (qG xD : Nat -> Int32) (post : (Nat -> Int32) -> Prop) (hw : wp_X10_lay_b4 post p2 qG xD) : Met l yX10_lay (gw yX10_lay aUi 4 none) rm_X10_lay_b4 (va_Pc [.ref nY, .ref mJ, .int p2] (gPre (dC, dI) (tyl cI cC cZ cB cJ) (aYB cI cC cZ cB cJ nY mJ qG xD) sz)) (q_X10_lay_b4 dC dI cI cC cZ cB cJ (va_A (aYB cI cC cZ cB cJ nY mJ qG xD) sz) nY mJ qG post) 0 0 (va_A (aYB cI cC cZ cB cJ nY mJ qG xD) sz) := by
  refine aBJ (own := zX) (dC, dI) (tyl cI cC cZ cB cJ) (aYB cI cC cZ cB cJ nY mJ qG xD) sz [.ref nY, .ref mJ, .int p2] (fun A => q_X10_lay_b4 dC dI cI cC cZ cB cJ A nY mJ qG post) aFY rfl (lbz rfl) ?_
  intro p e s m args below meth c A H locs ls C0 hP hD hS hl
  have hl : lv_has ls 4 [(0, .ref nY), (1, .ref mJ), (2, .int p2)] := hl
  obtain ⟨hx, hb, hr, hml, hown, hts, hlocks, hA, hK, hN, tL, tM, hZL, hTL, hZM, hTM, hZX⟩ := id C0
  have hp := hw
  unfold wp_X10_lay_b4 at hp
  refine lv_iconst (v := 0) hx hb aDr.1 aCi ?_
  refine lv_istore_n (lv' := [(3, .int 0), (0, .ref nY), (1, .ref mJ), (2, .int p2)]) hx hb aDr.2.1 rfl hl (by decide) rfl (fun ls hl => ?_)
  obtain ⟨n9, hp⟩ := hp
  exact kb_X10_lay_b4_2 C0 n9 p2 0 xD H locs ls hp hP hD hS (lv_sub hl [1, 2, 3, 0] rfl)
abbrev wd_X10_keep (cI cC cZ cB cJ : ClassId) (a_m nY sJ eG iY lY jR jW jZ jO oQ bR aY jQ gY iJ mQ lJ jA bG mK jB mW mJ eJ dG : Nat) (bT aG jC bL bY : Int32) (jD : Nat) (mLn oF rP dQ aJ aB bW bZ aR aE bI aW bU fJ dO bM bQ bO jY oX : Int32) (qG xD vJ uI : Nat -> Int32) : va_W := [(a_m, .inr (10, [.ref nY, .int bT, .ref sJ, .ref eG, .ref iY, .ref lY, .int aG, .ref jR, .ref jW, .ref jZ, .ref jO, .int jC, .ref oQ, .int bL, .int bY, rdv jO jQ jD, .int mLn, .int oF, .int rP, .int dQ, .ref bR, .ref aY, .int aJ, .int aB, .ref jQ, .int bW, .int bZ, .int aR, .int aE, .int bI, .int aW, .ref gY, .int bU, .ref iJ, .ref mQ, .int fJ, .ref lJ, .int dO, .ref jA, .ref bG, .int bM, .int bQ, .int bO, .ref mK, .ref jB, .ref mW, .int jY, .int oX, .ref mJ, .ref eJ, .ref dG])), (nY, .inl (cI, 21, .inl qG)), (mJ, .inl (cI, 42, .inl xD)), (eJ, .inl (cZ, 2, .inl vJ)), (dG, .inl (cI, 2, .inl uI))]
abbrev q_X10_keep (dC : Nat -> ClassId) (dI : Nat -> Nat -> Nat) (cI cC cZ cB cJ : ClassId) (A : Nat -> Prop) (a_m nY sJ eG iY lY jR jW jZ jO oQ bR aY jQ gY iJ mQ lJ jA bG mK jB mW mJ eJ dG : Nat) (bT aG jC bL : Int32) (jD : Nat) (mLn oF rP dQ aJ aB bW bZ aR aE bI aW bU fJ dO bM bQ bO jY oX : Int32) (qG : Nat -> Int32) (post : Int32 -> Int32 -> (Nat -> Int32) -> (Nat -> Int32) -> (Nat -> Int32) -> Prop) : Array Value -> State -> Outcome -> State -> Prop := va_Qi (fun (r : Int32) (u : Int32 × (Nat -> Int32) × (Nat -> Int32) × (Nat -> Int32)) => post r u.1 u.2.1 u.2.2.1 u.2.2.2) (fun u t => gB (dC, dI) (tyl cI cC cZ cB cJ) A (wd_X10_keep cI cC cZ cB cJ a_m nY sJ eG iY lY jR jW jZ jO oQ bR aY jQ gY iJ mQ lJ jA bG mK jB mW mJ eJ dG bT aG jC bL u.1 jD mLn oF rP dQ aJ aB bW bZ aR aE bI aW bU fJ dO bM bQ bO jY oX qG u.2.1 u.2.2.1 u.2.2.2) t) A
abbrev rm_X10_keep : Room := { frames := 1, cells := 0, slots := 0, locals := 23 }
def wp_X10_keep (post : Int32 -> Int32 -> (Nat -> Int32) -> (Nat -> Int32) -> (Nat -> Int32) -> Prop) (p0 bY oX : Int32) (qG xD vJ uI : Nat -> Int32) : Prop := aJY (fun r_1 => (¬ r_1 = 0 -> vp_in p0 2 /\ (vp_in p0 2 /\ (∀ v_2 : Int32, v_2 = 21 * p0 -> wp_X10_lay_b4 (fun m_kept_3 => post 1 0 m_kept_3 (upd vJ p0.toNatClampNeg (vp_nar .boolean 1)) (upd uI p0.toNatClampNeg oX)) v_2 qG xD))) /\ (r_1 = 0 -> post 0 0 xD vJ uI)) p0 0 1
set_option maxHeartbeats 4000000 in
set_option maxRecDepth 100000 in
theorem c_X10_keep (l : Launch) (dC : Nat -> ClassId) (dI : Nat -> Nat -> Nat) (cI cC cZ cB cJ : ClassId) (a_m nY sJ eG iY lY jR jW jZ jO oQ bR aY jQ gY iJ mQ lJ jA bG mK jB mW mJ eJ dG sz : Nat) (p0 bT aG jC bL bY : Int32) (jD : Nat) (mLn oF rP dQ aJ aB bW bZ aR aE bI aW bU fJ dO bM bQ bO jY oX : Int32) (qG xD vJ uI : Nat -> Int32) (post : Int32 -> Int32 -> (Nat -> Int32) -> (Nat -> Int32) -> (Nat -> Int32) -> Prop) (hw : wp_X10_keep post p0 bY oX qG xD vJ uI) : Met l yX10_keep (gw yX10_keep aLz 2 (some .boolean)) rm_X10_keep (va_Pc [.ref a_m, .int p0] (gPre (dC, dI) (tyl cI cC cZ cB cJ) (wd_X10_keep cI cC cZ cB cJ a_m nY sJ eG iY lY jR jW jZ jO oQ bR aY jQ gY iJ mQ lJ jA bG mK jB mW mJ eJ dG bT aG jC bL bY jD mLn oF rP dQ aJ aB bW bZ aR aE bI aW bU fJ dO bM bQ bO jY oX qG xD vJ uI) sz)) (q_X10_keep dC dI cI cC cZ cB cJ (va_A (wd_X10_keep cI cC cZ cB cJ a_m nY sJ eG iY lY jR jW jZ jO oQ bR aY jQ gY iJ mQ lJ jA bG mK jB mW mJ eJ dG bT aG jC bL bY jD mLn oF rP dQ aJ aB bW bZ aR aE bI aW bU fJ dO bM bQ bO jY oX qG xD vJ uI) sz) a_m nY sJ eG iY lY jR jW jZ jO oQ bR aY jQ gY iJ mQ lJ jA bG mK jB mW mJ eJ dG bT aG jC bL jD mLn oF rP dQ aJ aB bW bZ aR aE bI aW bU fJ dO bM bQ bO jY oX qG post) 0 0 (va_A (wd_X10_keep cI cC cZ cB cJ a_m nY sJ eG iY lY jR jW jZ jO oQ bR aY jQ gY iJ mQ lJ jA bG mK jB mW mJ eJ dG bT aG jC bL bY jD mLn oF rP dQ aJ aB bW bZ aR aE bI aW bU fJ dO bM bQ bO jY oX qG xD vJ uI) sz) := by
  refine aBJ (own := zX) (dC, dI) (tyl cI cC cZ cB cJ) (wd_X10_keep cI cC cZ cB cJ a_m nY sJ eG iY lY jR jW jZ jO oQ bR aY jQ gY iJ mQ lJ jA bG mK jB mW mJ eJ dG bT aG jC bL bY jD mLn oF rP dQ aJ aB bW bZ aR aE bI aW bU fJ dO bM bQ bO jY oX qG xD vJ uI) sz [.ref a_m, .int p0] (fun A => q_X10_keep dC dI cI cC cZ cB cJ A a_m nY sJ eG iY lY jR jW jZ jO oQ bR aY jQ gY iJ mQ lJ jA bG mK jB mW mJ eJ dG bT aG jC bL jD mLn oF rP dQ aJ aB bW bZ aR aE bI aW bU fJ dO bM bQ bO jY oX qG post) aFY rfl (lbz rfl) ?_
  intro p e s m args below meth c A H locs ls C0 hP hD hS hl
  have hl : lv_has ls 2 [(0, .ref a_m), (1, .int p0)] := hl
  obtain ⟨hx, hb, hr, hml, hown, hts, hlocks, hA, hK, hN, tL, tM, hZL, hTL, hZM, hTM, hZX⟩ := id C0
  have hp := hw
  unfold wp_X10_keep at hp
  refine lv_aload_n hx hb bAH.1 rfl (lv_at hl 0 rfl) ?_
  refine lv_iconst (v := 0) hx hb bAH.2.1 aCi ?_
  refine va_put (D := (dC, dI)) (ci := 10) (v := .int 0) (ty := .int) (C := zX) (T := aBe) (N := 51) hx hb hts aAt aD2 aAa aEC hown hK hP hD hS 0 rfl rfl 14 (lbz rfl) (hts _ q_638) (fun _ h9 => h9) rfl (aAa 14 (lbz rfl)) rfl rfl (lbz rfl) bAH.2.2.1 (fun H locs hP hD hS => ?_)
  have hPD := PDw (ws' := (wd_X10_keep cI cC cZ cB cJ a_m nY sJ eG iY lY jR jW jZ jO oQ bR aY jQ gY iJ mQ lJ jA bG mK jB mW mJ eJ dG bT aG jC bL 0 jD mLn oF rP dQ aJ aB bW bZ aR aE bI aW bU fJ dO bM bQ bO jY oX qG xD vJ uI)) hP hD rfl
  have hP := hPD.1
  have hD := hPD.2
  refine lv_iload_n hx hb bAH.2.2.2.1 rfl (lv_at hl 1 rfl) ?_
  refine lv_iconst (v := 0) hx hb bAH.2.2.2.2.1 aCi ?_
  refine lv_iconst (v := 1) hx hb bAH.2.2.2.2.2.1 aDx ?_
  have hm := mgk (wc := (aKW cI cC cZ cB cJ)) hP mk_23 5 rfl rfl rfl
  refine yW hP hD hS hA (yS mk_23) (aAi mk_23) hm.1 hm.2 (aAk _) (zW _) (aDn (As := [.int p0, .int 0, .int 1]) (rest := []) C0 hP hD hS (yS mk_23) hm.1 (aAl _) (aRu l dC dI cI cC cZ cB cJ H.size p0 0 1 _ hp) q_641 q_644 q_643 aBL aRx rfl rfl ⟨lbz rfl, lbz rfl⟩ rfl rfl hl.1 rfl (lv_room (lbz rfl)) bAH.2.2.2.2.2.2.1 ⟨Nat.zero_le _, Nat.zero_le _⟩) (fun r_1 u H locs hp hP hD hS => ?_)
  have hPD := PDm (ws' := (wd_X10_keep cI cC cZ cB cJ a_m nY sJ eG iY lY jR jW jZ jO oQ bR aY jQ gY iJ mQ lJ jA bG mK jB mW mJ eJ dG bT aG jC bL 0 jD mLn oF rP dQ aJ aB bW bZ aR aE bI aW bU fJ dO bM bQ bO jY oX qG xD vJ uI)) hP hD 5 rfl rfl rfl
  have hP := hPD.1
  have hD := hPD.2
  refine lv_if_ne (tgt := 16) hx hb bAH.2.2.2.2.2.2.2.1 (by decide) (fun hc => ?_) (fun hc => ?_)
  · have hp := hp.1 hc
    refine lv_aload_n hx hb bAH.2.2.2.2.2.2.2.2.2.2.1 rfl (lv_at hl 0 rfl) ?_
    refine va_get (D := (dC, dI)) (ci := 10) (v := .ref eJ) (C := zX) (T := aBe) (N := 51) hx hb hts aAt hown hK hP 0 rfl rfl 49 (lbz rfl) (hts _ q_965) (fun _ h9 => h9) rfl bAH.2.2.2.2.2.2.2.2.2.2.2.1 ?_
    refine lv_iload_n hx hb bAH.2.2.2.2.2.2.2.2.2.2.2.2.1 rfl (lv_at hl 1 rfl) ?_
    refine lv_iconst (v := 1) hx hb bAH.2.2.2.2.2.2.2.2.2.2.2.2.2.1 aDx ?_
    have hin := hp.1
    have hp := hp.2
    refine va_zast hx hb hK hP hD hS 3 2 rfl rfl hin bAH.2.2.2.2.2.2.2.2.2.2.2.2.2.2.1 (fun H locs hP hD hS => ?_)
    have hPD := PDw (ws' := (wd_X10_keep cI cC cZ cB cJ a_m nY sJ eG iY lY jR jW jZ jO oQ bR aY jQ gY iJ mQ lJ jA bG mK jB mW mJ eJ dG bT aG jC bL 0 jD mLn oF rP dQ aJ aB bW bZ aR aE bI aW bU fJ dO bM bQ bO jY oX qG xD (upd vJ p0.toNatClampNeg (vp_nar .boolean 1)) uI)) hP hD rfl
    have hP := hPD.1
    have hD := hPD.2
    refine lv_aload_n hx hb bAH.2.2.2.2.2.2.2.2.2.2.2.2.2.2.2 rfl (lv_at hl 0 rfl) ?_
    refine va_get (D := (dC, dI)) (ci := 10) (v := .ref dG) (C := zX) (T := aBe) (N := 51) hx hb hts aAt hown hK hP 0 rfl rfl 50 (lbz rfl) (hts _ q_966) (fun _ h9 => h9) rfl aYV.1 ?_
    refine lv_iload_n hx hb aYV.2.1 rfl (lv_at hl 1 rfl) ?_
    refine lv_aload_n hx hb aYV.2.2.1 rfl (lv_at hl 0 rfl) ?_
    refine va_get (D := (dC, dI)) (ci := 10) (v := .int oX) (C := zX) (T := aBe) (N := 51) hx hb hts aAt hown hK hP 0 rfl rfl 47 (lbz rfl) (hts _ q_685) (fun _ h9 => h9) rfl aYV.2.2.2.1 ?_
    have hin := hp.1
    have hp := hp.2
    refine va_iast hx hb hK hP hD hS 4 0 rfl rfl hin aYV.2.2.2.2.1 (fun H locs hP hD hS => ?_)
    have hPD := PDw (ws' := (wd_X10_keep cI cC cZ cB cJ a_m nY sJ eG iY lY jR jW jZ jO oQ bR aY jQ gY iJ mQ lJ jA bG mK jB mW mJ eJ dG bT aG jC bL 0 jD mLn oF rP dQ aJ aB bW bZ aR aE bI aW bU fJ dO bM bQ bO jY oX qG xD (upd vJ p0.toNatClampNeg (vp_nar .boolean 1)) (upd uI p0.toNatClampNeg oX))) hP hD rfl
    have hP := hPD.1
    have hD := hPD.2
    refine lv_aload_n hx hb aYV.2.2.2.2.2.1 rfl (lv_at hl 0 rfl) ?_
    refine va_get (D := (dC, dI)) (ci := 10) (v := .ref nY) (C := zX) (T := aBe) (N := 51) hx hb hts aAt hown hK hP 0 rfl rfl 0 (lbz rfl) (hts _ aHO) (fun _ h9 => h9) rfl aYV.2.2.2.2.2.2.1 ?_
    refine lv_aload_n hx hb aYV.2.2.2.2.2.2.2.1 rfl (lv_at hl 0 rfl) ?_
    refine va_get (D := (dC, dI)) (ci := 10) (v := .ref mJ) (C := zX) (T := aBe) (N := 51) hx hb hts aAt hown hK hP 0 rfl rfl 48 (lbz rfl) (hts _ q_967) (fun _ h9 => h9) rfl aYV.2.2.2.2.2.2.2.2.1 ?_
    refine lv_bipush (v := 21) hx hb aYV.2.2.2.2.2.2.2.2.2.1 bp_21 ?_
    refine lv_iload_n hx hb aYV.2.2.2.2.2.2.2.2.2.2.1 rfl (lv_at hl 1 rfl) ?_
    refine lv_imul hx hb aYV.2.2.2.2.2.2.2.2.2.2.2.1 ?_
    refine lv_topi (fun v_2 aGO => ?_)
    have hp := hp v_2 aGO
    have hm := mgk (wc := (aYB cI cC cZ cB cJ nY mJ qG xD)) hP mk_45 5 rfl rfl rfl
    refine aBn hP hD hS hA (yS mk_45) (aAi mk_45) hm.1 hm.2 (aAk _) (zW _) (aDn (As := [.ref nY, .ref mJ, .int v_2]) (rest := []) C0 hP hD hS (yS mk_45) hm.1 (aAl _) (c_X10_lay_b4 l dC dI cI cC cZ cB cJ nY mJ H.size v_2 qG xD _ hp) q_768 q_770 q_769 aBL h_X10_lay rfl rfl ⟨lbz rfl, lbz rfl⟩ rfl rfl hl.1 rfl (lv_room (lbz rfl)) aYV.2.2.2.2.2.2.2.2.2.2.2.2.1 ⟨Nat.zero_le _, Nat.zero_le _⟩) (fun u H locs hp hP hD hS => ?_)
    obtain ⟨m_kept_3, rfl⟩ : ∃ z, z = u := ⟨_, rfl⟩
    have hPD := PDm (ws' := (wd_X10_keep cI cC cZ cB cJ a_m nY sJ eG iY lY jR jW jZ jO oQ bR aY jQ gY iJ mQ lJ jA bG mK jB mW mJ eJ dG bT aG jC bL 0 jD mLn oF rP dQ aJ aB bW bZ aR aE bI aW bU fJ dO bM bQ bO jY oX qG m_kept_3 (upd vJ p0.toNatClampNeg (vp_nar .boolean 1)) (upd uI p0.toNatClampNeg oX))) hP hD 5 rfl rfl rfl
    have hP := hPD.1
    have hD := hPD.2
    refine lv_iconst (v := 1) hx hb aYV.2.2.2.2.2.2.2.2.2.2.2.2.2.1 aDx ?_
    exact W.zret (v := 1) hx hb hr rfl (fun t ht hW => ⟨⟨1, (0, m_kept_3, (upd vJ p0.toNatClampNeg (vp_nar .boolean 1)), (upd uI p0.toNatClampNeg oX)), rfl, hp, by rw [ht]; exact hP, va_K.moved hW.alike hK, hD⟩, hS.F ht⟩) hS.2.2 aYV.2.2.2.2.2.2.2.2.2.2.2.2.2.2
  · have hp := hp.2 hc
    refine lv_iconst (v := 0) hx hb bAH.2.2.2.2.2.2.2.2.1 aCi ?_
    exact W.zret (v := 0) hx hb hr rfl (fun t ht hW => ⟨⟨0, (0, xD, vJ, uI), rfl, hp, by rw [ht]; exact hP, va_K.moved hW.alike hK, hD⟩, hS.F ht⟩) hS.2.2 bAH.2.2.2.2.2.2.2.2.2.1
abbrev aRL (cI cC cZ cB cJ : ClassId) (a_m nY sJ eG iY lY jR jW jZ jO oQ bR aY jQ gY iJ mQ lJ jA bG mK jB mW mJ eJ dG : Nat) (bT aG jC bL bY : Int32) (jD : Nat) (mLn oF rP dQ aJ aB bW bZ aR aE bI aW bU fJ dO bM bQ bO jY oX : Int32) (qG xD vJ uI : Nat -> Int32) : va_W := [(a_m, .inr (10, [.ref nY, .int bT, .ref sJ, .ref eG, .ref iY, .ref lY, .int aG, .ref jR, .ref jW, .ref jZ, .ref jO, .int jC, .ref oQ, .int bL, .int bY, rdv jO jQ jD, .int mLn, .int oF, .int rP, .int dQ, .ref bR, .ref aY, .int aJ, .int aB, .ref jQ, .int bW, .int bZ, .int aR, .int aE, .int bI, .int aW, .ref gY, .int bU, .ref iJ, .ref mQ, .int fJ, .ref lJ, .int dO, .ref jA, .ref bG, .int bM, .int bQ, .int bO, .ref mK, .ref jB, .ref mW, .int jY, .int oX, .ref mJ, .ref eJ, .ref dG])), (nY, .inl (cI, 21, .inl qG)), (mJ, .inl (cI, 42, .inl xD)), (eJ, .inl (cZ, 2, .inl vJ)), (dG, .inl (cI, 2, .inl uI))]
abbrev q_X10_again (dC : Nat -> ClassId) (dI : Nat -> Nat -> Nat) (cI cC cZ cB cJ : ClassId) (A : Nat -> Prop) (a_m nY sJ eG iY lY jR jW jZ jO oQ bR aY jQ gY iJ mQ lJ jA bG mK jB mW mJ eJ dG : Nat) (bT aG jC bL : Int32) (jD : Nat) (mLn oF rP dQ aJ aB bW bZ aR aE bI aW fJ dO bM bQ bO jY oX : Int32) (xD vJ uI : Nat -> Int32) (post : Int32 -> Int32 -> Int32 -> (Nat -> Int32) -> Prop) : Array Value -> State -> Outcome -> State -> Prop := va_Qi (fun (r : Int32) (u : Int32 × Int32 × (Nat -> Int32)) => post r u.1 u.2.1 u.2.2) (fun u t => gB (dC, dI) (tyl cI cC cZ cB cJ) A (aRL cI cC cZ cB cJ a_m nY sJ eG iY lY jR jW jZ jO oQ bR aY jQ gY iJ mQ lJ jA bG mK jB mW mJ eJ dG bT aG jC bL u.1 jD mLn oF rP dQ aJ aB bW bZ aR aE bI aW u.2.1 fJ dO bM bQ bO jY oX u.2.2 xD vJ uI) t) A
abbrev rm_X10_again : Room := { frames := 1, cells := 0, slots := 0, locals := 22 }
section S_X10_again
variable {p : Program} {l : Launch} {e : Env} {s : State} {m : MethodId} {args : Array Value} {below : List Frame} {meth : Method} {c : Code} {dC : Nat -> ClassId} {dI : Nat -> Nat -> Nat} {cI cC cZ cB cJ : ClassId} {A : Nat -> Prop} {a_m nY sJ eG iY lY jR jW jZ jO oQ bR aY jQ gY iJ mQ lJ jA bG mK jB mW mJ eJ dG : Nat} {bT aG jC bL : Int32} {jD : Nat} {mLn oF rP dQ aJ aB bW bZ aR aE bI aW fJ dO bM bQ bO jY oX : Int32} {xD vJ uI : Nat -> Int32} {post : Int32 -> Int32 -> Int32 -> (Nat -> Int32) -> Prop}
def ws_X10_again_40 (post : Int32 -> Int32 -> Int32 -> (Nat -> Int32) -> Prop) (next : Int32 -> Int32 -> Int32 -> Int32 -> (Nat -> Int32) -> Prop) (oX : Int32) (xD vJ uI : Nat -> Int32) (x1 x2 bY bU : Int32) (qG : Nat -> Int32) : Prop := (21 <= x2 -> post 1 bY 0 qG) /\ (¬ 21 <= x2 -> ∀ v_3 : Int32, v_3 = 21 * x1 -> ∀ v_4 : Int32, v_4 = v_3 + x2 -> vp_in v_4 42 /\ (∀ v_5 : Int32, v_5 = xD v_4.toNatClampNeg -> vp_in x2 21 /\ (∀ v_6 : Int32, v_6 = x2 + 1 -> next x1 v_6 bY bU (upd qG x2.toNatClampNeg v_5))))
noncomputable def wb_X10_again_40 (post : Int32 -> Int32 -> Int32 -> (Nat -> Int32) -> Prop) (oX : Int32) (xD vJ uI : Nat -> Int32) : Nat -> Int32 -> Int32 -> Int32 -> Int32 -> (Nat -> Int32) -> Prop := fun n => Nat.rec (motive := fun _ => Int32 -> Int32 -> Int32 -> Int32 -> (Nat -> Int32) -> Prop) (fun _ _ _ _ _ => False) (fun _ ih => ws_X10_again_40 post ih oX xD vJ uI) n
set_option maxHeartbeats 4000000 in
set_option maxRecDepth 100000 in
theorem ks_X10_again_40 (C0 : gc aFd (some .boolean) 3 zX (dC, dI) (tyl cI cC cZ cB cJ) A p s m args meth c) {next : Int32 -> Int32 -> Int32 -> Int32 -> (Nat -> Int32) -> Prop} (hKn : ∀ (x1 : Int32) (x2 : Int32) (bY : Int32) (bU : Int32) (qG : Nat -> Int32) (H : Heap) (locs : List Loc) (ls : Array Slot), next x1 x2 bY bU qG -> va_P (dC, dI) classes (aRL cI cC cZ cB cJ a_m nY sJ eG iY lY jR jW jZ jO oQ bR aY jQ gY iJ mQ lJ jA bG mK jB mW mJ eJ dG bT aG jC bL bY jD mLn oF rP dQ aJ aB bW bZ aR aE bI aW bU fJ dO bM bQ bO jY oX qG xD vJ uI) H -> va_D A (aRL cI cC cZ cB cJ a_m nY sJ eG iY lY jR jW jZ jO oQ bR aY jQ gY iJ mQ lJ jA bG mK jB mW mJ eJ dG bT aG jC bL bY jD mLn oF rP dQ aJ aB bW bZ aR aE bI aW bU fJ dO bM bQ bO jY oX qG xD vJ uI) -> va_S A s.heap H locs -> lv_has ls 3 [(0, .ref a_m), (1, .int x1), (2, .int x2)] -> W p l e rm_X10_again s m args below meth c H locs 0 0 (MQ below (q_X10_again dC dI cI cC cZ cB cJ A a_m nY sJ eG iY lY jR jW jZ jO oQ bR aY jQ gY iJ mQ lJ jA bG mK jB mW mJ eJ dG bT aG jC bL jD mLn oF rP dQ aJ aB bW bZ aR aE bI aW fJ dO bM bQ bO jY oX xD vJ uI post) args s 0 0 A) (F0 m 40 ls [])) : ∀ (x1 x2 bY bU : Int32) (qG : Nat -> Int32) (H : Heap) (locs : List Loc) (ls : Array Slot), (ws_X10_again_40 post next oX xD vJ uI) x1 x2 bY bU qG -> va_P (dC, dI) classes (aRL cI cC cZ cB cJ a_m nY sJ eG iY lY jR jW jZ jO oQ bR aY jQ gY iJ mQ lJ jA bG mK jB mW mJ eJ dG bT aG jC bL bY jD mLn oF rP dQ aJ aB bW bZ aR aE bI aW bU fJ dO bM bQ bO jY oX qG xD vJ uI) H -> va_D A (aRL cI cC cZ cB cJ a_m nY sJ eG iY lY jR jW jZ jO oQ bR aY jQ gY iJ mQ lJ jA bG mK jB mW mJ eJ dG bT aG jC bL bY jD mLn oF rP dQ aJ aB bW bZ aR aE bI aW bU fJ dO bM bQ bO jY oX qG xD vJ uI) -> va_S A s.heap H locs -> lv_has ls 3 [(0, .ref a_m), (1, .int x1), (2, .int x2)] -> W p l e rm_X10_again s m args below meth c H locs 0 0 (MQ below (q_X10_again dC dI cI cC cZ cB cJ A a_m nY sJ eG iY lY jR jW jZ jO oQ bR aY jQ gY iJ mQ lJ jA bG mK jB mW mJ eJ dG bT aG jC bL jD mLn oF rP dQ aJ aB bW bZ aR aE bI aW fJ dO bM bQ bO jY oX xD vJ uI post) args s 0 0 A) (F0 m 40 ls []) := by
  obtain ⟨hx, hb, hr, hml, hown, hts, hlocks, hA, hK, hN, tL, tM, hZL, hTL, hZM, hTM, hZX⟩ := id C0
  intro x1 x2 bY bU qG H locs ls hp hP hD hS hl
  unfold ws_X10_again_40 at hp
  refine lv_iload_n hx hb aMy.2.2.2.2.2.2.2.2.1 rfl (lv_at hl 2 rfl) ?_
  refine lv_bipush (v := 21) hx hb aMy.2.2.2.2.2.2.2.2.2.1 bp_21 ?_
  refine lv_icmp_ge (tgt := 69) hx hb aMy.2.2.2.2.2.2.2.2.2.2.1 (by decide) (fun hc => ?_) (fun hc => ?_)
  · have hp := hp.1 hc
    refine lv_aload_n hx hb aXy.2.2.2.2.2.2.2.2.2.1 rfl (lv_at hl 0 rfl) ?_
    refine lv_iconst (v := 0) hx hb aXy.2.2.2.2.2.2.2.2.2.2.1 aCi ?_
    refine va_put (D := (dC, dI)) (ci := 10) (v := .int 0) (ty := .int) (C := zX) (T := aBe) (N := 51) hx hb hts aAt aD2 aAa aEC hown hK hP hD hS 0 rfl rfl 32 (lbz rfl) (hts _ q_684) (fun _ h9 => h9) rfl (aAa 32 (lbz rfl)) rfl rfl (lbz rfl) aXy.2.2.2.2.2.2.2.2.2.2.2.1 (fun H locs hP hD hS => ?_)
    have hPD := PDw (ws' := (aRL cI cC cZ cB cJ a_m nY sJ eG iY lY jR jW jZ jO oQ bR aY jQ gY iJ mQ lJ jA bG mK jB mW mJ eJ dG bT aG jC bL bY jD mLn oF rP dQ aJ aB bW bZ aR aE bI aW 0 fJ dO bM bQ bO jY oX qG xD vJ uI)) hP hD rfl
    have hP := hPD.1
    have hD := hPD.2
    refine lv_iconst (v := 1) hx hb aXy.2.2.2.2.2.2.2.2.2.2.2.2.1 aDx ?_
    exact W.zret (v := 1) hx hb hr rfl (fun t ht hW => ⟨⟨1, (bY, 0, qG), rfl, hp, by rw [ht]; exact hP, va_K.moved hW.alike hK, hD⟩, hS.F ht⟩) hS.2.2 aXy.2.2.2.2.2.2.2.2.2.2.2.2.2
  · have hp := hp.2 hc
    refine lv_aload_n hx hb aMy.2.2.2.2.2.2.2.2.2.2.2.1 rfl (lv_at hl 0 rfl) ?_
    refine va_get (D := (dC, dI)) (ci := 10) (v := .ref nY) (C := zX) (T := aBe) (N := 51) hx hb hts aAt hown hK hP 0 rfl rfl 0 (lbz rfl) (hts _ aHO) (fun _ h9 => h9) rfl aMy.2.2.2.2.2.2.2.2.2.2.2.2.1 ?_
    refine lv_iload_n hx hb aMy.2.2.2.2.2.2.2.2.2.2.2.2.2.1 rfl (lv_at hl 2 rfl) ?_
    refine lv_aload_n hx hb aMy.2.2.2.2.2.2.2.2.2.2.2.2.2.2.1 rfl (lv_at hl 0 rfl) ?_
    refine va_get (D := (dC, dI)) (ci := 10) (v := .ref mJ) (C := zX) (T := aBe) (N := 51) hx hb hts aAt hown hK hP 0 rfl rfl 48 (lbz rfl) (hts _ q_967) (fun _ h9 => h9) rfl aMy.2.2.2.2.2.2.2.2.2.2.2.2.2.2.2 ?_
    refine lv_bipush (v := 21) hx hb aXy.1 bp_21 ?_
    refine lv_iload_n hx hb aXy.2.1 rfl (lv_at hl 1 rfl) ?_
    refine lv_imul hx hb aXy.2.2.1 ?_
    refine lv_topi (fun v_3 aGW => ?_)
    have hp := hp v_3 aGW
    refine lv_iload_n hx hb aXy.2.2.2.1 rfl (lv_at hl 2 rfl) ?_
    refine lv_iadd hx hb aXy.2.2.2.2.1 ?_
    refine lv_topi (fun v_4 aHM => ?_)
    have hp := hp v_4 aHM
    have hin := hp.1
    have hp := hp.2
    refine va_iald hx hb hK hP 2 0 rfl rfl hin aXy.2.2.2.2.2.1 ?_
    refine lv_topi (fun v_5 aJD => ?_)
    have hp := hp v_5 aJD
    have hin := hp.1
    have hp := hp.2
    refine va_iast hx hb hK hP hD hS 1 0 rfl rfl hin aXy.2.2.2.2.2.2.1 (fun H locs hP hD hS => ?_)
    have hPD := PDw (ws' := (aRL cI cC cZ cB cJ a_m nY sJ eG iY lY jR jW jZ jO oQ bR aY jQ gY iJ mQ lJ jA bG mK jB mW mJ eJ dG bT aG jC bL bY jD mLn oF rP dQ aJ aB bW bZ aR aE bI aW bU fJ dO bM bQ bO jY oX (upd qG x2.toNatClampNeg v_5) xD vJ uI)) hP hD rfl
    have hP := hPD.1
    have hD := hPD.2
    obtain ⟨v_6, ev_6⟩ : ∃ y : Int32, y = x2 + 1 := ⟨_, rfl⟩
    refine lv_iinc (v := v_6) (lv' := [(2, .int v_6), (0, .ref a_m), (1, .int x1)]) hx hb aXy.2.2.2.2.2.2.2.1 hl (k := 2) rfl (by rw [ev_6]; rfl) (by decide) rfl (fun ls hl => ?_)
    have hp := hp v_6 ev_6
    refine lv_goto (tgt := 40) hx hb aXy.2.2.2.2.2.2.2.2.1 (by decide) ?_
    exact hKn x1 v_6 bY bU (upd qG x2.toNatClampNeg v_5) H locs ls hp hP hD hS (lv_sub hl [1, 2, 0] rfl)
set_option maxHeartbeats 4000000 in
set_option maxRecDepth 100000 in
theorem kb_X10_again_40 (C0 : gc aFd (some .boolean) 3 zX (dC, dI) (tyl cI cC cZ cB cJ) A p s m args meth c) : ∀ (n : Nat), ∀ (x1 x2 bY bU : Int32) (qG : Nat -> Int32) (H : Heap) (locs : List Loc) (ls : Array Slot), (wb_X10_again_40 post oX xD vJ uI n) x1 x2 bY bU qG -> va_P (dC, dI) classes (aRL cI cC cZ cB cJ a_m nY sJ eG iY lY jR jW jZ jO oQ bR aY jQ gY iJ mQ lJ jA bG mK jB mW mJ eJ dG bT aG jC bL bY jD mLn oF rP dQ aJ aB bW bZ aR aE bI aW bU fJ dO bM bQ bO jY oX qG xD vJ uI) H -> va_D A (aRL cI cC cZ cB cJ a_m nY sJ eG iY lY jR jW jZ jO oQ bR aY jQ gY iJ mQ lJ jA bG mK jB mW mJ eJ dG bT aG jC bL bY jD mLn oF rP dQ aJ aB bW bZ aR aE bI aW bU fJ dO bM bQ bO jY oX qG xD vJ uI) -> va_S A s.heap H locs -> lv_has ls 3 [(0, .ref a_m), (1, .int x1), (2, .int x2)] -> W p l e rm_X10_again s m args below meth c H locs 0 0 (MQ below (q_X10_again dC dI cI cC cZ cB cJ A a_m nY sJ eG iY lY jR jW jZ jO oQ bR aY jQ gY iJ mQ lJ jA bG mK jB mW mJ eJ dG bT aG jC bL jD mLn oF rP dQ aJ aB bW bZ aR aE bI aW fJ dO bM bQ bO jY oX xD vJ uI post) args s 0 0 A) (F0 m 40 ls []) := by
  intro n
  induction n with
  | zero =>
    intro x1 x2 bY bU qG H locs ls hp
    exact False.elim hp
  | succ n ih =>
    intro x1 x2 bY bU qG H locs ls hp
    exact ks_X10_again_40 C0 ih x1 x2 bY bU qG H locs ls hp
end S_X10_again
def wp_X10_again (post : Int32 -> Int32 -> Int32 -> (Nat -> Int32) -> Prop) (p0 bY bU oX : Int32) (qG xD vJ uI : Nat -> Int32) : Prop := aJY (fun r_1 => (r_1 = 0 -> post 0 0 bU qG) /\ (¬ r_1 = 0 -> vp_in p0 2 /\ (((vJ p0.toNatClampNeg) = 0 -> post 0 0 bU qG) /\ (¬ (vJ p0.toNatClampNeg) = 0 -> vp_in p0 2 /\ (∀ v_2 : Int32, v_2 = uI p0.toNatClampNeg -> (v_2 = oX -> ∃ n : Nat, wb_X10_again_40 post oX xD vJ uI n p0 0 0 bU qG) /\ (¬ v_2 = oX -> post 0 0 bU qG)))))) p0 0 1
set_option maxHeartbeats 4000000 in
set_option maxRecDepth 100000 in
theorem c_X10_again (l : Launch) (dC : Nat -> ClassId) (dI : Nat -> Nat -> Nat) (cI cC cZ cB cJ : ClassId) (a_m nY sJ eG iY lY jR jW jZ jO oQ bR aY jQ gY iJ mQ lJ jA bG mK jB mW mJ eJ dG sz : Nat) (p0 bT aG jC bL bY : Int32) (jD : Nat) (mLn oF rP dQ aJ aB bW bZ aR aE bI aW bU fJ dO bM bQ bO jY oX : Int32) (qG xD vJ uI : Nat -> Int32) (post : Int32 -> Int32 -> Int32 -> (Nat -> Int32) -> Prop) (hw : wp_X10_again post p0 bY bU oX qG xD vJ uI) : Met l yX10_again (gw yX10_again aFd 3 (some .boolean)) rm_X10_again (va_Pc [.ref a_m, .int p0] (gPre (dC, dI) (tyl cI cC cZ cB cJ) (aRL cI cC cZ cB cJ a_m nY sJ eG iY lY jR jW jZ jO oQ bR aY jQ gY iJ mQ lJ jA bG mK jB mW mJ eJ dG bT aG jC bL bY jD mLn oF rP dQ aJ aB bW bZ aR aE bI aW bU fJ dO bM bQ bO jY oX qG xD vJ uI) sz)) (q_X10_again dC dI cI cC cZ cB cJ (va_A (aRL cI cC cZ cB cJ a_m nY sJ eG iY lY jR jW jZ jO oQ bR aY jQ gY iJ mQ lJ jA bG mK jB mW mJ eJ dG bT aG jC bL bY jD mLn oF rP dQ aJ aB bW bZ aR aE bI aW bU fJ dO bM bQ bO jY oX qG xD vJ uI) sz) a_m nY sJ eG iY lY jR jW jZ jO oQ bR aY jQ gY iJ mQ lJ jA bG mK jB mW mJ eJ dG bT aG jC bL jD mLn oF rP dQ aJ aB bW bZ aR aE bI aW fJ dO bM bQ bO jY oX xD vJ uI post) 0 0 (va_A (aRL cI cC cZ cB cJ a_m nY sJ eG iY lY jR jW jZ jO oQ bR aY jQ gY iJ mQ lJ jA bG mK jB mW mJ eJ dG bT aG jC bL bY jD mLn oF rP dQ aJ aB bW bZ aR aE bI aW bU fJ dO bM bQ bO jY oX qG xD vJ uI) sz) := by
  refine aBJ (own := zX) (dC, dI) (tyl cI cC cZ cB cJ) (aRL cI cC cZ cB cJ a_m nY sJ eG iY lY jR jW jZ jO oQ bR aY jQ gY iJ mQ lJ jA bG mK jB mW mJ eJ dG bT aG jC bL bY jD mLn oF rP dQ aJ aB bW bZ aR aE bI aW bU fJ dO bM bQ bO jY oX qG xD vJ uI) sz [.ref a_m, .int p0] (fun A => q_X10_again dC dI cI cC cZ cB cJ A a_m nY sJ eG iY lY jR jW jZ jO oQ bR aY jQ gY iJ mQ lJ jA bG mK jB mW mJ eJ dG bT aG jC bL jD mLn oF rP dQ aJ aB bW bZ aR aE bI aW fJ dO bM bQ bO jY oX xD vJ uI post) aFY rfl (lbz rfl) ?_
  intro p e s m args below meth c A H locs ls C0 hP hD hS hl
  have hl : lv_has ls 3 [(0, .ref a_m), (1, .int p0)] := hl
  obtain ⟨hx, hb, hr, hml, hown, hts, hlocks, hA, hK, hN, tL, tM, hZL, hTL, hZM, hTM, hZX⟩ := id C0
  have hp := hw
  unfold wp_X10_again at hp
  refine lv_aload_n hx hb aVo.1 rfl (lv_at hl 0 rfl) ?_
  refine lv_iconst (v := 0) hx hb aVo.2.1 aCi ?_
  refine va_put (D := (dC, dI)) (ci := 10) (v := .int 0) (ty := .int) (C := zX) (T := aBe) (N := 51) hx hb hts aAt aD2 aAa aEC hown hK hP hD hS 0 rfl rfl 14 (lbz rfl) (hts _ q_638) (fun _ h9 => h9) rfl (aAa 14 (lbz rfl)) rfl rfl (lbz rfl) aVo.2.2.1 (fun H locs hP hD hS => ?_)
  have hPD := PDw (ws' := (aRL cI cC cZ cB cJ a_m nY sJ eG iY lY jR jW jZ jO oQ bR aY jQ gY iJ mQ lJ jA bG mK jB mW mJ eJ dG bT aG jC bL 0 jD mLn oF rP dQ aJ aB bW bZ aR aE bI aW bU fJ dO bM bQ bO jY oX qG xD vJ uI)) hP hD rfl
  have hP := hPD.1
  have hD := hPD.2
  refine lv_iload_n hx hb aVo.2.2.2.1 rfl (lv_at hl 1 rfl) ?_
  refine lv_iconst (v := 0) hx hb aVo.2.2.2.2.1 aCi ?_
  refine lv_iconst (v := 1) hx hb aVo.2.2.2.2.2.1 aDx ?_
  have hm := mgk (wc := (aKW cI cC cZ cB cJ)) hP mk_23 5 rfl rfl rfl
  refine yW hP hD hS hA (yS mk_23) (aAi mk_23) hm.1 hm.2 (aAk _) (zW _) (aDn (As := [.int p0, .int 0, .int 1]) (rest := []) C0 hP hD hS (yS mk_23) hm.1 (aAl _) (aRu l dC dI cI cC cZ cB cJ H.size p0 0 1 _ hp) q_641 q_644 q_643 aBL aRx rfl rfl ⟨lbz rfl, lbz rfl⟩ rfl rfl hl.1 rfl (lv_room (lbz rfl)) aVo.2.2.2.2.2.2.1 ⟨Nat.zero_le _, Nat.zero_le _⟩) (fun r_1 u H locs hp hP hD hS => ?_)
  have hPD := PDm (ws' := (aRL cI cC cZ cB cJ a_m nY sJ eG iY lY jR jW jZ jO oQ bR aY jQ gY iJ mQ lJ jA bG mK jB mW mJ eJ dG bT aG jC bL 0 jD mLn oF rP dQ aJ aB bW bZ aR aE bI aW bU fJ dO bM bQ bO jY oX qG xD vJ uI)) hP hD 5 rfl rfl rfl
  have hP := hPD.1
  have hD := hPD.2
  refine lv_if_eq (tgt := 36) hx hb aVo.2.2.2.2.2.2.2.1 (by decide) (fun hc => ?_) (fun hc => ?_)
  · have hp := hp.1 hc
    refine lv_iconst (v := 0) hx hb aMy.2.2.2.2.1 aCi ?_
    exact W.zret (v := 0) hx hb hr rfl (fun t ht hW => ⟨⟨0, (0, bU, qG), rfl, hp, by rw [ht]; exact hP, va_K.moved hW.alike hK, hD⟩, hS.F ht⟩) hS.2.2 aMy.2.2.2.2.2.1
  · have hp := hp.2 hc
    refine lv_aload_n hx hb aVo.2.2.2.2.2.2.2.2.1 rfl (lv_at hl 0 rfl) ?_
    refine va_get (D := (dC, dI)) (ci := 10) (v := .ref eJ) (C := zX) (T := aBe) (N := 51) hx hb hts aAt hown hK hP 0 rfl rfl 49 (lbz rfl) (hts _ q_965) (fun _ h9 => h9) rfl aVo.2.2.2.2.2.2.2.2.2.1 ?_
    refine lv_iload_n hx hb aVo.2.2.2.2.2.2.2.2.2.2.1 rfl (lv_at hl 1 rfl) ?_
    have hin := hp.1
    have hp := hp.2
    refine va_zald hx hb hK hP 3 2 rfl rfl hin aVo.2.2.2.2.2.2.2.2.2.2.2.1 ?_
    refine lv_if_eq (tgt := 36) hx hb aVo.2.2.2.2.2.2.2.2.2.2.2.2.1 (by decide) (fun hc => ?_) (fun hc => ?_)
    · have hp := hp.1 hc
      refine lv_iconst (v := 0) hx hb aMy.2.2.2.2.1 aCi ?_
      exact W.zret (v := 0) hx hb hr rfl (fun t ht hW => ⟨⟨0, (0, bU, qG), rfl, hp, by rw [ht]; exact hP, va_K.moved hW.alike hK, hD⟩, hS.F ht⟩) hS.2.2 aMy.2.2.2.2.2.1
    · have hp := hp.2 hc
      refine lv_aload_n hx hb aVo.2.2.2.2.2.2.2.2.2.2.2.2.2.1 rfl (lv_at hl 0 rfl) ?_
      refine va_get (D := (dC, dI)) (ci := 10) (v := .ref dG) (C := zX) (T := aBe) (N := 51) hx hb hts aAt hown hK hP 0 rfl rfl 50 (lbz rfl) (hts _ q_966) (fun _ h9 => h9) rfl aVo.2.2.2.2.2.2.2.2.2.2.2.2.2.2.1 ?_
      refine lv_iload_n hx hb aVo.2.2.2.2.2.2.2.2.2.2.2.2.2.2.2 rfl (lv_at hl 1 rfl) ?_
      have hin := hp.1
      have hp := hp.2
      refine va_iald hx hb hK hP 4 0 rfl rfl hin aMy.1 ?_
      refine lv_topi (fun v_2 aGO => ?_)
      have hp := hp v_2 aGO
      refine lv_aload_n hx hb aMy.2.1 rfl (lv_at hl 0 rfl) ?_
      refine va_get (D := (dC, dI)) (ci := 10) (v := .int oX) (C := zX) (T := aBe) (N := 51) hx hb hts aAt hown hK hP 0 rfl rfl 47 (lbz rfl) (hts _ q_685) (fun _ h9 => h9) rfl aMy.2.2.1 ?_
      refine lv_icmp_eq (tgt := 38) hx hb aMy.2.2.2.1 (by decide) (fun hc => ?_) (fun hc => ?_)
      · have hp := hp.1 hc
        refine lv_iconst (v := 0) hx hb aMy.2.2.2.2.2.2.1 aCi ?_
        refine lv_istore_n (lv' := [(2, .int 0), (0, .ref a_m), (1, .int p0)]) hx hb aMy.2.2.2.2.2.2.2.1 rfl hl (by decide) rfl (fun ls hl => ?_)
        obtain ⟨n9, hp⟩ := hp
        exact kb_X10_again_40 C0 n9 p0 0 0 bU qG H locs ls hp hP hD hS (lv_sub hl [1, 2, 0] rfl)
      · have hp := hp.2 hc
        refine lv_iconst (v := 0) hx hb aMy.2.2.2.2.1 aCi ?_
        exact W.zret (v := 0) hx hb hr rfl (fun t ht hW => ⟨⟨0, (0, bU, qG), rfl, hp, by rw [ht]; exact hP, va_K.moved hW.alike hK, hD⟩, hS.F ht⟩) hS.2.2 aMy.2.2.2.2.2.1
abbrev wd_X10_count (cI cC cZ cB cJ : ClassId) (a_m nY sJ eG iY lY jR jW jZ jO oQ bR aY jQ gY iJ mQ lJ jA bG mK jB mW mJ eJ dG : Nat) (bT aG jC bL bY : Int32) (jD : Nat) (mLn oF rP dQ aJ aB bW bZ aR aE bI aW bU fJ dO bM bQ bO jY oX : Int32) (qG pW : Nat -> Int32) : va_W := [(a_m, .inr (10, [.ref nY, .int bT, .ref sJ, .ref eG, .ref iY, .ref lY, .int aG, .ref jR, .ref jW, .ref jZ, .ref jO, .int jC, .ref oQ, .int bL, .int bY, rdv jO jQ jD, .int mLn, .int oF, .int rP, .int dQ, .ref bR, .ref aY, .int aJ, .int aB, .ref jQ, .int bW, .int bZ, .int aR, .int aE, .int bI, .int aW, .ref gY, .int bU, .ref iJ, .ref mQ, .int fJ, .ref lJ, .int dO, .ref jA, .ref bG, .int bM, .int bQ, .int bO, .ref mK, .ref jB, .ref mW, .int jY, .int oX, .ref mJ, .ref eJ, .ref dG])), (nY, .inl (cI, 21, .inl qG)), (iY, .inl (cI, 16, .inl pW))]
abbrev q_X10_count (dC : Nat -> ClassId) (dI : Nat -> Nat -> Nat) (cI cC cZ cB cJ : ClassId) (A : Nat -> Prop) (a_m nY sJ eG iY lY jR jW jZ jO oQ bR aY jQ gY iJ mQ lJ jA bG mK jB mW mJ eJ dG : Nat) (bT aG jC bL : Int32) (jD : Nat) (mLn oF rP dQ aJ aB bW bZ aR aE bI aW bU fJ dO bM bQ bO jY oX : Int32) (qG pW : Nat -> Int32) (post : Int32 -> Int32 -> Prop) : Array Value -> State -> Outcome -> State -> Prop := va_Qi (fun (r u : Int32) => post r u) (fun u t => gB (dC, dI) (tyl cI cC cZ cB cJ) A (wd_X10_count cI cC cZ cB cJ a_m nY sJ eG iY lY jR jW jZ jO oQ bR aY jQ gY iJ mQ lJ jA bG mK jB mW mJ eJ dG bT aG jC bL u jD mLn oF rP dQ aJ aB bW bZ aR aE bI aW bU fJ dO bM bQ bO jY oX qG pW) t) A
abbrev rm_X10_count : Room := { frames := 3, cells := 0, slots := 0, locals := 67 }
section S_X10_count
variable {p : Program} {l : Launch} {e : Env} {s : State} {m : MethodId} {args : Array Value} {below : List Frame} {meth : Method} {c : Code} {dC : Nat -> ClassId} {dI : Nat -> Nat -> Nat} {cI cC cZ cB cJ : ClassId} {A : Nat -> Prop} {a_m nY sJ eG iY lY jR jW jZ jO oQ bR aY jQ gY iJ mQ lJ jA bG mK jB mW mJ eJ dG : Nat} {bT aG jC bL : Int32} {jD : Nat} {mLn oF rP dQ aJ aB bW bZ aR aE bI aW bU fJ dO bM bQ bO jY oX : Int32} {qG pW : Nat -> Int32} {post : Int32 -> Int32 -> Prop}
def ws_X10_count_110 (post : Int32 -> Int32 -> Prop) (bT aG jC bL bU : Int32) (qG pW : Nat -> Int32) (x1 bY : Int32) : Prop := ∀ v_1 : Int32, v_1 = x1 - 5 -> aIB (fun r_2 => post r_2 bY) v_1 bT qG
set_option maxHeartbeats 4000000 in
set_option maxRecDepth 100000 in
theorem ks_X10_count_110 (C0 : gc aDk (some .int) 2 zX (dC, dI) (tyl cI cC cZ cB cJ) A p s m args meth c) : ∀ (x1 bY : Int32) (H : Heap) (locs : List Loc) (ls : Array Slot), (ws_X10_count_110 post bT aG jC bL bU qG pW) x1 bY -> va_P (dC, dI) classes (wd_X10_count cI cC cZ cB cJ a_m nY sJ eG iY lY jR jW jZ jO oQ bR aY jQ gY iJ mQ lJ jA bG mK jB mW mJ eJ dG bT aG jC bL bY jD mLn oF rP dQ aJ aB bW bZ aR aE bI aW bU fJ dO bM bQ bO jY oX qG pW) H -> va_D A (wd_X10_count cI cC cZ cB cJ a_m nY sJ eG iY lY jR jW jZ jO oQ bR aY jQ gY iJ mQ lJ jA bG mK jB mW mJ eJ dG bT aG jC bL bY jD mLn oF rP dQ aJ aB bW bZ aR aE bI aW bU fJ dO bM bQ bO jY oX qG pW) -> va_S A s.heap H locs -> lv_has ls 2 [(0, .ref a_m), (1, .int x1)] -> W p l e rm_X10_count s m args below meth c H locs 0 0 (MQ below (q_X10_count dC dI cI cC cZ cB cJ A a_m nY sJ eG iY lY jR jW jZ jO oQ bR aY jQ gY iJ mQ lJ jA bG mK jB mW mJ eJ dG bT aG jC bL jD mLn oF rP dQ aJ aB bW bZ aR aE bI aW bU fJ dO bM bQ bO jY oX qG pW post) args s 0 0 A) (F0 m 110 ls []) := by
  obtain ⟨hx, hb, hr, hml, hown, hts, hlocks, hA, hK, hN, tL, tM, hZL, hTL, hZM, hTM, hZX⟩ := id C0
  intro x1 bY H locs ls hp hP hD hS hl
  unfold ws_X10_count_110 at hp
  refine lv_aload_n hx hb aSg.2.2.2.2.2.2.2.2.2.2.1 rfl (lv_at hl 0 rfl) ?_
  refine lv_aload_n hx hb aSg.2.2.2.2.2.2.2.2.2.2.2.1 rfl (lv_at hl 0 rfl) ?_
  refine va_get (D := (dC, dI)) (ci := 10) (v := .ref nY) (C := zX) (T := aBe) (N := 51) hx hb hts aAt hown hK hP 0 rfl rfl 0 (lbz rfl) (hts _ aHO) (fun _ h9 => h9) rfl aSg.2.2.2.2.2.2.2.2.2.2.2.2.1 ?_
  refine lv_iload_n hx hb aSg.2.2.2.2.2.2.2.2.2.2.2.2.2.1 rfl (lv_at hl 1 rfl) ?_
  refine lv_iconst (v := 5) hx hb aSg.2.2.2.2.2.2.2.2.2.2.2.2.2.2.1 ic_5 ?_
  refine lv_isub hx hb aSg.2.2.2.2.2.2.2.2.2.2.2.2.2.2.2 ?_
  refine lv_topi (fun v_1 aFJ => ?_)
  have hp := hp v_1 aFJ
  have hm := mgk (wc := (aGS cI cC cZ cB cJ a_m nY sJ eG iY lY jR jW jZ jO oQ bR aY jQ gY iJ mQ lJ jA bG mK jB mW mJ eJ dG bT aG jC bL bY jD mLn oF rP dQ aJ aB bW bZ aR aE bI aW bU fJ dO bM bQ bO jY oX qG)) hP mk_137 3 rfl rfl rfl
  refine yW hP hD hS hA (yS mk_137) (aAi mk_137) hm.1 hm.2 (aAk _) (zW _) (zF (As := [.ref nY, .int v_1]) (rest := []) C0 hP hD hS (yS mk_137) hm.1 (aAl _) 0 10 rfl rfl (aRP l dC dI cI cC cZ cB cJ a_m nY sJ eG iY lY jR jW jZ jO oQ bR aY jQ gY iJ mQ lJ jA bG mK jB mW mJ eJ dG H.size v_1 bT aG jC bL bY jD mLn oF rP dQ aJ aB bW bZ aR aE bI aW bU fJ dO bM bQ bO jY oX qG _ hp) q_749 q_752 q_750 q_751 aBL aRR rfl rfl ⟨lbz rfl, lbz rfl⟩ rfl rfl hl.1 rfl (lv_room (lbz rfl)) aPz.1 ⟨Nat.zero_le _, Nat.zero_le _⟩) (fun r_2 u H locs hp hP hD hS => ?_)
  have hPD := PDm (ws' := (wd_X10_count cI cC cZ cB cJ a_m nY sJ eG iY lY jR jW jZ jO oQ bR aY jQ gY iJ mQ lJ jA bG mK jB mW mJ eJ dG bT aG jC bL bY jD mLn oF rP dQ aJ aB bW bZ aR aE bI aW bU fJ dO bM bQ bO jY oX qG pW)) hP hD 3 rfl rfl rfl
  have hP := hPD.1
  have hD := hPD.2
  exact W.iret (v := r_2) hx hb hr (fun t ht hW => ⟨⟨r_2, bY, rfl, hp, by rw [ht]; exact hP, va_K.moved hW.alike hK, hD⟩, hS.F ht⟩) hS.2.2 aPz.2.1
end S_X10_count
def wp_X10_count (post : Int32 -> Int32 -> Prop) (p0 bT aG jC bL bY bU : Int32) (qG pW : Nat -> Int32) : Prop := (p0 = 0 -> post bT 0) /\ (p0 = 1 -> post aG 0) /\ (p0 = 2 -> post (qG (17 : Int32).toNatClampNeg) 0) /\ (p0 = 3 -> post (qG (19 : Int32).toNatClampNeg) 0) /\ (p0 = 4 -> post (qG (20 : Int32).toNatClampNeg) 0) /\ (p0 = 5 -> ws_X10_count_110 post bT aG jC bL bU qG pW p0 0) /\ (p0 = 6 -> ws_X10_count_110 post bT aG jC bL bU qG pW p0 0) /\ (p0 = 7 -> ws_X10_count_110 post bT aG jC bL bU qG pW p0 0) /\ (p0 = 8 -> ws_X10_count_110 post bT aG jC bL bU qG pW p0 0) /\ (p0 = 9 -> post (qG (16 : Int32).toNatClampNeg) 0) /\ (p0 = 10 -> aIB (fun r_3 => ∀ v_4 : Int32, v_4 = qG (16 : Int32).toNatClampNeg -> aMp (fun r_5 => post r_5 0) r_3 v_4 bT pW) 2 bT qG) /\ (p0 = 11 -> post bU 0) /\ (p0 = 12 -> post bL 0) /\ (p0 = 13 -> post jC 0) /\ (¬ p0 = 0 -> ¬ p0 = 1 -> ¬ p0 = 2 -> ¬ p0 = 3 -> ¬ p0 = 4 -> ¬ p0 = 5 -> ¬ p0 = 6 -> ¬ p0 = 7 -> ¬ p0 = 8 -> ¬ p0 = 9 -> ¬ p0 = 10 -> ¬ p0 = 11 -> ¬ p0 = 12 -> ¬ p0 = 13 -> post (-100) 0)
set_option maxHeartbeats 4000000 in
set_option maxRecDepth 100000 in
theorem c_X10_count (l : Launch) (dC : Nat -> ClassId) (dI : Nat -> Nat -> Nat) (cI cC cZ cB cJ : ClassId) (a_m nY sJ eG iY lY jR jW jZ jO oQ bR aY jQ gY iJ mQ lJ jA bG mK jB mW mJ eJ dG sz : Nat) (p0 bT aG jC bL bY : Int32) (jD : Nat) (mLn oF rP dQ aJ aB bW bZ aR aE bI aW bU fJ dO bM bQ bO jY oX : Int32) (qG pW : Nat -> Int32) (post : Int32 -> Int32 -> Prop) (hw : wp_X10_count post p0 bT aG jC bL bY bU qG pW) : Met l yX10_count (gw yX10_count aDk 2 (some .int)) rm_X10_count (va_Pc [.ref a_m, .int p0] (gPre (dC, dI) (tyl cI cC cZ cB cJ) (wd_X10_count cI cC cZ cB cJ a_m nY sJ eG iY lY jR jW jZ jO oQ bR aY jQ gY iJ mQ lJ jA bG mK jB mW mJ eJ dG bT aG jC bL bY jD mLn oF rP dQ aJ aB bW bZ aR aE bI aW bU fJ dO bM bQ bO jY oX qG pW) sz)) (q_X10_count dC dI cI cC cZ cB cJ (va_A (wd_X10_count cI cC cZ cB cJ a_m nY sJ eG iY lY jR jW jZ jO oQ bR aY jQ gY iJ mQ lJ jA bG mK jB mW mJ eJ dG bT aG jC bL bY jD mLn oF rP dQ aJ aB bW bZ aR aE bI aW bU fJ dO bM bQ bO jY oX qG pW) sz) a_m nY sJ eG iY lY jR jW jZ jO oQ bR aY jQ gY iJ mQ lJ jA bG mK jB mW mJ eJ dG bT aG jC bL jD mLn oF rP dQ aJ aB bW bZ aR aE bI aW bU fJ dO bM bQ bO jY oX qG pW post) 0 0 (va_A (wd_X10_count cI cC cZ cB cJ a_m nY sJ eG iY lY jR jW jZ jO oQ bR aY jQ gY iJ mQ lJ jA bG mK jB mW mJ eJ dG bT aG jC bL bY jD mLn oF rP dQ aJ aB bW bZ aR aE bI aW bU fJ dO bM bQ bO jY oX qG pW) sz) := by
  refine aBJ (own := zX) (dC, dI) (tyl cI cC cZ cB cJ) (wd_X10_count cI cC cZ cB cJ a_m nY sJ eG iY lY jR jW jZ jO oQ bR aY jQ gY iJ mQ lJ jA bG mK jB mW mJ eJ dG bT aG jC bL bY jD mLn oF rP dQ aJ aB bW bZ aR aE bI aW bU fJ dO bM bQ bO jY oX qG pW) sz [.ref a_m, .int p0] (fun A => q_X10_count dC dI cI cC cZ cB cJ A a_m nY sJ eG iY lY jR jW jZ jO oQ bR aY jQ gY iJ mQ lJ jA bG mK jB mW mJ eJ dG bT aG jC bL jD mLn oF rP dQ aJ aB bW bZ aR aE bI aW bU fJ dO bM bQ bO jY oX qG pW post) aFY rfl (lbz rfl) ?_
  intro p e s m args below meth c A H locs ls C0 hP hD hS hl
  have hl : lv_has ls 2 [(0, .ref a_m), (1, .int p0)] := hl
  obtain ⟨hx, hb, hr, hml, hown, hts, hlocks, hA, hK, hN, tL, tM, hZL, hTL, hZM, hTM, hZX⟩ := id C0
  have hp := hw
  unfold wp_X10_count at hp
  refine lv_aload_n hx hb aH6.1 rfl (lv_at hl 0 rfl) ?_
  refine lv_iconst (v := 0) hx hb aH6.2.1 aCi ?_
  refine va_put (D := (dC, dI)) (ci := 10) (v := .int 0) (ty := .int) (C := zX) (T := aBe) (N := 51) hx hb hts aAt aD2 aAa aEC hown hK hP hD hS 0 rfl rfl 14 (lbz rfl) (hts _ q_638) (fun _ h9 => h9) rfl (aAa 14 (lbz rfl)) rfl rfl (lbz rfl) aH6.2.2.1 (fun H locs hP hD hS => ?_)
  have hPD := PDw (ws' := (wd_X10_count cI cC cZ cB cJ a_m nY sJ eG iY lY jR jW jZ jO oQ bR aY jQ gY iJ mQ lJ jA bG mK jB mW mJ eJ dG bT aG jC bL 0 jD mLn oF rP dQ aJ aB bW bZ aR aE bI aW bU fJ dO bM bQ bO jY oX qG pW)) hP hD rfl
  have hP := hPD.1
  have hD := hPD.2
  refine lv_iload_n hx hb aH6.2.2.2.1 rfl (lv_at hl 1 rfl) ?_
  by_cases hc0 : p0 = 0
  · have hp := hp.1 hc0
    refine lv_tableIn (tgt := 76) hx hb aH6.2.2.2.2.1 (by first | (rw [hc0]; done) | (rw [hc0]; decide)) (by first | (rw [hc0]; done) | (rw [hc0]; decide)) (by first | (rw [hc0]; done) | (rw [hc0]; rfl)) (by decide) ?_
    refine lv_aload_n hx hb aH6.2.2.2.2.2.1 rfl (lv_at hl 0 rfl) ?_
    refine va_get (D := (dC, dI)) (ci := 10) (v := .int bT) (C := zX) (T := aBe) (N := 51) hx hb hts aAt hown hK hP 0 rfl rfl 1 (lbz rfl) (hts _ q_677) (fun _ h9 => h9) rfl aH6.2.2.2.2.2.2.1 ?_
    exact W.iret (v := bT) hx hb hr (fun t ht hW => ⟨⟨bT, 0, rfl, hp, by rw [ht]; exact hP, va_K.moved hW.alike hK, hD⟩, hS.F ht⟩) hS.2.2 aH6.2.2.2.2.2.2.2.1
  by_cases hc1 : p0 = 1
  · have hp := hp.2.1 hc1
    refine lv_tableIn (tgt := 81) hx hb aH6.2.2.2.2.1 (by first | (rw [hc1]; done) | (rw [hc1]; decide)) (by first | (rw [hc1]; done) | (rw [hc1]; decide)) (by first | (rw [hc1]; done) | (rw [hc1]; rfl)) (by decide) ?_
    refine lv_aload_n hx hb aH6.2.2.2.2.2.2.2.2.1 rfl (lv_at hl 0 rfl) ?_
    refine va_get (D := (dC, dI)) (ci := 10) (v := .int aG) (C := zX) (T := aBe) (N := 51) hx hb hts aAt hown hK hP 0 rfl rfl 6 (lbz rfl) (hts _ q_666) (fun _ h9 => h9) rfl aH6.2.2.2.2.2.2.2.2.2.1 ?_
    exact W.iret (v := aG) hx hb hr (fun t ht hW => ⟨⟨aG, 0, rfl, hp, by rw [ht]; exact hP, va_K.moved hW.alike hK, hD⟩, hS.F ht⟩) hS.2.2 aH6.2.2.2.2.2.2.2.2.2.2.1
  by_cases hc2 : p0 = 2
  · have hp := hp.2.2.1 hc2
    refine lv_tableIn (tgt := 86) hx hb aH6.2.2.2.2.1 (by first | (rw [hc2]; done) | (rw [hc2]; decide)) (by first | (rw [hc2]; done) | (rw [hc2]; decide)) (by first | (rw [hc2]; done) | (rw [hc2]; rfl)) (by decide) ?_
    refine lv_aload_n hx hb aH6.2.2.2.2.2.2.2.2.2.2.2.1 rfl (lv_at hl 0 rfl) ?_
    refine va_get (D := (dC, dI)) (ci := 10) (v := .ref nY) (C := zX) (T := aBe) (N := 51) hx hb hts aAt hown hK hP 0 rfl rfl 0 (lbz rfl) (hts _ aHO) (fun _ h9 => h9) rfl aH6.2.2.2.2.2.2.2.2.2.2.2.2.1 ?_
    refine lv_bipush (v := 17) hx hb aH6.2.2.2.2.2.2.2.2.2.2.2.2.2.1 bp_17 ?_
    refine va_iald hx hb hK hP 1 0 rfl rfl (g_in rfl) aH6.2.2.2.2.2.2.2.2.2.2.2.2.2.2.1 ?_
    exact W.iret (v := qG (17 : Int32).toNatClampNeg) hx hb hr (fun t ht hW => ⟨⟨qG (17 : Int32).toNatClampNeg, 0, rfl, hp, by rw [ht]; exact hP, va_K.moved hW.alike hK, hD⟩, hS.F ht⟩) hS.2.2 aH6.2.2.2.2.2.2.2.2.2.2.2.2.2.2.2
  by_cases hc3 : p0 = 3
  · have hp := hp.2.2.2.1 hc3
    refine lv_tableIn (tgt := 94) hx hb aH6.2.2.2.2.1 (by first | (rw [hc3]; done) | (rw [hc3]; decide)) (by first | (rw [hc3]; done) | (rw [hc3]; decide)) (by first | (rw [hc3]; done) | (rw [hc3]; rfl)) (by decide) ?_
    refine lv_aload_n hx hb aSg.1 rfl (lv_at hl 0 rfl) ?_
    refine va_get (D := (dC, dI)) (ci := 10) (v := .ref nY) (C := zX) (T := aBe) (N := 51) hx hb hts aAt hown hK hP 0 rfl rfl 0 (lbz rfl) (hts _ aHO) (fun _ h9 => h9) rfl aSg.2.1 ?_
    refine lv_bipush (v := 19) hx hb aSg.2.2.1 bp_19 ?_
    refine va_iald hx hb hK hP 1 0 rfl rfl (g_in rfl) aSg.2.2.2.1 ?_
    exact W.iret (v := qG (19 : Int32).toNatClampNeg) hx hb hr (fun t ht hW => ⟨⟨qG (19 : Int32).toNatClampNeg, 0, rfl, hp, by rw [ht]; exact hP, va_K.moved hW.alike hK, hD⟩, hS.F ht⟩) hS.2.2 aSg.2.2.2.2.1
  by_cases hc4 : p0 = 4
  · have hp := hp.2.2.2.2.1 hc4
    refine lv_tableIn (tgt := 102) hx hb aH6.2.2.2.2.1 (by first | (rw [hc4]; done) | (rw [hc4]; decide)) (by first | (rw [hc4]; done) | (rw [hc4]; decide)) (by first | (rw [hc4]; done) | (rw [hc4]; rfl)) (by decide) ?_
    refine lv_aload_n hx hb aSg.2.2.2.2.2.1 rfl (lv_at hl 0 rfl) ?_
    refine va_get (D := (dC, dI)) (ci := 10) (v := .ref nY) (C := zX) (T := aBe) (N := 51) hx hb hts aAt hown hK hP 0 rfl rfl 0 (lbz rfl) (hts _ aHO) (fun _ h9 => h9) rfl aSg.2.2.2.2.2.2.1 ?_
    refine lv_bipush (v := 20) hx hb aSg.2.2.2.2.2.2.2.1 bp_20 ?_
    refine va_iald hx hb hK hP 1 0 rfl rfl (g_in rfl) aSg.2.2.2.2.2.2.2.2.1 ?_
    exact W.iret (v := qG (20 : Int32).toNatClampNeg) hx hb hr (fun t ht hW => ⟨⟨qG (20 : Int32).toNatClampNeg, 0, rfl, hp, by rw [ht]; exact hP, va_K.moved hW.alike hK, hD⟩, hS.F ht⟩) hS.2.2 aSg.2.2.2.2.2.2.2.2.2.1
  by_cases hc5 : p0 = 5
  · have hp := hp.2.2.2.2.2.1 hc5
    refine lv_tableIn (tgt := 110) hx hb aH6.2.2.2.2.1 (by first | (rw [hc5]; done) | (rw [hc5]; decide)) (by first | (rw [hc5]; done) | (rw [hc5]; decide)) (by first | (rw [hc5]; done) | (rw [hc5]; rfl)) (by decide) ?_
    exact ks_X10_count_110 C0 p0 0 H locs ls hp hP hD hS (lv_sub hl [0, 1] rfl)
  by_cases hc6 : p0 = 6
  · have hp := hp.2.2.2.2.2.2.1 hc6
    refine lv_tableIn (tgt := 110) hx hb aH6.2.2.2.2.1 (by first | (rw [hc6]; done) | (rw [hc6]; decide)) (by first | (rw [hc6]; done) | (rw [hc6]; decide)) (by first | (rw [hc6]; done) | (rw [hc6]; rfl)) (by decide) ?_
    exact ks_X10_count_110 C0 p0 0 H locs ls hp hP hD hS (lv_sub hl [0, 1] rfl)
  by_cases hc7 : p0 = 7
  · have hp := hp.2.2.2.2.2.2.2.1 hc7
    refine lv_tableIn (tgt := 110) hx hb aH6.2.2.2.2.1 (by first | (rw [hc7]; done) | (rw [hc7]; decide)) (by first | (rw [hc7]; done) | (rw [hc7]; decide)) (by first | (rw [hc7]; done) | (rw [hc7]; rfl)) (by decide) ?_
    exact ks_X10_count_110 C0 p0 0 H locs ls hp hP hD hS (lv_sub hl [0, 1] rfl)
  by_cases hc8 : p0 = 8
  · have hp := hp.2.2.2.2.2.2.2.2.1 hc8
    refine lv_tableIn (tgt := 110) hx hb aH6.2.2.2.2.1 (by first | (rw [hc8]; done) | (rw [hc8]; decide)) (by first | (rw [hc8]; done) | (rw [hc8]; decide)) (by first | (rw [hc8]; done) | (rw [hc8]; rfl)) (by decide) ?_
    exact ks_X10_count_110 C0 p0 0 H locs ls hp hP hD hS (lv_sub hl [0, 1] rfl)
  by_cases hc9 : p0 = 9
  · have hp := hp.2.2.2.2.2.2.2.2.2.1 hc9
    refine lv_tableIn (tgt := 122) hx hb aH6.2.2.2.2.1 (by first | (rw [hc9]; done) | (rw [hc9]; decide)) (by first | (rw [hc9]; done) | (rw [hc9]; decide)) (by first | (rw [hc9]; done) | (rw [hc9]; rfl)) (by decide) ?_
    refine lv_aload_n hx hb aPz.2.2.1 rfl (lv_at hl 0 rfl) ?_
    refine va_get (D := (dC, dI)) (ci := 10) (v := .ref nY) (C := zX) (T := aBe) (N := 51) hx hb hts aAt hown hK hP 0 rfl rfl 0 (lbz rfl) (hts _ aHO) (fun _ h9 => h9) rfl aPz.2.2.2.1 ?_
    refine lv_bipush (v := 16) hx hb aPz.2.2.2.2.1 bp_16 ?_
    refine va_iald hx hb hK hP 1 0 rfl rfl (g_in rfl) aPz.2.2.2.2.2.1 ?_
    exact W.iret (v := qG (16 : Int32).toNatClampNeg) hx hb hr (fun t ht hW => ⟨⟨qG (16 : Int32).toNatClampNeg, 0, rfl, hp, by rw [ht]; exact hP, va_K.moved hW.alike hK, hD⟩, hS.F ht⟩) hS.2.2 aPz.2.2.2.2.2.2.1
  by_cases hc10 : p0 = 10
  · have hp := hp.2.2.2.2.2.2.2.2.2.2.1 hc10
    refine lv_tableIn (tgt := 130) hx hb aH6.2.2.2.2.1 (by first | (rw [hc10]; done) | (rw [hc10]; decide)) (by first | (rw [hc10]; done) | (rw [hc10]; decide)) (by first | (rw [hc10]; done) | (rw [hc10]; rfl)) (by decide) ?_
    refine lv_aload_n hx hb aPz.2.2.2.2.2.2.2.1 rfl (lv_at hl 0 rfl) ?_
    refine lv_aload_n hx hb aPz.2.2.2.2.2.2.2.2.1 rfl (lv_at hl 0 rfl) ?_
    refine lv_aload_n hx hb aPz.2.2.2.2.2.2.2.2.2.1 rfl (lv_at hl 0 rfl) ?_
    refine va_get (D := (dC, dI)) (ci := 10) (v := .ref nY) (C := zX) (T := aBe) (N := 51) hx hb hts aAt hown hK hP 0 rfl rfl 0 (lbz rfl) (hts _ aHO) (fun _ h9 => h9) rfl aPz.2.2.2.2.2.2.2.2.2.2.1 ?_
    refine lv_iconst (v := 2) hx hb aPz.2.2.2.2.2.2.2.2.2.2.2.1 ic_2 ?_
    have hm := mgk (wc := (aGS cI cC cZ cB cJ a_m nY sJ eG iY lY jR jW jZ jO oQ bR aY jQ gY iJ mQ lJ jA bG mK jB mW mJ eJ dG bT aG jC bL 0 jD mLn oF rP dQ aJ aB bW bZ aR aE bI aW bU fJ dO bM bQ bO jY oX qG)) hP mk_137 3 rfl rfl rfl
    refine yW hP hD hS hA (yS mk_137) (aAi mk_137) hm.1 hm.2 (aAk _) (zW _) (zF (As := [.ref nY, .int 2]) (rest := [.ref a_m]) C0 hP hD hS (yS mk_137) hm.1 (aAl _) 0 10 rfl rfl (aRP l dC dI cI cC cZ cB cJ a_m nY sJ eG iY lY jR jW jZ jO oQ bR aY jQ gY iJ mQ lJ jA bG mK jB mW mJ eJ dG H.size 2 bT aG jC bL 0 jD mLn oF rP dQ aJ aB bW bZ aR aE bI aW bU fJ dO bM bQ bO jY oX qG _ hp) q_749 q_752 q_750 q_751 aBL aRR rfl rfl ⟨lbz rfl, lbz rfl⟩ rfl rfl hl.1 rfl (lv_room (lbz rfl)) aPz.2.2.2.2.2.2.2.2.2.2.2.2.1 ⟨Nat.zero_le _, Nat.zero_le _⟩) (fun r_3 u H locs hp hP hD hS => ?_)
    have hPD := PDm (ws' := (wd_X10_count cI cC cZ cB cJ a_m nY sJ eG iY lY jR jW jZ jO oQ bR aY jQ gY iJ mQ lJ jA bG mK jB mW mJ eJ dG bT aG jC bL 0 jD mLn oF rP dQ aJ aB bW bZ aR aE bI aW bU fJ dO bM bQ bO jY oX qG pW)) hP hD 3 rfl rfl rfl
    have hP := hPD.1
    have hD := hPD.2
    refine lv_aload_n hx hb aPz.2.2.2.2.2.2.2.2.2.2.2.2.2.1 rfl (lv_at hl 0 rfl) ?_
    refine va_get (D := (dC, dI)) (ci := 10) (v := .ref nY) (C := zX) (T := aBe) (N := 51) hx hb hts aAt hown hK hP 0 rfl rfl 0 (lbz rfl) (hts _ aHO) (fun _ h9 => h9) rfl aPz.2.2.2.2.2.2.2.2.2.2.2.2.2.2.1 ?_
    refine lv_bipush (v := 16) hx hb aPz.2.2.2.2.2.2.2.2.2.2.2.2.2.2.2 bp_16 ?_
    refine va_iald hx hb hK hP 1 0 rfl rfl (g_in rfl) aUk.1 ?_
    refine lv_topi (fun v_4 aHM => ?_)
    have hp := hp v_4 aHM
    have hm := mgk (wc := (aFo cI cC cZ cB cJ a_m nY sJ eG iY lY jR jW jZ jO oQ bR aY jQ gY iJ mQ lJ jA bG mK jB mW mJ eJ dG bT aG jC bL 0 jD mLn oF rP dQ aJ aB bW bZ aR aE bI aW bU fJ dO bM bQ bO jY oX pW)) hP mk_21 3 rfl rfl rfl
    refine yW hP hD hS hA (yS mk_21) (aAi mk_21) hm.1 hm.2 (aAk _) (zW _) (zF (As := [.int r_3, .int v_4]) (rest := []) C0 hP hD hS (yS mk_21) hm.1 (aAl _) 0 10 rfl rfl (bCS l dC dI cI cC cZ cB cJ a_m nY sJ eG iY lY jR jW jZ jO oQ bR aY jQ gY iJ mQ lJ jA bG mK jB mW mJ eJ dG H.size r_3 v_4 bT aG jC bL 0 jD mLn oF rP dQ aJ aB bW bZ aR aE bI aW bU fJ dO bM bQ bO jY oX pW _ hp) q_865 q_868 q_866 q_867 aBL bCV rfl rfl ⟨lbz rfl, lbz rfl⟩ rfl rfl hl.1 rfl (lv_room (lbz rfl)) aUk.2.1 ⟨Nat.zero_le _, Nat.zero_le _⟩) (fun r_5 u H locs hp hP hD hS => ?_)
    have hPD := PDm (ws' := (wd_X10_count cI cC cZ cB cJ a_m nY sJ eG iY lY jR jW jZ jO oQ bR aY jQ gY iJ mQ lJ jA bG mK jB mW mJ eJ dG bT aG jC bL 0 jD mLn oF rP dQ aJ aB bW bZ aR aE bI aW bU fJ dO bM bQ bO jY oX qG pW)) hP hD 3 rfl rfl rfl
    have hP := hPD.1
    have hD := hPD.2
    exact W.iret (v := r_5) hx hb hr (fun t ht hW => ⟨⟨r_5, 0, rfl, hp, by rw [ht]; exact hP, va_K.moved hW.alike hK, hD⟩, hS.F ht⟩) hS.2.2 aUk.2.2.1
  by_cases hc11 : p0 = 11
  · have hp := hp.2.2.2.2.2.2.2.2.2.2.2.1 hc11
    refine lv_tableIn (tgt := 151) hx hb aH6.2.2.2.2.1 (by first | (rw [hc11]; done) | (rw [hc11]; decide)) (by first | (rw [hc11]; done) | (rw [hc11]; decide)) (by first | (rw [hc11]; done) | (rw [hc11]; rfl)) (by decide) ?_
    refine lv_aload_n hx hb aUk.2.2.2.1 rfl (lv_at hl 0 rfl) ?_
    refine va_get (D := (dC, dI)) (ci := 10) (v := .int bU) (C := zX) (T := aBe) (N := 51) hx hb hts aAt hown hK hP 0 rfl rfl 32 (lbz rfl) (hts _ q_684) (fun _ h9 => h9) rfl aUk.2.2.2.2.1 ?_
    exact W.iret (v := bU) hx hb hr (fun t ht hW => ⟨⟨bU, 0, rfl, hp, by rw [ht]; exact hP, va_K.moved hW.alike hK, hD⟩, hS.F ht⟩) hS.2.2 aUk.2.2.2.2.2.1
  by_cases hc12 : p0 = 12
  · have hp := hp.2.2.2.2.2.2.2.2.2.2.2.2.1 hc12
    refine lv_tableIn (tgt := 156) hx hb aH6.2.2.2.2.1 (by first | (rw [hc12]; done) | (rw [hc12]; decide)) (by first | (rw [hc12]; done) | (rw [hc12]; decide)) (by first | (rw [hc12]; done) | (rw [hc12]; rfl)) (by decide) ?_
    refine lv_aload_n hx hb aUk.2.2.2.2.2.2.1 rfl (lv_at hl 0 rfl) ?_
    refine va_get (D := (dC, dI)) (ci := 10) (v := .int bL) (C := zX) (T := aBe) (N := 51) hx hb hts aAt hown hK hP 0 rfl rfl 13 (lbz rfl) (hts _ q_847) (fun _ h9 => h9) rfl aUk.2.2.2.2.2.2.2.1 ?_
    exact W.iret (v := bL) hx hb hr (fun t ht hW => ⟨⟨bL, 0, rfl, hp, by rw [ht]; exact hP, va_K.moved hW.alike hK, hD⟩, hS.F ht⟩) hS.2.2 aUk.2.2.2.2.2.2.2.2.1
  by_cases hc13 : p0 = 13
  · have hp := hp.2.2.2.2.2.2.2.2.2.2.2.2.2.1 hc13
    refine lv_tableIn (tgt := 161) hx hb aH6.2.2.2.2.1 (by first | (rw [hc13]; done) | (rw [hc13]; decide)) (by first | (rw [hc13]; done) | (rw [hc13]; decide)) (by first | (rw [hc13]; done) | (rw [hc13]; rfl)) (by decide) ?_
    refine lv_aload_n hx hb aUk.2.2.2.2.2.2.2.2.2.1 rfl (lv_at hl 0 rfl) ?_
    refine va_get (D := (dC, dI)) (ci := 10) (v := .int jC) (C := zX) (T := aBe) (N := 51) hx hb hts aAt hown hK hP 0 rfl rfl 11 (lbz rfl) (hts _ q_639) (fun _ h9 => h9) rfl aUk.2.2.2.2.2.2.2.2.2.2.1 ?_
    exact W.iret (v := jC) hx hb hr (fun t ht hW => ⟨⟨jC, 0, rfl, hp, by rw [ht]; exact hP, va_K.moved hW.alike hK, hD⟩, hS.F ht⟩) hS.2.2 aUk.2.2.2.2.2.2.2.2.2.2.2.1
  have hp := hp.2.2.2.2.2.2.2.2.2.2.2.2.2.2 hc0 hc1 hc2 hc3 hc4 hc5 hc6 hc7 hc8 hc9 hc10 hc11 hc12 hc13
  have key : W p l e rm_X10_count s m args below meth c H locs 0 0 (MQ below (q_X10_count dC dI cI cC cZ cB cJ A a_m nY sJ eG iY lY jR jW jZ jO oQ bR aY jQ gY iJ mQ lJ jA bG mK jB mW mJ eJ dG bT aG jC bL jD mLn oF rP dQ aJ aB bW bZ aR aE bI aW bU fJ dO bM bQ bO jY oX qG pW post) args s 0 0 A) (F0 m 166 ls []) := by
    refine lv_bipush (v := (-100)) hx hb aUk.2.2.2.2.2.2.2.2.2.2.2.2.1 bp_m100 ?_
    exact W.iret (v := (-100)) hx hb hr (fun t ht hW => ⟨⟨(-100), 0, rfl, hp, by rw [ht]; exact hP, va_K.moved hW.alike hK, hD⟩, hS.F ht⟩) hS.2.2 aUk.2.2.2.2.2.2.2.2.2.2.2.2.2
  exact lv_tableOut (tgt := 166) hx hb aH6.2.2.2.2.1 (by have g0 := lv_neT (a := 0) hc0 rfl; have g1 := lv_neT (a := 1) hc1 rfl; have g2 := lv_neT (a := 2) hc2 rfl; have g3 := lv_neT (a := 3) hc3 rfl; have g4 := lv_neT (a := 4) hc4 rfl; have g5 := lv_neT (a := 5) hc5 rfl; have g6 := lv_neT (a := 6) hc6 rfl; have g7 := lv_neT (a := 7) hc7 rfl; have g8 := lv_neT (a := 8) hc8 rfl; have g9 := lv_neT (a := 9) hc9 rfl; have g10 := lv_neT (a := 10) hc10 rfl; have g11 := lv_neT (a := 11) hc11 rfl; have g12 := lv_neT (a := 12) hc12 rfl; have g13 := lv_neT (a := 13) hc13 rfl; omega) (by decide) key
abbrev wd_X10_row (cI cC cZ cB cJ : ClassId) (a_m nY sJ eG iY lY jR jW jZ jO oQ bR aY jQ gY iJ mQ lJ jA bG mK jB mW mJ eJ dG : Nat) (bT aG jC bL bY : Int32) (jD : Nat) (mLn oF rP dQ aJ aB bW bZ aR aE bI aW bU fJ dO bM bQ bO jY oX : Int32) (sW : Nat -> Int32) : va_W := [(a_m, .inr (10, [.ref nY, .int bT, .ref sJ, .ref eG, .ref iY, .ref lY, .int aG, .ref jR, .ref jW, .ref jZ, .ref jO, .int jC, .ref oQ, .int bL, .int bY, rdv jO jQ jD, .int mLn, .int oF, .int rP, .int dQ, .ref bR, .ref aY, .int aJ, .int aB, .ref jQ, .int bW, .int bZ, .int aR, .int aE, .int bI, .int aW, .ref gY, .int bU, .ref iJ, .ref mQ, .int fJ, .ref lJ, .int dO, .ref jA, .ref bG, .int bM, .int bQ, .int bO, .ref mK, .ref jB, .ref mW, .int jY, .int oX, .ref mJ, .ref eJ, .ref dG])), (oQ, .inl (cI, 32, .inl sW))]
abbrev q_X10_row (dC : Nat -> ClassId) (dI : Nat -> Nat -> Nat) (cI cC cZ cB cJ : ClassId) (A : Nat -> Prop) (a_m nY sJ eG iY lY jR jW jZ jO oQ bR aY jQ gY iJ mQ lJ jA bG mK jB mW mJ eJ dG : Nat) (bT aG jC bL : Int32) (jD : Nat) (mLn oF rP dQ aJ aB bW bZ aR aE bI aW bU fJ dO bM bQ bO jY oX : Int32) (sW : Nat -> Int32) (post : Int32 -> Int32 -> Prop) : Array Value -> State -> Outcome -> State -> Prop := va_Qi (fun (r u : Int32) => post r u) (fun u t => gB (dC, dI) (tyl cI cC cZ cB cJ) A (wd_X10_row cI cC cZ cB cJ a_m nY sJ eG iY lY jR jW jZ jO oQ bR aY jQ gY iJ mQ lJ jA bG mK jB mW mJ eJ dG bT aG jC bL u jD mLn oF rP dQ aJ aB bW bZ aR aE bI aW bU fJ dO bM bQ bO jY oX sW) t) A
abbrev rm_X10_row : Room := { frames := 1, cells := 0, slots := 0, locals := 22 }
def wp_X10_row (post : Int32 -> Int32 -> Prop) (p0 bL bY : Int32) (sW : Nat -> Int32) : Prop := ∀ v_1 : Int32, v_1 = bL - 1 -> aJY (fun r_2 => (r_2 = 0 -> wp_X10_lost (fun r_3 m_thrown_4 => post r_3 m_thrown_4) 0) /\ (¬ r_2 = 0 -> vp_in p0 32 /\ (∀ v_5 : Int32, v_5 = sW p0.toNatClampNeg -> post v_5 0))) p0 0 v_1
set_option maxHeartbeats 4000000 in
set_option maxRecDepth 100000 in
theorem c_X10_row (l : Launch) (dC : Nat -> ClassId) (dI : Nat -> Nat -> Nat) (cI cC cZ cB cJ : ClassId) (a_m nY sJ eG iY lY jR jW jZ jO oQ bR aY jQ gY iJ mQ lJ jA bG mK jB mW mJ eJ dG sz : Nat) (p0 bT aG jC bL bY : Int32) (jD : Nat) (mLn oF rP dQ aJ aB bW bZ aR aE bI aW bU fJ dO bM bQ bO jY oX : Int32) (sW : Nat -> Int32) (post : Int32 -> Int32 -> Prop) (hw : wp_X10_row post p0 bL bY sW) : Met l yX10_row (gw yX10_row cX10_row 2 (some .int)) rm_X10_row (va_Pc [.ref a_m, .int p0] (gPre (dC, dI) (tyl cI cC cZ cB cJ) (wd_X10_row cI cC cZ cB cJ a_m nY sJ eG iY lY jR jW jZ jO oQ bR aY jQ gY iJ mQ lJ jA bG mK jB mW mJ eJ dG bT aG jC bL bY jD mLn oF rP dQ aJ aB bW bZ aR aE bI aW bU fJ dO bM bQ bO jY oX sW) sz)) (q_X10_row dC dI cI cC cZ cB cJ (va_A (wd_X10_row cI cC cZ cB cJ a_m nY sJ eG iY lY jR jW jZ jO oQ bR aY jQ gY iJ mQ lJ jA bG mK jB mW mJ eJ dG bT aG jC bL bY jD mLn oF rP dQ aJ aB bW bZ aR aE bI aW bU fJ dO bM bQ bO jY oX sW) sz) a_m nY sJ eG iY lY jR jW jZ jO oQ bR aY jQ gY iJ mQ lJ jA bG mK jB mW mJ eJ dG bT aG jC bL jD mLn oF rP dQ aJ aB bW bZ aR aE bI aW bU fJ dO bM bQ bO jY oX sW post) 0 0 (va_A (wd_X10_row cI cC cZ cB cJ a_m nY sJ eG iY lY jR jW jZ jO oQ bR aY jQ gY iJ mQ lJ jA bG mK jB mW mJ eJ dG bT aG jC bL bY jD mLn oF rP dQ aJ aB bW bZ aR aE bI aW bU fJ dO bM bQ bO jY oX sW) sz) := by
  refine aBJ (own := zX) (dC, dI) (tyl cI cC cZ cB cJ) (wd_X10_row cI cC cZ cB cJ a_m nY sJ eG iY lY jR jW jZ jO oQ bR aY jQ gY iJ mQ lJ jA bG mK jB mW mJ eJ dG bT aG jC bL bY jD mLn oF rP dQ aJ aB bW bZ aR aE bI aW bU fJ dO bM bQ bO jY oX sW) sz [.ref a_m, .int p0] (fun A => q_X10_row dC dI cI cC cZ cB cJ A a_m nY sJ eG iY lY jR jW jZ jO oQ bR aY jQ gY iJ mQ lJ jA bG mK jB mW mJ eJ dG bT aG jC bL jD mLn oF rP dQ aJ aB bW bZ aR aE bI aW bU fJ dO bM bQ bO jY oX sW post) aFY rfl (lbz rfl) ?_
  intro p e s m args below meth c A H locs ls C0 hP hD hS hl
  have hl : lv_has ls 2 [(0, .ref a_m), (1, .int p0)] := hl
  obtain ⟨hx, hb, hr, hml, hown, hts, hlocks, hA, hK, hN, tL, tM, hZL, hTL, hZM, hTM, hZX⟩ := id C0
  have hp := hw
  unfold wp_X10_row at hp
  refine lv_aload_n hx hb eX10_row_0.1 rfl (lv_at hl 0 rfl) ?_
  refine lv_iconst (v := 0) hx hb eX10_row_0.2.1 aCi ?_
  refine va_put (D := (dC, dI)) (ci := 10) (v := .int 0) (ty := .int) (C := zX) (T := aBe) (N := 51) hx hb hts aAt aD2 aAa aEC hown hK hP hD hS 0 rfl rfl 14 (lbz rfl) (hts _ q_638) (fun _ h9 => h9) rfl (aAa 14 (lbz rfl)) rfl rfl (lbz rfl) eX10_row_0.2.2.1 (fun H locs hP hD hS => ?_)
  have hPD := PDw (ws' := (wd_X10_row cI cC cZ cB cJ a_m nY sJ eG iY lY jR jW jZ jO oQ bR aY jQ gY iJ mQ lJ jA bG mK jB mW mJ eJ dG bT aG jC bL 0 jD mLn oF rP dQ aJ aB bW bZ aR aE bI aW bU fJ dO bM bQ bO jY oX sW)) hP hD rfl
  have hP := hPD.1
  have hD := hPD.2
  refine lv_iload_n hx hb eX10_row_0.2.2.2.1 rfl (lv_at hl 1 rfl) ?_
  refine lv_iconst (v := 0) hx hb eX10_row_0.2.2.2.2.1 aCi ?_
  refine lv_aload_n hx hb eX10_row_0.2.2.2.2.2.1 rfl (lv_at hl 0 rfl) ?_
  refine va_get (D := (dC, dI)) (ci := 10) (v := .int bL) (C := zX) (T := aBe) (N := 51) hx hb hts aAt hown hK hP 0 rfl rfl 13 (lbz rfl) (hts _ q_847) (fun _ h9 => h9) rfl eX10_row_0.2.2.2.2.2.2.1 ?_
  refine lv_iconst (v := 1) hx hb eX10_row_0.2.2.2.2.2.2.2.1 aDx ?_
  refine lv_isub hx hb eX10_row_0.2.2.2.2.2.2.2.2.1 ?_
  refine lv_topi (fun v_1 aFJ => ?_)
  have hp := hp v_1 aFJ
  refine yW (wc := (aKW cI cC cZ cB cJ)) hP hD hS hA [] [0, 1] rfl rfl rfl rfl (aDn (As := [.int p0, .int 0, .int v_1]) (rest := []) C0 hP hD hS [] rfl rfl (aRu l dC dI cI cC cZ cB cJ H.size p0 0 v_1 _ hp) q_641 q_644 q_643 aBL aRx rfl rfl ⟨lbz rfl, lbz rfl⟩ rfl rfl hl.1 rfl (lv_room (lbz rfl)) eX10_row_0.2.2.2.2.2.2.2.2.2.1 ⟨Nat.zero_le _, Nat.zero_le _⟩) (fun r_2 u H locs hp hP hD hS => ?_)
  have hPD := PDs (ws' := (wd_X10_row cI cC cZ cB cJ a_m nY sJ eG iY lY jR jW jZ jO oQ bR aY jQ gY iJ mQ lJ jA bG mK jB mW mJ eJ dG bT aG jC bL 0 jD mLn oF rP dQ aJ aB bW bZ aR aE bI aW bU fJ dO bM bQ bO jY oX sW)) hP hD [0, 1] (by decide) rfl
  have hP := hPD.1
  have hD := hPD.2
  refine lv_if_eq (tgt := 28) hx hb eX10_row_0.2.2.2.2.2.2.2.2.2.2.1 (by decide) (fun hc => ?_) (fun hc => ?_)
  · have hp := hp.1 hc
    refine lv_aload_n hx hb eX10_row_28.1 rfl (lv_at hl 0 rfl) ?_
    refine yW (wc := (wd_X10_lost cI cC cZ cB cJ a_m nY sJ eG iY lY jR jW jZ jO oQ bR aY jQ gY iJ mQ lJ jA bG mK jB mW mJ eJ dG bT aG jC bL 0 jD mLn oF rP dQ aJ aB bW bZ aR aE bI aW bU fJ dO bM bQ bO jY oX)) hP hD hS hA [0] [1] rfl rfl rfl rfl (zF (As := []) (rest := []) C0 hP hD hS [0] rfl rfl 0 10 rfl rfl (c_X10_lost l dC dI cI cC cZ cB cJ a_m nY sJ eG iY lY jR jW jZ jO oQ bR aY jQ gY iJ mQ lJ jA bG mK jB mW mJ eJ dG H.size bT aG jC bL 0 jD mLn oF rP dQ aJ aB bW bZ aR aE bI aW bU fJ dO bM bQ bO jY oX _ hp) q_745 q_748 q_746 q_747 aBL h_X10_lost rfl rfl ⟨lbz rfl, lbz rfl⟩ rfl rfl hl.1 rfl (lv_room (lbz rfl)) eX10_row_28.2.1 ⟨Nat.zero_le _, Nat.zero_le _⟩) (fun r_3 u H locs hp hP hD hS => ?_)
    obtain ⟨m_thrown_4, rfl⟩ : ∃ z, z = u := ⟨_, rfl⟩
    have hPD := PDs (ws' := (wd_X10_row cI cC cZ cB cJ a_m nY sJ eG iY lY jR jW jZ jO oQ bR aY jQ gY iJ mQ lJ jA bG mK jB mW mJ eJ dG bT aG jC bL m_thrown_4 jD mLn oF rP dQ aJ aB bW bZ aR aE bI aW bU fJ dO bM bQ bO jY oX sW)) hP hD [1, 0] (by decide) rfl
    have hP := hPD.1
    have hD := hPD.2
    exact W.iret (v := r_3) hx hb hr (fun t ht hW => ⟨⟨r_3, m_thrown_4, rfl, hp, by rw [ht]; exact hP, va_K.moved hW.alike hK, hD⟩, hS.F ht⟩) hS.2.2 eX10_row_28.2.2
  · have hp := hp.2 hc
    refine lv_aload_n hx hb eX10_row_0.2.2.2.2.2.2.2.2.2.2.2.1 rfl (lv_at hl 0 rfl) ?_
    refine va_get (D := (dC, dI)) (ci := 10) (v := .ref oQ) (C := zX) (T := aBe) (N := 51) hx hb hts aAt hown hK hP 0 rfl rfl 12 (lbz rfl) (hts _ q_846) (fun _ h9 => h9) rfl eX10_row_0.2.2.2.2.2.2.2.2.2.2.2.2.1 ?_
    refine lv_iload_n hx hb eX10_row_0.2.2.2.2.2.2.2.2.2.2.2.2.2.1 rfl (lv_at hl 1 rfl) ?_
    have hin := hp.1
    have hp := hp.2
    refine va_iald hx hb hK hP 1 0 rfl rfl hin eX10_row_0.2.2.2.2.2.2.2.2.2.2.2.2.2.2.1 ?_
    refine lv_topi (fun v_5 aJD => ?_)
    have hp := hp v_5 aJD
    refine lv_goto (tgt := 32) hx hb eX10_row_0.2.2.2.2.2.2.2.2.2.2.2.2.2.2.2 (by decide) ?_
    exact W.iret (v := v_5) hx hb hr (fun t ht hW => ⟨⟨v_5, 0, rfl, hp, by rw [ht]; exact hP, va_K.moved hW.alike hK, hD⟩, hS.F ht⟩) hS.2.2 eX10_row_28.2.2
